set_option maxHeartbeats 4000000 in
set_option maxRecDepth 100000 in
theorem c_L_listed (l : Launch) (D : va_G) (cA : Nat → ClassId) (sz : Nat) (ws : va_W) (kc ca : Nat) (cf : Nat → Int32) (hkc : ws[kc]? = some (ca, zInts cA 4 cf)) (kj ja : Nat) (jj : Nat → Int32) (hkj : ws[kj]? = some (ja, zInts cA 40 jj)) (kd da : Nat) (dd : Nat → Int32) (hkd : ws[kd]? = some (da, zInts cA 20 dd)) (nj t : Nat) (jt : Nat → Nat) (fin : Nat → Bool) (fw : Nat → Int32) (hcn : cf 2 = nI nj) (hn20 : nj ≤ 20) (ht : t < 2 ^ 31) (hjob : ∀ k, k < nj → jj k = nI (jt k) ∧ jt k < 2 ^ 31 ∧ dd k = bI (fin k) ∧ fw k = (if fin k then -1 else nI (jt k)))(kl lla nl : Nat) (lf : Nat → Int32) (hkl : ws[kl]? = some (lla, zInts cA nl lf)) (hll : (wl fw (nI t) nj).length ≤ nl) (hnl : nl < 2 ^ 31) (n1 : kl ≠ kc) (n2 : kl ≠ kj) (n3 : kl ≠ kd) : Met l yL_listed wsL_listed ({ frames := 0, cells := 0, slots := 0, locals := 0 }) (va_Pc [.ref ca, .ref ja, .ref da, .int (nI (t)), .ref lla] (zM D cA (ws) sz)) (va_Qi (fun (r : Int32) (u : Unit) => r = nI ((wl fw (nI t) nj).length)) (fun u => zB D (va_A (ws) sz) (ws.set kl (lla, zInts cA nl (colF lf (wl fw (nI t) nj))))) (va_A (ws) sz)) 0 0 (va_A (ws) sz) := by
  refine zOpen (cc := cL_listed) (maxL := 7) (ret := (some .int)) (own := RL) (by decide) rfl rfl (Nat.le_of_ble_eq_true rfl) ?_
  intro p e s m below meth c ls hx hb hr hml hts hown hlocks hnm ⟨hZ, hP, hD0, hsz⟩ hl
  subst hsz
  have hD := hD0.self (sz := s.heap.size)
  generalize hAe : va_A (ws) s.heap.size = A at hD ⊢
  have hA : ∀ q : Nat, s.heap.size ≤ q → A q := fun q h => by rw [← hAe]; exact Or.inr h
  have hS : va_S A s.heap s.heap [] := va_S.rf
  have hl : lv_has ls 7 [(0, .ref ca), (1, .ref ja), (2, .ref da), (3, .int (nI (t))), (4, .ref lla)] := hl
  have hle := wl_le (f := fw) (x := nI t)
  have hP : va_P D vwCl (ws.set kl (lla, zInts cA nl (colF lf (wl fw (nI t) 0)))) s.heap := by rw [wl_0, colF_0, zset_self hkl]; exact hP
  have hD : va_D A (ws.set kl (lla, zInts cA nl (colF lf (wl fw (nI t) 0)))) := by rw [wl_0, colF_0, zset_self hkl]; exact hD
  refine lv_iconst (v := nI (0)) hx hb dL_listed_0 (by decide) ?_
  refine lv_istore (lv' := [(5, .int (nI (0))), (0, .ref ca), (1, .ref ja), (2, .ref da), (3, .int (nI (t))), (4, .ref lla)]) hx hb dL_listed_1 hl (by decide) rfl (fun ls hl => ?_)
  refine lv_iconst (v := nI (0)) hx hb dL_listed_3 (by decide) ?_
  refine lv_istore (lv' := [(6, .int (nI (0))), (5, .int (nI (0))), (0, .ref ca), (1, .ref ja), (2, .ref da), (3, .int (nI (t))), (4, .ref lla)]) hx hb dL_listed_4 hl (by decide) rfl (fun ls hl => ?_)
  refine z_loopW (α := Nat × Nat) (fun v => nj - v.2) (fun v H locs ls => lv_has ls 7 [(0, .ref ca), (1, .ref ja), (2, .ref da), (3, .int (nI (t))), (4, .ref lla), (5, .int (nI (v.1))), (6, .int (nI (v.2)))] ∧ va_P D vwCl (ws.set kl (lla, zInts cA nl (colF lf (wl fw (nI t) v.2)))) H ∧ va_D A (ws.set kl (lla, zInts cA nl (colF lf (wl fw (nI t) v.2)))) ∧ va_S A s.heap H locs ∧ v.1 = (wl fw (nI t) v.2).length ∧ v.2 ≤ nj) (fun _ => []) (0, 0) ⟨lv_sub hl [2, 3, 4, 5, 6, 1, 0] rfl, hP, hD, hS, rfl, Nat.zero_le _⟩ ?_
  intro v ih6 H locs ls hv
  obtain ⟨x, k⟩ := v
  obtain ⟨hl, hP, hD, hS, hI⟩ := hv
  have hP : va_P D vwCl (ws.set kl (lla, zInts cA nl (colF lf (wl fw (nI t) k)))) H := hP
  have hD : va_D A (ws.set kl (lla, zInts cA nl (colF lf (wl fw (nI t) k)))) := hD
  have hl : lv_has ls 7 [(0, .ref ca), (1, .ref ja), (2, .ref da), (3, .int (nI (t))), (4, .ref lla), (5, .int (nI (x))), (6, .int (nI (k)))] := hl
  have hI : x = (wl fw (nI t) k).length ∧ k ≤ nj := hI
  obtain ⟨hx1, hkn⟩ := hI
  have hxl := hle k
  refine lv_iload hx hb dL_listed_6 (lv_at hl 6 rfl) ?_
  refine lv_aload_n hx hb dL_listed_8 rfl (lv_at hl 0 rfl) ?_
  refine lv_iconst (v := nI (2)) hx hb dL_listed_9 (by decide) ?_
  refine va_iald hx hb hZ.1 hP kc 0 (zset_n hkc n1) rfl (vp_in_nI (show 2 < 4 by omega) (by omega)) dL_listed_10 ?_
  rw [nI_clamp (show 2 < 2 ^ 31 by omega)]
  refine zx_val (y := nI (nj)) (hcn) ?_
  refine zc_ge (tgt := 45) hx hb (by omega) (by omega) dL_listed_11 (by decide) (fun c_1 => ?_) (fun c_1 => ?_)
  · refine lv_iload hx hb dL_listed_45 (lv_at hl 5 rfl) ?_
    exact zr_qi (S := Unit) (w1 := fun u => ws.set kl (lla, zInts cA nl (colF lf (wl fw (nI t) nj)))) () hx hb hr hlocks (by rw [hx1, show k = nj by omega]) hP hD hS (by rw [show k = nj by omega]) dL_listed_47
  · obtain ⟨hj1, hj2, hj3, hj4⟩ := hjob k (by omega)
    refine lv_aload_n hx hb dL_listed_14 rfl (lv_at hl 2 rfl) ?_
    refine lv_iload hx hb dL_listed_15 (lv_at hl 6 rfl) ?_
    refine va_iald hx hb hZ.1 hP kd 0 (zset_n hkd n3) rfl (vp_in_nI (show k < 20 by omega) (by omega)) dL_listed_17 ?_
    rw [nI_clamp (show k < 2 ^ 31 by omega)]
    refine zx_val (y := bI (fin k)) (hj3) ?_
    refine zb_ne (tgt := 39) hx hb dL_listed_18 (by decide) (fun c_2 => ?_) (fun c_2 => ?_)
    · have hfw : ¬ fw k = nI t := fun q => by
        rw [hj4] at q
        cases hf9 : fin k with
        | true => rw [hf9] at q; exact nI_nm1 ht q.symm
        | false => rw [hf9] at q; first | (rw [show fin k = true by assumption] at hf9; cases hf9) | (have := (nI_eq hj2 ht).mp q; omega)
      rw [← wl_n (n := k) hfw] at hP hD
      refine lv_iinc (v := nI (k + 1)) (lv' := [(6, .int (nI (k + 1))), (0, .ref ca), (1, .ref ja), (2, .ref da), (3, .int (nI (t))), (4, .ref lla), (5, .int (nI (x)))]) hx hb dL_listed_39 hl (k := 6) rfl (zinc 1 _) (by decide) rfl (fun ls hl => ?_)
      refine lv_goto (tgt := 6) hx hb dL_listed_42 (by decide) ?_
      exact ih6 (x, k + 1) H locs ls (by first | omega | (dsimp only; omega)) ⟨lv_sub hl [1, 2, 3, 4, 5, 6, 0] rfl, hP, hD, hS, by show _ = _; rw [wl_n hfw]; exact hx1, by first | omega | (dsimp only; omega) | (dsimp only at *; omega)⟩
    · refine lv_aload_n hx hb dL_listed_21 rfl (lv_at hl 1 rfl) ?_
      refine lv_iload hx hb dL_listed_22 (lv_at hl 6 rfl) ?_
      refine va_iald hx hb hZ.1 hP kj 0 (zset_n hkj n2) rfl (vp_in_nI (show k < 40 by omega) (by omega)) dL_listed_24 ?_
      rw [nI_clamp (show k < 2 ^ 31 by omega)]
      refine zx_val (y := nI (jt k)) (hj1) ?_
      refine lv_iload_n hx hb dL_listed_25 rfl (lv_at hl 3 rfl) ?_
      refine zc_ne (tgt := 39) hx hb (by omega) (by omega) dL_listed_26 (by decide) (fun c_3 => ?_) (fun c_3 => ?_)
      · have hfw : ¬ fw k = nI t := fun q => by
          rw [hj4] at q
          cases hf9 : fin k with
          | true => rw [hf9] at q; exact nI_nm1 ht q.symm
          | false => rw [hf9] at q; first | (rw [show fin k = true by assumption] at hf9; cases hf9) | (have := (nI_eq hj2 ht).mp q; omega)
        rw [← wl_n (n := k) hfw] at hP hD
        refine lv_iinc (v := nI (k + 1)) (lv' := [(6, .int (nI (k + 1))), (0, .ref ca), (1, .ref ja), (2, .ref da), (3, .int (nI (t))), (4, .ref lla), (5, .int (nI (x)))]) hx hb dL_listed_39 hl (k := 6) rfl (zinc 1 _) (by decide) rfl (fun ls hl => ?_)
        refine lv_goto (tgt := 6) hx hb dL_listed_42 (by decide) ?_
        exact ih6 (x, k + 1) H locs ls (by first | omega | (dsimp only; omega)) ⟨lv_sub hl [1, 2, 3, 4, 5, 6, 0] rfl, hP, hD, hS, by show _ = _; rw [wl_n hfw]; exact hx1, by first | omega | (dsimp only; omega) | (dsimp only at *; omega)⟩
      · have hfw : fw k = nI t := by rw [hj4, if_neg (by rw [show fin k = false by assumption]; exact Bool.noConfusion)]; congr 1
        have hlt : x < nl := by
          have h1 := wl_mono (f := fw) (x := nI t) (m := k + 1) nj (by omega)
          rw [wl_y hfw, List.length_append] at h1
          simp at h1; omega
        refine lv_aload hx hb dL_listed_29 (lv_at hl 4 rfl) ?_
        refine lv_iload hx hb dL_listed_31 (lv_at hl 5 rfl) ?_
        refine lv_iload hx hb dL_listed_33 (lv_at hl 6 rfl) ?_
        refine va_iast hx hb hZ.1 hP hD hS kl 0 (zset_s hkl) rfl (vp_in_nI (show x < nl by omega) (by omega)) dL_listed_35 (fun H locs hP hD hS => ?_)
        rw [nI_clamp (show x < 2 ^ 31 by omega)] at hP hD
        rw [zset2, hx1, colF_y, ← wl_y hfw] at hP hD
        refine lv_iinc (v := nI (x + 1)) (lv' := [(5, .int (nI (x + 1))), (0, .ref ca), (1, .ref ja), (2, .ref da), (3, .int (nI (t))), (4, .ref lla), (6, .int (nI (k)))]) hx hb dL_listed_36 hl (k := 5) rfl (zinc 1 _) (by decide) rfl (fun ls hl => ?_)
        refine lv_iinc (v := nI (k + 1)) (lv' := [(6, .int (nI (k + 1))), (5, .int (nI (x + 1))), (0, .ref ca), (1, .ref ja), (2, .ref da), (3, .int (nI (t))), (4, .ref lla)]) hx hb dL_listed_39 hl (k := 6) rfl (zinc 1 _) (by decide) rfl (fun ls hl => ?_)
        refine lv_goto (tgt := 6) hx hb dL_listed_42 (by decide) ?_
        exact ih6 (x + 1, k + 1) H locs ls (by first | omega | (dsimp only; omega)) ⟨lv_sub hl [2, 3, 4, 5, 6, 1, 0] rfl, hP, hD, hS, by show _ = _; rw [wl_y hfw, List.length_append, ← hx1]; rfl, by first | omega | (dsimp only; omega) | (dsimp only at *; omega)⟩

set_option maxHeartbeats 4000000 in
set_option maxRecDepth 100000 in
theorem c_L_time (l : Launch) (D : va_G) (cA : Nat → ClassId) (ws : va_W) (kt ta : Nat) (tf : Nat → Int32) (hkt : ws[kt]? = some (ta, zInts cA 24 tf)) (kf fa : Nat) (ff : Nat → Int32) (hkf : ws[kf]? = some (fa, zInts cA 24 ff)) (kv va : Nat) (vf : Nat → Int32) (hkv : ws[kv]? = some (va, zInts cA 10 vf)) (kj ja : Nat) (jj : Nat → Int32) (hkj : ws[kj]? = some (ja, zInts cA 40 jj)) (kr ra nr : Nat) (rf : Nat → Int32) (hkr : ws[kr]? = some (ra, zInts cA nr rf)) (hnr : nr < 2 ^ 31) (d tp tr le mk : Nat) (hvt : vf (6 + d) = nI tp) (htr : tf tp = nI tr) (hle : tf (4 + tp) = nI le) (hmk : vf d = nI mk) (hmk1 : mk ≤ 1) (h1 : 1 ≤ tr) (h2 : 1 ≤ le) (h3 : tr ≤ 8) (h4 : le ≤ 200) (htp : tp < 4) (hd : d < 2) (P0 : Nat) (hvp : vf (8 + d) = nI P0) (hP0 : P0 ≤ tr * le) (b : Nat → Nat) (fcn : Nat) (hfc : fcn ≤ 6) (hb0 : b 0 = 0) (hbi : ∀ k, k < fcn → b k ≤ b (k + 1) ∧ ff (6 * tp + k) = nI (b (k + 1) - b k)) (hbm : ∀ k, k ≤ fcn → b k ≤ tr * le) (jf : Nat → Nat) (Rl : List Nat) (hrow : ∀ i, i < Rl.length → rf i = nI (Rl.getD i 0)) (hR : ∀ x, x ∈ Rl → x < 20 ∧ jj x = nI tp ∧ jj (20 + x) = nI (jf x) ∧ jf x < fcn) (hln : Rl.length ≤ nr) (mm : Nat) (hmm : Rl.length = mm) : Met l yL_time wsL_time ({ frames := 2, cells := 0, slots := 0, locals := 55 }) (va_Pc [.ref ta, .ref fa, .ref va, .ref ja, .int (nI (d)), .ref ra, .int (nI (mm))] (zS D cA ws)) (vp_Si (fun r => r = nI (tmJ (zpa mk) (zsp mk) tr le b jf P0 Rl))) 0 0 zF := by
  refine zOpen (cc := cL_time) (maxL := 13) (ret := (some .int)) (own := RL) (by decide) rfl rfl (Nat.le_of_ble_eq_true rfl) ?_
  intro p e s m below meth c ls hx hb hr hml hts hown hlocks hnm ⟨hZ, hP⟩ hl
  have hl : lv_has ls 13 [(0, .ref ta), (1, .ref fa), (2, .ref va), (3, .ref ja), (4, .int (nI (d))), (5, .ref ra), (6, .int (nI (mm)))] := hl
  refine lv_aload_n hx hb dL_time_0 rfl (lv_at hl 2 rfl) ?_
  refine lv_bipush (v := nI (8)) hx hb dL_time_1 (by decide) ?_
  refine lv_iload hx hb dL_time_3 (lv_at hl 4 rfl) ?_
  refine zo_add hx hb dL_time_5 ?_
  refine va_iald hx hb hZ.1 hP kv 0 hkv rfl (vp_in_nI (show 8 + d < 10 by omega) (by omega)) dL_time_6 ?_
  rw [nI_clamp (show 8 + d < 2 ^ 31 by omega)]
  refine zx_val (y := nI (P0)) (hvp) ?_
  refine lv_istore (lv' := [(7, .int (nI (P0))), (0, .ref ta), (1, .ref fa), (2, .ref va), (3, .ref ja), (4, .int (nI (d))), (5, .ref ra), (6, .int (nI (mm)))]) hx hb dL_time_7 hl (by decide) rfl (fun ls hl => ?_)
  refine lv_iconst (v := nI (0)) hx hb dL_time_9 (by decide) ?_
  refine lv_istore (lv' := [(8, .int (nI (0))), (7, .int (nI (P0))), (0, .ref ta), (1, .ref fa), (2, .ref va), (3, .ref ja), (4, .int (nI (d))), (5, .ref ra), (6, .int (nI (mm)))]) hx hb dL_time_10 hl (by decide) rfl (fun ls hl => ?_)
  refine lv_iconst (v := nI (0)) hx hb dL_time_12 (by decide) ?_
  refine lv_istore (lv' := [(9, .int (nI (0))), (8, .int (nI (0))), (7, .int (nI (P0))), (0, .ref ta), (1, .ref fa), (2, .ref va), (3, .ref ja), (4, .int (nI (d))), (5, .ref ra), (6, .int (nI (mm)))]) hx hb dL_time_13 hl (by decide) rfl (fun ls hl => ?_)
  refine z_loop (α := Nat × Nat × Nat) (fun v => mm - v.2.2) (fun v ls => lv_has ls 13 [(0, .ref ta), (1, .ref fa), (2, .ref va), (3, .ref ja), (4, .int (nI (d))), (5, .ref ra), (6, .int (nI (mm))), (7, .int (nI (v.1))), (8, .int (nI (v.2.1))), (9, .int (nI (v.2.2)))] ∧ v.2.1 + tmJ (zpa mk) (zsp mk) tr le b jf v.1 (Rl.drop v.2.2) = tmJ (zpa mk) (zsp mk) tr le b jf P0 Rl ∧ v.2.2 ≤ mm ∧ v.1 ≤ tr * le) (fun _ => []) (P0, 0, 0) ⟨lv_sub hl [3, 4, 5, 6, 7, 8, 9, 2, 1, 0] rfl, ⟨by rw [List.drop_zero]; exact Nat.zero_add _, Nat.zero_le _, hP0⟩⟩ ?_
  intro v ih15 ls hv
  obtain ⟨q, x0, k⟩ := v
  obtain ⟨hl, hI⟩ := hv
  have hl : lv_has ls 13 [(0, .ref ta), (1, .ref fa), (2, .ref va), (3, .ref ja), (4, .int (nI (d))), (5, .ref ra), (6, .int (nI (mm))), (7, .int (nI (q))), (8, .int (nI (x0))), (9, .int (nI (k)))] := hl
  have hI : x0 + tmJ (zpa mk) (zsp mk) tr le b jf q (Rl.drop k) = tmJ (zpa mk) (zsp mk) tr le b jf P0 Rl ∧ k ≤ mm ∧ q ≤ tr * le := hI
  obtain ⟨hsum, hkl, hqm⟩ := hI
  refine lv_iload hx hb dL_time_15 (lv_at hl 9 rfl) ?_
  refine lv_iload hx hb dL_time_17 (lv_at hl 6 rfl) ?_
  refine zc_ge (tgt := 103) hx hb (by omega) (by omega) dL_time_19 (by decide) (fun c_1 => ?_) (fun c_1 => ?_)
  · refine lv_iload hx hb dL_time_103 (lv_at hl 8 rfl) ?_
    exact zr_i hx hb hr hlocks (by rw [← hsum, show k = Rl.length by omega, List.drop_length]; rfl) dL_time_105
  · obtain ⟨x, hxe⟩ : ∃ x, x = Rl.getD k 0 := ⟨_, rfl⟩
    obtain ⟨hx20, hj1, hj2, hj3⟩ := hR x (by rw [hxe]; exact getD_mem (by omega))
    have hrk : rf k = nI x := by rw [hrow k (by omega), hxe]
    obtain ⟨hbx1, hbx2⟩ := hbi (jf x) hj3
    have hbm1 := hbm (jf x) (by omega)
    have hbm2 := hbm (jf x + 1) (by omega)
    refine lv_aload_n hx hb dL_time_22 rfl (lv_at hl 3 rfl) ?_
    refine lv_aload hx hb dL_time_23 (lv_at hl 5 rfl) ?_
    refine lv_iload hx hb dL_time_25 (lv_at hl 9 rfl) ?_
    refine va_iald hx hb hZ.1 hP kr 0 hkr rfl (vp_in_nI (show k < nr by omega) (by omega)) dL_time_27 ?_
    rw [nI_clamp (show k < 2 ^ 31 by omega)]
    refine zx_val (y := nI (x)) (hrk) ?_
    refine va_iald hx hb hZ.1 hP kj 0 hkj rfl (vp_in_nI (show x < 40 by omega) (by omega)) dL_time_28 ?_
    rw [nI_clamp (show x < 2 ^ 31 by omega)]
    refine zx_val (y := nI (tp)) (hj1) ?_
    refine lv_istore (lv' := [(10, .int (nI (tp))), (0, .ref ta), (1, .ref fa), (2, .ref va), (3, .ref ja), (4, .int (nI (d))), (5, .ref ra), (6, .int (nI (mm))), (7, .int (nI (q))), (8, .int (nI (x0))), (9, .int (nI (k)))]) hx hb dL_time_29 hl (by decide) rfl (fun ls hl => ?_)
    refine lv_aload_n hx hb dL_time_31 rfl (lv_at hl 4 rfl) ?_
    refine lv_bipush (v := nI (20)) hx hb dL_time_32 (by decide) ?_
    refine lv_aload hx hb dL_time_34 (lv_at hl 6 rfl) ?_
    refine lv_iload hx hb dL_time_36 (lv_at hl 10 rfl) ?_
    refine va_iald hx hb hZ.1 hP kr 0 hkr rfl (vp_in_nI (show k < nr by omega) (by omega)) dL_time_38 ?_
    rw [nI_clamp (show k < 2 ^ 31 by omega)]
    refine zx_val (y := nI (x)) (hrk) ?_
    refine zo_add hx hb dL_time_39 ?_
    refine va_iald hx hb hZ.1 hP kj 0 hkj rfl (vp_in_nI (show 20 + x < 40 by omega) (by omega)) dL_time_40 ?_
    rw [nI_clamp (show 20 + x < 2 ^ 31 by omega)]
    refine zx_val (y := nI (jf x)) (hj2) ?_
    refine lv_istore (lv' := [(11, .int (nI (jf x))), (10, .int (nI (tp))), (0, .ref ta), (1, .ref fa), (2, .ref va), (3, .ref ja), (4, .int (nI (d))), (5, .ref ra), (6, .int (nI (mm))), (7, .int (nI (q))), (8, .int (nI (x0))), (9, .int (nI (k)))]) hx hb dL_time_41 hl (by decide) rfl (fun ls hl => ?_)
    refine lv_aload_n hx hb dL_time_43 rfl (lv_at hl 3 rfl) ?_
    refine lv_iload hx hb dL_time_44 (lv_at hl 1 rfl) ?_
    refine lv_iload hx hb dL_time_46 (lv_at hl 0 rfl) ?_
    refine zk_S_i (n := 3) (As := [.ref fa, .int (nI (tp)), .int (nI (jf x))]) (rest := []) hx hb hml hts hown hZ hP (c_L_start l D cA _ kf fa ff hkf tp (jf x) b hb0 (fun k hk => hbi k (by omega)) (by omega)) gL_time_L_start rfl ⟨rfl, rfl⟩ ⟨by decide +kernel, Nat.le_of_ble_eq_true rfl, Nat.le_of_ble_eq_true rfl⟩ hl.1 rfl (Nat.le_of_ble_eq_true rfl) ⟨Nat.le_of_ble_eq_true rfl, Nat.le_of_ble_eq_true rfl⟩ rfl dL_time_48 (fun r_2 hr_3 => ?_)
    obtain rfl := show r_2 = _ from hr_3
    refine lv_istore (lv' := [(12, .int (nI (b (jf x)))), (11, .int (nI (jf x))), (10, .int (nI (tp))), (0, .ref ta), (1, .ref fa), (2, .ref va), (3, .ref ja), (4, .int (nI (d))), (5, .ref ra), (6, .int (nI (mm))), (7, .int (nI (q))), (8, .int (nI (x0))), (9, .int (nI (k)))]) hx hb dL_time_51 hl (by decide) rfl (fun ls hl => ?_)
    refine lv_iload hx hb dL_time_53 (lv_at hl 11 rfl) ?_
    refine lv_aload_n hx hb dL_time_55 rfl (lv_at hl 3 rfl) ?_
    refine lv_aload_n hx hb dL_time_56 rfl (lv_at hl 5 rfl) ?_
    refine lv_iload hx hb dL_time_57 (lv_at hl 7 rfl) ?_
    refine lv_iload hx hb dL_time_59 (lv_at hl 10 rfl) ?_
    refine lv_iload hx hb dL_time_61 (lv_at hl 0 rfl) ?_
    refine zk_S_i (n := 5) (As := [.ref ta, .ref va, .int (nI (d)), .int (nI (q)), .int (nI (b (jf x)))]) (rest := [.int (nI (x0))]) hx hb hml hts hown hZ hP (c_L_way l D cA _ kt ta tf hkt kv va vf hkv d tp tr le mk hvt htr hle hmk hmk1 h1 h2 h3 h4 htp hd q (b (jf x)) (by omega) (by omega)) gL_time_L_way rfl ⟨rfl, rfl⟩ ⟨by decide +kernel, Nat.le_of_ble_eq_true rfl, Nat.le_of_ble_eq_true rfl⟩ hl.1 rfl (Nat.le_of_ble_eq_true rfl) ⟨Nat.le_of_ble_eq_true rfl, Nat.le_of_ble_eq_true rfl⟩ rfl dL_time_63 (fun r_4 hr_5 => ?_)
    obtain rfl := show r_4 = _ from hr_5
    refine lv_iconst (v := nI (3)) hx hb dL_time_66 (by decide) ?_
    refine lv_aload_n hx hb dL_time_67 rfl (lv_at hl 4 rfl) ?_
    refine lv_bipush (v := nI (6)) hx hb dL_time_68 (by decide) ?_
    refine lv_iload hx hb dL_time_70 (lv_at hl 2 rfl) ?_
    refine zo_mul hx hb dL_time_72 ?_
    refine lv_iload hx hb dL_time_73 (lv_at hl 1 rfl) ?_
    refine zo_add hx hb dL_time_75 ?_
    refine va_iald hx hb hZ.1 hP kf 0 hkf rfl (vp_in_nI (show (6 * tp) + (jf x) < 24 by omega) (by omega)) dL_time_76 ?_
    rw [nI_clamp (show (6 * tp) + (jf x) < 2 ^ 31 by omega)]
    refine zx_val (y := nI (b (jf x + 1) - b (jf x))) (hbx2) ?_
    refine zo_mul hx hb dL_time_77 ?_
    refine zo_add hx hb dL_time_78 ?_
    refine zo_add hx hb dL_time_79 ?_
    refine lv_istore (lv' := [(8, .int (nI (x0 + ((wayT (zpa mk) (zsp mk) tr le q (b (jf x))) + (3 * (b (jf x + 1) - b (jf x))))))), (12, .int (nI (b (jf x)))), (11, .int (nI (jf x))), (10, .int (nI (tp))), (0, .ref ta), (1, .ref fa), (2, .ref va), (3, .ref ja), (4, .int (nI (d))), (5, .ref ra), (6, .int (nI (mm))), (7, .int (nI (q))), (9, .int (nI (k)))]) hx hb dL_time_80 hl (by decide) rfl (fun ls hl => ?_)
    refine lv_iload hx hb dL_time_82 (lv_at hl 1 rfl) ?_
    refine lv_aload_n hx hb dL_time_84 rfl (lv_at hl 5 rfl) ?_
    refine lv_bipush (v := nI (6)) hx hb dL_time_85 (by decide) ?_
    refine lv_iload hx hb dL_time_87 (lv_at hl 3 rfl) ?_
    refine zo_mul hx hb dL_time_89 ?_
    refine lv_iload hx hb dL_time_90 (lv_at hl 2 rfl) ?_
    refine zo_add hx hb dL_time_92 ?_
    refine va_iald hx hb hZ.1 hP kf 0 hkf rfl (vp_in_nI (show (6 * tp) + (jf x) < 24 by omega) (by omega)) dL_time_93 ?_
    rw [nI_clamp (show (6 * tp) + (jf x) < 2 ^ 31 by omega)]
    refine zx_val (y := nI (b (jf x + 1) - b (jf x))) (hbx2) ?_
    refine zo_add hx hb dL_time_94 ?_
    refine zx_val (y := nI (b (jf x + 1))) (by congr 1; omega) ?_
    refine lv_istore (lv' := [(7, .int (nI (b (jf x + 1)))), (8, .int (nI (x0 + ((wayT (zpa mk) (zsp mk) tr le q (b (jf x))) + (3 * (b (jf x + 1) - b (jf x))))))), (12, .int (nI (b (jf x)))), (11, .int (nI (jf x))), (10, .int (nI (tp))), (0, .ref ta), (1, .ref fa), (2, .ref va), (3, .ref ja), (4, .int (nI (d))), (5, .ref ra), (6, .int (nI (mm))), (9, .int (nI (k)))]) hx hb dL_time_95 hl (by decide) rfl (fun ls hl => ?_)
    refine lv_iinc (v := nI (k + 1)) (lv' := [(9, .int (nI (k + 1))), (7, .int (nI (b (jf x + 1)))), (8, .int (nI (x0 + ((wayT (zpa mk) (zsp mk) tr le q (b (jf x))) + (3 * (b (jf x + 1) - b (jf x))))))), (12, .int (nI (b (jf x)))), (11, .int (nI (jf x))), (10, .int (nI (tp))), (0, .ref ta), (1, .ref fa), (2, .ref va), (3, .ref ja), (4, .int (nI (d))), (5, .ref ra), (6, .int (nI (mm)))]) hx hb dL_time_97 hl (k := 12) rfl (zinc 1 _) (by decide) rfl (fun ls hl => ?_)
    refine lv_goto (tgt := 15) hx hb dL_time_100 (by decide) ?_
    exact ih15 (b (jf x + 1), x0 + ((wayT (zpa mk) (zsp mk) tr le q (b (jf x))) + (3 * (b (jf x + 1) - b (jf x)))), k + 1) ls (by first | omega | (dsimp only; omega)) ⟨lv_sub hl [6, 7, 8, 9, 10, 11, 12, 1, 2, 0] rfl, ⟨by rw [← hsum, drop_getD (L := Rl) (i := k) (by first | omega | (dsimp only; omega) | (dsimp only at *; omega)), ← hxe]; show _ = x0 + (legT _ _ _ _ _ _ _ + _); unfold legT; rw [Nat.add_assoc], by first | omega | (dsimp only; omega) | (dsimp only at *; omega), by first | omega | (dsimp only; omega) | (dsimp only at *; omega)⟩⟩

set_option maxHeartbeats 4000000 in
set_option maxRecDepth 100000 in
theorem c_L_runs (l : Launch) (D : va_G) (cA : Nat → ClassId) (sz : Nat) (ws : va_W) (kt ta : Nat) (tf : Nat → Int32) (hkt : ws[kt]? = some (ta, zInts cA 24 tf)) (kf fa : Nat) (ff : Nat → Int32) (hkf : ws[kf]? = some (fa, zInts cA 24 ff)) (kv va : Nat) (vf : Nat → Int32) (hkv : ws[kv]? = some (va, zInts cA 10 vf)) (d tp tr le mk : Nat) (hvt : vf (6 + d) = nI tp) (htr : tf tp = nI tr) (hle : tf (4 + tp) = nI le) (hmk : vf d = nI mk) (hmk1 : mk ≤ 1) (h1 : 1 ≤ tr) (h2 : 1 ≤ le) (h3 : tr ≤ 8) (h4 : le ≤ 200) (htp : tp < 4) (hd : d < 2) (P0 : Nat) (hvp : vf (8 + d) = nI P0) (hP0 : P0 ≤ tr * le) (b : Nat → Nat) (fcn : Nat) (hfc : fcn ≤ 6) (hb0 : b 0 = 0) (hbi : ∀ k, k < fcn → b k ≤ b (k + 1) ∧ ff (6 * tp + k) = nI (b (k + 1) - b k)) (hbm : ∀ k, k ≤ fcn → b k ≤ tr * le) (fl : Nat) (hfl : fl < fcn) (n1 : kv ≠ kt) (n2 : kv ≠ kf) : Met l yL_runs wsL_runs ({ frames := 2, cells := 0, slots := 0, locals := 55 }) (va_Pc [.ref ta, .ref fa, .ref va, .int (nI (d)), .int (nI (fl))] (zM D cA (ws) sz)) (va_Qi (fun (r : Int32) (u : Unit) => r = nI (legT (zpa mk) (zsp mk) tr le b P0 fl)) (fun u => zB D (va_A (ws) sz) (ws.set kv (va, zInts cA 10 (upd (upd (upd vf (2 + d) (vf (2 + d) + nI (legT (zpa mk) (zsp mk) tr le b P0 fl))) (4 + d) (vf (4 + d) + nI 1)) (8 + d) (nI (b (fl + 1))))))) (va_A (ws) sz)) 0 0 (va_A (ws) sz) := by
  refine zOpen (cc := cL_runs) (maxL := 8) (ret := (some .int)) (own := RL) (by decide) rfl rfl (Nat.le_of_ble_eq_true rfl) ?_
  intro p e s m below meth c ls hx hb hr hml hts hown hlocks hnm ⟨hZ, hP, hD0, hsz⟩ hl
  subst hsz
  have hD := hD0.self (sz := s.heap.size)
  generalize hAe : va_A (ws) s.heap.size = A at hD ⊢
  have hA : ∀ q : Nat, s.heap.size ≤ q → A q := fun q h => by rw [← hAe]; exact Or.inr h
  have hS : va_S A s.heap s.heap [] := va_S.rf
  have hl : lv_has ls 8 [(0, .ref ta), (1, .ref fa), (2, .ref va), (3, .int (nI (d))), (4, .int (nI (fl)))] := hl
  obtain ⟨hbx1, hbx2⟩ := hbi fl hfl
  have hbm1 := hbm fl (by omega)
  have hbm2 := hbm (fl + 1) (by omega)
  refine lv_aload_n hx hb dL_runs_0 rfl (lv_at hl 1 rfl) ?_
  refine lv_aload_n hx hb dL_runs_1 rfl (lv_at hl 2 rfl) ?_
  refine lv_bipush (v := nI (6)) hx hb dL_runs_2 (by decide) ?_
  refine lv_iload_n hx hb dL_runs_4 rfl (lv_at hl 3 rfl) ?_
  refine zo_add hx hb dL_runs_5 ?_
  refine va_iald hx hb hZ.1 hP kv 0 hkv rfl (vp_in_nI (show 6 + d < 10 by omega) (by omega)) dL_runs_6 ?_
  rw [nI_clamp (show 6 + d < 2 ^ 31 by omega)]
  refine zx_val (y := nI (tp)) (hvt) ?_
  refine lv_iload hx hb dL_runs_7 (lv_at hl 4 rfl) ?_
  refine zk_S_i (n := 3) (As := [.ref fa, .int (nI (tp)), .int (nI (fl))]) (rest := []) hx hb hml hts hown hZ hP (c_L_start l D cA _ kf fa ff hkf tp fl b hb0 (fun k hk => hbi k (by omega)) (by omega)) gL_runs_L_start rfl ⟨rfl, rfl⟩ ⟨by decide +kernel, Nat.le_of_ble_eq_true rfl, Nat.le_of_ble_eq_true rfl⟩ hl.1 rfl (Nat.le_of_ble_eq_true rfl) ⟨Nat.le_of_ble_eq_true rfl, Nat.le_of_ble_eq_true rfl⟩ rfl dL_runs_9 (fun r_1 hr_2 => ?_)
  obtain rfl := show r_1 = _ from hr_2
  refine lv_istore (lv' := [(5, .int (nI (b fl))), (0, .ref ta), (1, .ref fa), (2, .ref va), (3, .int (nI (d))), (4, .int (nI (fl)))]) hx hb dL_runs_12 hl (by decide) rfl (fun ls hl => ?_)
  refine lv_aload_n hx hb dL_runs_14 rfl (lv_at hl 2 rfl) ?_
  refine lv_bipush (v := nI (6)) hx hb dL_runs_15 (by decide) ?_
  refine lv_aload_n hx hb dL_runs_17 rfl (lv_at hl 3 rfl) ?_
  refine lv_bipush (v := nI (6)) hx hb dL_runs_18 (by decide) ?_
  refine lv_iload_n hx hb dL_runs_20 rfl (lv_at hl 4 rfl) ?_
  refine zo_add hx hb dL_runs_21 ?_
  refine va_iald hx hb hZ.1 hP kv 0 hkv rfl (vp_in_nI (show 6 + d < 10 by omega) (by omega)) dL_runs_22 ?_
  rw [nI_clamp (show 6 + d < 2 ^ 31 by omega)]
  refine zx_val (y := nI (tp)) (hvt) ?_
  refine zo_mul hx hb dL_runs_23 ?_
  refine lv_iload hx hb dL_runs_24 (lv_at hl 5 rfl) ?_
  refine zo_add hx hb dL_runs_26 ?_
  refine va_iald hx hb hZ.1 hP kf 0 hkf rfl (vp_in_nI (show (6 * tp) + fl < 24 by omega) (by omega)) dL_runs_27 ?_
  rw [nI_clamp (show (6 * tp) + fl < 2 ^ 31 by omega)]
  refine zx_val (y := nI (b (fl + 1) - b fl)) (hbx2) ?_
  refine lv_istore (lv' := [(6, .int (nI (b (fl + 1) - b fl))), (5, .int (nI (b fl))), (0, .ref ta), (1, .ref fa), (2, .ref va), (3, .int (nI (d))), (4, .int (nI (fl)))]) hx hb dL_runs_28 hl (by decide) rfl (fun ls hl => ?_)
  refine lv_aload_n hx hb dL_runs_30 rfl (lv_at hl 2 rfl) ?_
  refine lv_aload_n hx hb dL_runs_31 rfl (lv_at hl 4 rfl) ?_
  refine lv_iload_n hx hb dL_runs_32 rfl (lv_at hl 5 rfl) ?_
  refine lv_aload_n hx hb dL_runs_33 rfl (lv_at hl 4 rfl) ?_
  refine lv_bipush (v := nI (8)) hx hb dL_runs_34 (by decide) ?_
  refine lv_iload_n hx hb dL_runs_36 rfl (lv_at hl 5 rfl) ?_
  refine zo_add hx hb dL_runs_37 ?_
  refine va_iald hx hb hZ.1 hP kv 0 hkv rfl (vp_in_nI (show 8 + d < 10 by omega) (by omega)) dL_runs_38 ?_
  rw [nI_clamp (show 8 + d < 2 ^ 31 by omega)]
  refine zx_val (y := nI (P0)) (hvp) ?_
  refine lv_iload hx hb dL_runs_39 (lv_at hl 1 rfl) ?_
  refine zk_S_i (n := 5) (As := [.ref ta, .ref va, .int (nI (d)), .int (nI (P0)), .int (nI (b fl))]) (rest := []) hx hb hml hts hown hZ hP (c_L_way l D cA _ kt ta tf hkt kv va vf hkv d tp tr le mk hvt htr hle hmk hmk1 h1 h2 h3 h4 htp hd P0 (b fl) (by omega) (by omega)) gL_runs_L_way rfl ⟨rfl, rfl⟩ ⟨by decide +kernel, Nat.le_of_ble_eq_true rfl, Nat.le_of_ble_eq_true rfl⟩ hl.1 rfl (Nat.le_of_ble_eq_true rfl) ⟨Nat.le_of_ble_eq_true rfl, Nat.le_of_ble_eq_true rfl⟩ rfl dL_runs_41 (fun r_3 hr_4 => ?_)
  obtain rfl := show r_3 = _ from hr_4
  refine lv_iconst (v := nI (3)) hx hb dL_runs_44 (by decide) ?_
  refine lv_iload hx hb dL_runs_45 (lv_at hl 0 rfl) ?_
  refine zo_mul hx hb dL_runs_47 ?_
  refine zo_add hx hb dL_runs_48 ?_
  refine lv_istore (lv' := [(7, .int (nI ((wayT (zpa mk) (zsp mk) tr le P0 (b fl)) + (3 * (b (fl + 1) - b fl))))), (6, .int (nI (b (fl + 1) - b fl))), (5, .int (nI (b fl))), (0, .ref ta), (1, .ref fa), (2, .ref va), (3, .int (nI (d))), (4, .int (nI (fl)))]) hx hb dL_runs_49 hl (by decide) rfl (fun ls hl => ?_)
  refine lv_aload_n hx hb dL_runs_51 rfl (lv_at hl 5 rfl) ?_
  refine lv_iconst (v := nI (2)) hx hb dL_runs_52 (by decide) ?_
  refine lv_iload_n hx hb dL_runs_53 rfl (lv_at hl 6 rfl) ?_
  refine zo_add hx hb dL_runs_54 ?_
  refine lv_dup2_11 hx hb dL_runs_55 rfl rfl ?_
  refine va_iald hx hb hZ.1 hP kv 0 hkv rfl (vp_in_nI (show 2 + d < 10 by omega) (by omega)) dL_runs_56 ?_
  rw [nI_clamp (show 2 + d < 2 ^ 31 by omega)]
  refine lv_iload hx hb dL_runs_57 (lv_at hl 0 rfl) ?_
  refine lv_iadd hx hb dL_runs_59 ?_
  refine va_iast hx hb hZ.1 hP hD hS kv 0 hkv rfl (vp_in_nI (show 2 + d < 10 by omega) (by omega)) dL_runs_60 (fun H locs hP hD hS => ?_)
  rw [nI_clamp (show 2 + d < 2 ^ 31 by omega)] at hP hD
  have hP : va_P D vwCl (ws.set kv (va, zInts cA 10 (upd vf (2 + d) ((vf (2 + d)) + (nI ((wayT (zpa mk) (zsp mk) tr le P0 (b fl)) + (3 * (b (fl + 1) - b fl)))))))) H := hP
  have hD : va_D A (ws.set kv (va, zInts cA 10 (upd vf (2 + d) ((vf (2 + d)) + (nI ((wayT (zpa mk) (zsp mk) tr le P0 (b fl)) + (3 * (b (fl + 1) - b fl)))))))) := hD
  refine lv_aload_n hx hb dL_runs_61 rfl (lv_at hl 5 rfl) ?_
  refine lv_iconst (v := nI (4)) hx hb dL_runs_62 (by decide) ?_
  refine lv_iload_n hx hb dL_runs_63 rfl (lv_at hl 6 rfl) ?_
  refine zo_add hx hb dL_runs_64 ?_
  refine lv_dup2_11 hx hb dL_runs_65 rfl rfl ?_
  refine va_iald hx hb hZ.1 hP kv 0 (zset_s hkv) rfl (vp_in_nI (show 4 + d < 10 by omega) (by omega)) dL_runs_66 ?_
  rw [nI_clamp (show 4 + d < 2 ^ 31 by omega)]
  refine zx_val (y := vf (4 + d)) (pk_un (by omega)) ?_
  refine lv_iconst (v := nI (1)) hx hb dL_runs_67 (by decide) ?_
  refine lv_iadd hx hb dL_runs_68 ?_
  refine va_iast hx hb hZ.1 hP hD hS kv 0 (zset_s hkv) rfl (vp_in_nI (show 4 + d < 10 by omega) (by omega)) dL_runs_69 (fun H locs hP hD hS => ?_)
  rw [nI_clamp (show 4 + d < 2 ^ 31 by omega)] at hP hD
  have hP : va_P D vwCl ((ws.set kv (va, zInts cA 10 (upd vf (2 + d) ((vf (2 + d)) + (nI ((wayT (zpa mk) (zsp mk) tr le P0 (b fl)) + (3 * (b (fl + 1) - b fl)))))))).set kv (va, zInts cA 10 (upd (upd vf (2 + d) ((vf (2 + d)) + (nI ((wayT (zpa mk) (zsp mk) tr le P0 (b fl)) + (3 * (b (fl + 1) - b fl)))))) (4 + d) ((vf (4 + d)) + (nI (1)))))) H := hP
  have hD : va_D A ((ws.set kv (va, zInts cA 10 (upd vf (2 + d) ((vf (2 + d)) + (nI ((wayT (zpa mk) (zsp mk) tr le P0 (b fl)) + (3 * (b (fl + 1) - b fl)))))))).set kv (va, zInts cA 10 (upd (upd vf (2 + d) ((vf (2 + d)) + (nI ((wayT (zpa mk) (zsp mk) tr le P0 (b fl)) + (3 * (b (fl + 1) - b fl)))))) (4 + d) ((vf (4 + d)) + (nI (1)))))) := hD
  refine lv_aload_n hx hb dL_runs_70 rfl (lv_at hl 5 rfl) ?_
  refine lv_bipush (v := nI (8)) hx hb dL_runs_71 (by decide) ?_
  refine lv_iload_n hx hb dL_runs_73 rfl (lv_at hl 6 rfl) ?_
  refine zo_add hx hb dL_runs_74 ?_
  refine lv_iload hx hb dL_runs_75 (lv_at hl 2 rfl) ?_
  refine lv_iload hx hb dL_runs_77 (lv_at hl 1 rfl) ?_
  refine zo_add hx hb dL_runs_79 ?_
  refine zx_val (y := nI (b (fl + 1))) (by congr 1; omega) ?_
  refine va_iast hx hb hZ.1 hP hD hS kv 0 (zset_s (zset_s hkv)) rfl (vp_in_nI (show 8 + d < 10 by omega) (by omega)) dL_runs_80 (fun H locs hP hD hS => ?_)
  rw [nI_clamp (show 8 + d < 2 ^ 31 by omega)] at hP hD
  have hP : va_P D vwCl (((ws.set kv (va, zInts cA 10 (upd vf (2 + d) ((vf (2 + d)) + (nI ((wayT (zpa mk) (zsp mk) tr le P0 (b fl)) + (3 * (b (fl + 1) - b fl)))))))).set kv (va, zInts cA 10 (upd (upd vf (2 + d) ((vf (2 + d)) + (nI ((wayT (zpa mk) (zsp mk) tr le P0 (b fl)) + (3 * (b (fl + 1) - b fl)))))) (4 + d) ((vf (4 + d)) + (nI (1)))))).set kv (va, zInts cA 10 (upd (upd (upd vf (2 + d) ((vf (2 + d)) + (nI ((wayT (zpa mk) (zsp mk) tr le P0 (b fl)) + (3 * (b (fl + 1) - b fl)))))) (4 + d) ((vf (4 + d)) + (nI (1)))) (8 + d) (nI (b (fl + 1)))))) H := hP
  have hD : va_D A (((ws.set kv (va, zInts cA 10 (upd vf (2 + d) ((vf (2 + d)) + (nI ((wayT (zpa mk) (zsp mk) tr le P0 (b fl)) + (3 * (b (fl + 1) - b fl)))))))).set kv (va, zInts cA 10 (upd (upd vf (2 + d) ((vf (2 + d)) + (nI ((wayT (zpa mk) (zsp mk) tr le P0 (b fl)) + (3 * (b (fl + 1) - b fl)))))) (4 + d) ((vf (4 + d)) + (nI (1)))))).set kv (va, zInts cA 10 (upd (upd (upd vf (2 + d) ((vf (2 + d)) + (nI ((wayT (zpa mk) (zsp mk) tr le P0 (b fl)) + (3 * (b (fl + 1) - b fl)))))) (4 + d) ((vf (4 + d)) + (nI (1)))) (8 + d) (nI (b (fl + 1)))))) := hD
  refine lv_iload hx hb dL_runs_81 (lv_at hl 0 rfl) ?_
  exact zr_qi (S := Unit) (w1 := fun u => ws.set kv (va, zInts cA 10 (upd (upd (upd vf (2 + d) (vf (2 + d) + nI (legT (zpa mk) (zsp mk) tr le b P0 fl))) (4 + d) (vf (4 + d) + nI 1)) (8 + d) (nI (b (fl + 1)))))) () hx hb hr hlocks (rfl) hP hD hS (by rw [zset2, zset2]; rfl) dL_runs_83
