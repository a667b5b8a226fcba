set_option maxHeartbeats 4000000 in
set_option maxRecDepth 100000 in
theorem c_L_best (l : Launch) (D : va_G) (cA : Nat → ClassId) (sz : Nat) (ws : va_W) (kc ca : Nat) (cf : Nat → Int32) (hkc : ws[kc]? = some (ca, zInts cA 4 cf)) (kt ta : Nat) (tf : Nat → Int32) (hkt : ws[kt]? = some (ta, zInts cA 24 tf)) (kf fa : Nat) (ff : Nat → Int32) (hkf : ws[kf]? = some (fa, zInts cA 24 ff)) (kv va : Nat) (vf : Nat → Int32) (hkv : ws[kv]? = some (va, zInts cA 10 vf)) (kj ja : Nat) (jj : Nat → Int32) (hkj : ws[kj]? = some (ja, zInts cA 40 jj)) (kd da : Nat) (dd : Nat → Int32) (hkd : ws[kd]? = some (da, zInts cA 20 dd)) (nj : Nat) (jt : Nat → Nat) (fin : Nat → Bool) (fw : Nat → Int32) (hcn : cf 2 = nI nj) (hn20 : nj ≤ 20) (hjob : ∀ k, k < nj → jj k = nI (jt k) ∧ jt k < 2 ^ 31 ∧ dd k = bI (fin k) ∧ fw k = (if fin k then -1 else nI (jt k)))(d tp tr le mk : Nat) (hvt : vf (6 + d) = nI tp) (htr : tf tp = nI tr) (hle : tf (4 + tp) = nI le) (hmk : vf d = nI mk) (hmk1 : mk ≤ 1) (h1 : 1 ≤ tr) (h2 : 1 ≤ le) (h3 : tr ≤ 8) (h4 : le ≤ 200) (htp : tp < 4) (hd : d < 2) (P0 : Nat) (hvp : vf (8 + d) = nI P0) (hP0 : P0 ≤ tr * le) (b : Nat → Nat) (fcn : Nat) (hfc : fcn ≤ 6) (hb0 : b 0 = 0) (hbi : ∀ k, k < fcn → b k ≤ b (k + 1) ∧ ff (6 * tp + k) = nI (b (k + 1) - b k)) (hbm : ∀ k, k ≤ fcn → b k ≤ tr * le) (mn : Nat) (hmn : (wl fw (nI tp) nj).length = mn) (hm5 : mn ≤ 5) (jf : Nat → Nat) (hR : ∀ x, x ∈ (wl fw (nI tp) nj) → x < 20 ∧ jj x = nI tp ∧ jj (20 + x) = nI (jf x) ∧ jf x < fcn) (lg : Nat → Nat → Nat) (hlg : ∀ O : List Nat, (∀ i, i ∈ O → i < mn) → tmJ (zpa mk) (zsp mk) tr le b jf P0 (jl (wl fw (nI tp) nj) O) = pt lg 7 O) (hpb : ∀ O : List Nat, (∀ i, i ∈ O → i < mn) → O.length ≤ mn → pt lg 7 O < 2 ^ 30) (ko oa : Nat) (fo : Nat → Int32) (hko : ws[ko]? = some (oa, zInts cA 8 fo)) (n1 : ko ≠ kc) (n2 : ko ≠ kt) (n3 : ko ≠ kf) (n4 : ko ≠ kv) (n5 : ko ≠ kj) (n6 : ko ≠ kd)  : Met l yL_best wsL_best ({ frames := 3, cells := 2, slots := 16, locals := 87 }) (va_Pc [.ref ca, .ref ta, .ref fa, .ref va, .ref ja, .ref da, .int (nI (d)), .ref oa] (zM D cA (ws) sz)) (va_Qi (fun (r : Int32) (u : Nat → Int32) => r = nI (BT lg mn (np 0) 7) ∧ ∀ i, i < mn → u i = nI ((wl fw (nI tp) nj).getD ((BO lg mn (np 0) 7).getD i 0) 0)) (fun u => zB D (va_A (ws) sz) (ws.set ko (oa, zInts cA 8 u))) (va_A (ws) sz)) 2 16 (va_A (ws) sz) := by
  refine zOpen (cc := cL_best) (maxL := 18) (ret := (some .int)) (own := RL) (by decide) rfl rfl (Nat.le_of_ble_eq_true rfl) ?_
  intro p e s m below meth c ls hx hb hr hml hts hown hlocks hnm ⟨hZ, hP, hD0, hsz⟩ hl
  subst hsz
  have hD := hD0.self (sz := s.heap.size)
  generalize hAe : va_A (ws) s.heap.size = A at hD ⊢
  have hA : ∀ q : Nat, s.heap.size ≤ q → A q := fun q h => by rw [← hAe]; exact Or.inr h
  have hS : va_S A s.heap s.heap [] := va_S.rf
  have hl : lv_has ls 18 [(0, .ref ca), (1, .ref ta), (2, .ref fa), (3, .ref va), (4, .ref ja), (5, .ref da), (6, .int (nI (d))), (7, .ref oa)] := hl
  have hall : mn ^ mn ≤ 3125 := pow_self5 hm5
  refine lv_bipush (v := nI (8)) hx hb dL_best_0 (by decide) ?_
  refine z_newF hx hb (hts (.arrayClass .int) (by decide +kernel)) hZ hP hD hS hA 8 (by decide) (Nat.le_of_ble_eq_true rfl) (Nat.le_of_ble_eq_true rfl) dL_best_2 (fun la H hP hD hS => ?_)
  refine lv_astore (lv' := [(8, .ref la), (0, .ref ca), (1, .ref ta), (2, .ref fa), (3, .ref va), (4, .ref ja), (5, .ref da), (6, .int (nI (d))), (7, .ref oa)]) hx hb dL_best_4 hl (by decide) rfl (fun ls hl => ?_)
  refine lv_bipush (v := nI (8)) hx hb dL_best_6 (by decide) ?_
  refine z_newF hx hb (hts (.arrayClass .int) (by decide +kernel)) hZ hP hD hS hA 8 (by decide) (Nat.le_of_ble_eq_true rfl) (Nat.le_of_ble_eq_true rfl) dL_best_8 (fun ra H hP hD hS => ?_)
  refine lv_astore (lv' := [(9, .ref ra), (8, .ref la), (0, .ref ca), (1, .ref ta), (2, .ref fa), (3, .ref va), (4, .ref ja), (5, .ref da), (6, .int (nI (d))), (7, .ref oa)]) hx hb dL_best_10 hl (by decide) rfl (fun ls hl => ?_)
  have hP : va_P D vwCl ((ra, zInts cA 8 (fun _ => nI 0)) :: (la, zInts cA 8 (fun _ => nI 0)) :: ws) H := hP
  have hD : va_D A ((ra, zInts cA 8 (fun _ => nI 0)) :: (la, zInts cA 8 (fun _ => nI 0)) :: ws) := hD
  refine lv_aload_n hx hb dL_best_12 rfl (lv_at hl 2 rfl) ?_
  refine lv_aload hx hb dL_best_13 (lv_at hl 6 rfl) ?_
  refine lv_aload hx hb dL_best_15 (lv_at hl 7 rfl) ?_
  refine lv_aload_n hx hb dL_best_17 rfl (lv_at hl 5 rfl) ?_
  refine lv_bipush (v := nI (6)) hx hb dL_best_18 (by decide) ?_
  refine lv_iload hx hb dL_best_20 (lv_at hl 8 rfl) ?_
  refine zo_add hx hb dL_best_22 ?_
  refine va_iald hx hb hZ.1 hP (kv + 2) 0 hkv rfl (vp_in_nI (show 6 + d < 10 by omega) (by omega)) dL_best_23 ?_
  rw [nI_clamp (show 6 + d < 2 ^ 31 by omega)]
  refine zx_val (y := nI (tp)) (hvt) ?_
  refine lv_aload hx hb dL_best_24 (lv_at hl 1 rfl) ?_
  refine zw_S_i (n := 5) (mc := 0) (ms := 0) (As := [.ref ca, .ref ja, .ref da, .int (nI (tp)), .ref la]) (rest := []) (w1 := fun u : Unit => (ra, zInts cA 8 ((fun _ => nI 0))) :: (la, zInts cA 8 (colF (fun _ => nI 0) (wl fw (nI tp) nj))) :: ws) hx hb hml hts hown hZ hP hD hS hA (c_L_listed l D cA H.size _ (kc + 2) ca cf hkc (kj + 2) ja jj hkj (kd + 2) da dd hkd nj tp jt fin fw hcn hn20 (by omega) hjob 1 la 8 (fun _ => nI 0) rfl (by rw [hmn]; omega) (by decide) (by omega) (by omega) (by omega)) gL_best_L_listed  rfl ⟨rfl, rfl⟩ ⟨by decide +kernel, Nat.le_of_ble_eq_true rfl, Nat.le_of_ble_eq_true rfl⟩ hl.1 rfl (Nat.le_of_ble_eq_true rfl) ⟨Nat.le_of_ble_eq_true rfl, Nat.le_of_ble_eq_true rfl⟩ rfl dL_best_26 (fun r_1 u_3 H locs hr_2 hP hD hS hz_3 => ?_)
  obtain rfl := show r_1 = _ from hr_2
  have hP : va_P D vwCl ((ra, zInts cA 8 ((fun _ => nI 0))) :: (la, zInts cA 8 (colF (fun _ => nI 0) (wl fw (nI tp) nj))) :: ws) H := hP
  have hD : va_D A ((ra, zInts cA 8 ((fun _ => nI 0))) :: (la, zInts cA 8 (colF (fun _ => nI 0) (wl fw (nI tp) nj))) :: ws) := hD
  refine zx_val (y := nI (mn)) (by rw [hmn]) ?_
  refine lv_istore (lv' := [(10, .int (nI (mn))), (9, .ref ra), (8, .ref la), (0, .ref ca), (1, .ref ta), (2, .ref fa), (3, .ref va), (4, .ref ja), (5, .ref da), (6, .int (nI (d))), (7, .ref oa)]) hx hb dL_best_29 hl (by decide) rfl (fun ls hl => ?_)
  have hP : va_P D vwCl ((ra, zInts cA 8 ((fun _ => nI 0))) :: (la, zInts cA 8 (colF (fun _ => nI 0) (wl fw (nI tp) nj))) :: ws.set ko (oa, zInts cA 8 fo)) H := by rw [zset_self hko]; exact hP
  have hD : va_D A ((ra, zInts cA 8 ((fun _ => nI 0))) :: (la, zInts cA 8 (colF (fun _ => nI 0) (wl fw (nI tp) nj))) :: ws.set ko (oa, zInts cA 8 fo)) := by rw [zset_self hko]; exact hD
  refine lv_iload hx hb dL_best_31 (lv_at hl 0 rfl) ?_
  refine z_join (α := Int32) (pc' := 41) (fun v ls => lv_has ls 18 [(0, .ref ca), (1, .ref ta), (2, .ref fa), (3, .ref va), (4, .ref ja), (5, .ref da), (6, .int (nI (d))), (7, .ref oa), (8, .ref la), (9, .ref ra), (10, .int (nI (mn)))] ∧ (mn = 0 → v = nI 0) ∧ (0 < mn → v = -1)) (fun v => [.int (v)]) ?_ (fun J41 => ?_)
  · intro bb0 ls hv
    obtain ⟨hl, hI⟩ := hv
    have hl : lv_has ls 18 [(0, .ref ca), (1, .ref ta), (2, .ref fa), (3, .ref va), (4, .ref ja), (5, .ref da), (6, .int (nI (d))), (7, .ref oa), (8, .ref la), (9, .ref ra), (10, .int (nI (mn)))] := hl
    have hI : (mn = 0 → bb0 = nI 0) ∧ (0 < mn → bb0 = -1) := hI
    obtain ⟨hbb1, hbb2⟩ := hI
    refine lv_istore (lv' := [(11, .int (bb0)), (0, .ref ca), (1, .ref ta), (2, .ref fa), (3, .ref va), (4, .ref ja), (5, .ref da), (6, .int (nI (d))), (7, .ref oa), (8, .ref la), (9, .ref ra), (10, .int (nI (mn)))]) hx hb dL_best_41 hl (by decide) rfl (fun ls hl => ?_)
    refine lv_iconst (v := nI (1)) hx hb dL_best_43 (by decide) ?_
    refine lv_istore (lv' := [(12, .int (nI (1))), (11, .int (bb0)), (0, .ref ca), (1, .ref ta), (2, .ref fa), (3, .ref va), (4, .ref ja), (5, .ref da), (6, .int (nI (d))), (7, .ref oa), (8, .ref la), (9, .ref ra), (10, .int (nI (mn)))]) hx hb dL_best_44 hl (by decide) rfl (fun ls hl => ?_)
    refine lv_iconst (v := nI (0)) hx hb dL_best_46 (by decide) ?_
    refine lv_istore (lv' := [(13, .int (nI (0))), (12, .int (nI (1))), (11, .int (bb0)), (0, .ref ca), (1, .ref ta), (2, .ref fa), (3, .ref va), (4, .ref ja), (5, .ref da), (6, .int (nI (d))), (7, .ref oa), (8, .ref la), (9, .ref ra), (10, .int (nI (mn)))]) hx hb dL_best_47 hl (by decide) rfl (fun ls hl => ?_)
    refine z_loop (α := Nat × Nat) (fun v => mn - v.2) (fun v ls => lv_has ls 18 [(0, .ref ca), (1, .ref ta), (2, .ref fa), (3, .ref va), (4, .ref ja), (5, .ref da), (6, .int (nI (d))), (7, .ref oa), (8, .ref la), (9, .ref ra), (10, .int (nI (mn))), (11, .int (bb0)), (12, .int (nI (v.1))), (13, .int (nI (v.2)))] ∧ v.1 = mn ^ v.2 ∧ v.2 ≤ mn) (fun _ => []) (1, 0) ⟨lv_sub hl [3, 4, 5, 6, 7, 8, 9, 10, 11, 12, 13, 2, 1, 0] rfl, ⟨by rw [Nat.pow_zero], Nat.zero_le _⟩⟩ ?_
    intro v ih49 ls hv
    obtain ⟨al, k⟩ := v
    obtain ⟨hl, hI⟩ := hv
    have hl : lv_has ls 18 [(0, .ref ca), (1, .ref ta), (2, .ref fa), (3, .ref va), (4, .ref ja), (5, .ref da), (6, .int (nI (d))), (7, .ref oa), (8, .ref la), (9, .ref ra), (10, .int (nI (mn))), (11, .int (bb0)), (12, .int (nI (al))), (13, .int (nI (k)))] := hl
    have hI : al = mn ^ k ∧ k ≤ mn := hI
    obtain ⟨hal, hkm⟩ := hI
    refine lv_iload hx hb dL_best_49 (lv_at hl 13 rfl) ?_
    refine lv_iload hx hb dL_best_51 (lv_at hl 10 rfl) ?_
    refine zc_ge (tgt := 69) hx hb (by omega) (by omega) dL_best_53 (by decide) (fun c_4 => ?_) (fun c_4 => ?_)
    · have hal2 : al = mn ^ mn := by rw [hal, show k = mn by omega]
      subst hal2
      have hl : lv_has ls 18 [(0, .ref ca), (1, .ref ta), (2, .ref fa), (3, .ref va), (4, .ref ja), (5, .ref da), (6, .int (nI (d))), (7, .ref oa), (8, .ref la), (9, .ref ra), (10, .int (nI (mn))), (11, .int (bb0)), (12, .int (nI (mn ^ mn))), (13, .int (nI (k)))] := hl
      refine lv_iconst (v := nI (0)) hx hb dL_best_69 (by decide) ?_
      refine lv_istore (lv' := [(13, .int (nI (0))), (0, .ref ca), (1, .ref ta), (2, .ref fa), (3, .ref va), (4, .ref ja), (5, .ref da), (6, .int (nI (d))), (7, .ref oa), (8, .ref la), (9, .ref ra), (10, .int (nI (mn))), (11, .int (bb0)), (12, .int (nI (mn ^ mn)))]) hx hb dL_best_70 hl (by decide) rfl (fun ls hl => ?_)
      refine z_loopW (α := Int32 × Nat × (Nat → Int32) × (Nat → Int32)) (fun v => mn ^ mn - v.2.1) (fun v H locs ls => lv_has ls 18 [(0, .ref ca), (1, .ref ta), (2, .ref fa), (3, .ref va), (4, .ref ja), (5, .ref da), (6, .int (nI (d))), (7, .ref oa), (8, .ref la), (9, .ref ra), (10, .int (nI (mn))), (12, .int (nI (mn ^ mn))), (11, .int (v.1)), (13, .int (nI (v.2.1)))] ∧ va_P D vwCl ((ra, zInts cA 8 v.2.2.1) :: (la, zInts cA 8 (colF (fun _ => nI 0) (wl fw (nI tp) nj))) :: ws.set ko (oa, zInts cA 8 v.2.2.2)) H ∧ va_D A ((ra, zInts cA 8 v.2.2.1) :: (la, zInts cA 8 (colF (fun _ => nI 0) (wl fw (nI tp) nj))) :: ws.set ko (oa, zInts cA 8 v.2.2.2)) ∧ va_S A s.heap H locs ∧ v.2.1 ≤ mn ^ mn ∧ (mn = 0 → v.1 = nI 0) ∧ (0 < mn → (v.2.1 ≤ bcod lg mn → v.1 = -1 ∨ ∃ b9, v.1 = nI b9 ∧ BT lg mn (np 0) 7 < b9 ∧ b9 < 2 ^ 30) ∧ (bcod lg mn < v.2.1 → v.1 = nI (BT lg mn (np 0) 7) ∧ ∀ i, i < mn → v.2.2.2 i = nI ((wl fw (nI tp) nj).getD ((BO lg mn (np 0) 7).getD i 0) 0)))) (fun _ => []) (bb0, 0, (fun _ => nI 0), fo) ⟨lv_sub hl [1, 2, 3, 4, 5, 6, 7, 8, 9, 10, 11, 13, 12, 0] rfl, hP, hD, hS, ⟨Nat.zero_le _, hbb1, fun h => ⟨fun _ => Or.inl (hbb2 h), fun q => absurd q (Nat.not_lt_zero _)⟩⟩⟩ ?_
      intro v ih72 H locs ls hv
      obtain ⟨bb, code, R, Of⟩ := v
      obtain ⟨hl, hP, hD, hS, hI⟩ := hv
      have hP : va_P D vwCl ((ra, zInts cA 8 R) :: (la, zInts cA 8 (colF (fun _ => nI 0) (wl fw (nI tp) nj))) :: ws.set ko (oa, zInts cA 8 Of)) H := hP
      have hD : va_D A ((ra, zInts cA 8 R) :: (la, zInts cA 8 (colF (fun _ => nI 0) (wl fw (nI tp) nj))) :: ws.set ko (oa, zInts cA 8 Of)) := hD
      have hl : lv_has ls 18 [(0, .ref ca), (1, .ref ta), (2, .ref fa), (3, .ref va), (4, .ref ja), (5, .ref da), (6, .int (nI (d))), (7, .ref oa), (8, .ref la), (9, .ref ra), (10, .int (nI (mn))), (12, .int (nI (mn ^ mn))), (11, .int (bb)), (13, .int (nI (code)))] := hl
      have hI : code ≤ mn ^ mn ∧ (mn = 0 → bb = nI 0) ∧ (0 < mn → (code ≤ bcod lg mn → bb = -1 ∨ ∃ b9, bb = nI b9 ∧ BT lg mn (np 0) 7 < b9 ∧ b9 < 2 ^ 30) ∧ (bcod lg mn < code → bb = nI (BT lg mn (np 0) 7) ∧ ∀ i, i < mn → Of i = nI ((wl fw (nI tp) nj).getD ((BO lg mn (np 0) 7).getD i 0) 0))) := hI
      obtain ⟨hcle, hz0, hgo⟩ := hI
      refine lv_iload hx hb dL_best_72 (lv_at hl 13 rfl) ?_
      refine lv_iload hx hb dL_best_74 (lv_at hl 11 rfl) ?_
      refine zc_ge (tgt := 224) hx hb (by omega) (by omega) dL_best_76 (by decide) (fun c_5 => ?_) (fun c_5 => ?_)
      · refine lv_iload hx hb dL_best_224 (lv_at hl 12 rfl) ?_
        have hP := zd_P (zd_P hP)
        have hD := zd_D (zd_D hD)
        exact zr_qi (S := Nat → Int32) (w1 := fun u => ws.set ko (oa, zInts cA 8 u)) Of hx hb hr hlocks (by
            rcases Nat.eq_zero_or_pos mn with h0 | h0
            · exact ⟨by rw [hz0 h0, h0]; rfl, fun i hi => by omega⟩
            · exact (hgo h0).2 (by have := bcod_lt (lg := lg) (m := mn); omega)) hP hD hS (rfl) dL_best_226
      · refine lv_iload hx hb dL_best_79 (lv_at hl 10 rfl) ?_
        refine zf_le (tgt := 224) hx hb (by omega) dL_best_81 (by decide) (fun c_6 => ?_) (fun c_6 => ?_)
        · refine lv_iload hx hb dL_best_224 (lv_at hl 12 rfl) ?_
          have hP := zd_P (zd_P hP)
          have hD := zd_D (zd_D hD)
          exact zr_qi (S := Nat → Int32) (w1 := fun u => ws.set ko (oa, zInts cA 8 u)) Of hx hb hr hlocks (by
              rcases Nat.eq_zero_or_pos mn with h0 | h0
              · exact ⟨by rw [hz0 h0, h0]; rfl, fun i hi => by omega⟩
              · exact (hgo h0).2 (by have := bcod_lt (lg := lg) (m := mn); omega)) hP hD hS (rfl) dL_best_226
        · have hm0 : 0 < mn := by omega
          have hcl : code < mn ^ mn := by omega
          refine lv_iload hx hb dL_best_84 (lv_at hl 13 rfl) ?_
          refine lv_istore (lv' := [(14, .int (nI (code))), (0, .ref ca), (1, .ref ta), (2, .ref fa), (3, .ref va), (4, .ref ja), (5, .ref da), (6, .int (nI (d))), (7, .ref oa), (8, .ref la), (9, .ref ra), (10, .int (nI (mn))), (12, .int (nI (mn ^ mn))), (11, .int (bb)), (13, .int (nI (code)))]) hx hb dL_best_86 hl (by decide) rfl (fun ls hl => ?_)
          refine lv_iconst (v := nI (0)) hx hb dL_best_88 (by decide) ?_
          refine lv_istore (lv' := [(15, .int (nI (0))), (14, .int (nI (code))), (0, .ref ca), (1, .ref ta), (2, .ref fa), (3, .ref va), (4, .ref ja), (5, .ref da), (6, .int (nI (d))), (7, .ref oa), (8, .ref la), (9, .ref ra), (10, .int (nI (mn))), (12, .int (nI (mn ^ mn))), (11, .int (bb)), (13, .int (nI (code)))]) hx hb dL_best_89 hl (by decide) rfl (fun ls hl => ?_)
          refine lv_iload hx hb dL_best_91 (lv_at hl 12 rfl) ?_
          refine lv_iconst (v := nI (1)) hx hb dL_best_93 (by decide) ?_
          refine zo_sub hx hb (by omega) dL_best_94 ?_
          refine zx_val (y := pI mn) (by unfold pI; rw [pk_sub (by omega)]) ?_
          refine lv_istore (lv' := [(16, .int (pI mn)), (15, .int (nI (0))), (14, .int (nI (code))), (0, .ref ca), (1, .ref ta), (2, .ref fa), (3, .ref va), (4, .ref ja), (5, .ref da), (6, .int (nI (d))), (7, .ref oa), (8, .ref la), (9, .ref ra), (10, .int (nI (mn))), (12, .int (nI (mn ^ mn))), (11, .int (bb)), (13, .int (nI (code)))]) hx hb dL_best_95 hl (by decide) rfl (fun ls hl => ?_)
          refine z_loopW (α := Nat × Nat × Nat × (Nat → Int32)) (fun v => v.2.2.1) (fun v H locs ls => lv_has ls 18 [(0, .ref ca), (1, .ref ta), (2, .ref fa), (3, .ref va), (4, .ref ja), (5, .ref da), (6, .int (nI (d))), (7, .ref oa), (8, .ref la), (9, .ref ra), (10, .int (nI (mn))), (12, .int (nI (mn ^ mn))), (11, .int (bb)), (13, .int (nI (code))), (14, .int (nI (v.1))), (15, .int (nI (v.2.1))), (16, .int (pI v.2.2.1))] ∧ va_P D vwCl ((ra, zInts cA 8 v.2.2.2) :: (la, zInts cA 8 (colF (fun _ => nI 0) (wl fw (nI tp) nj))) :: ws.set ko (oa, zInts cA 8 Of)) H ∧ va_D A ((ra, zInts cA 8 v.2.2.2) :: (la, zInts cA 8 (colF (fun _ => nI 0) (wl fw (nI tp) nj))) :: ws.set ko (oa, zInts cA 8 Of)) ∧ va_S A s.heap H locs ∧ v.2.2.1 ≤ mn ∧ v.1 = code / mn ^ (mn - v.2.2.1) ∧ v.2.1 = mts mn code (mn - v.2.2.1) ∧ ∀ i, v.2.2.1 ≤ i → i < mn → v.2.2.2 i = nI ((wl fw (nI tp) nj).getD (code / mn ^ (mn - 1 - i) % mn) 0)) (fun _ => []) (code, 0, mn, R) ⟨lv_sub hl [3, 4, 5, 6, 7, 8, 9, 10, 11, 12, 13, 14, 15, 16, 2, 1, 0] rfl, hP, hD, hS, ⟨Nat.le_refl _, by rw [Nat.sub_self, Nat.pow_zero, Nat.div_one], by rw [Nat.sub_self]; rfl, fun i h1 h2 => absurd h2 (Nat.not_lt.mpr h1)⟩⟩ ?_
          intro v ih97 H locs ls hv
          obtain ⟨rest, met, kk, R⟩ := v
          obtain ⟨hl, hP, hD, hS, hI⟩ := hv
          have hP : va_P D vwCl ((ra, zInts cA 8 R) :: (la, zInts cA 8 (colF (fun _ => nI 0) (wl fw (nI tp) nj))) :: ws.set ko (oa, zInts cA 8 Of)) H := hP
          have hD : va_D A ((ra, zInts cA 8 R) :: (la, zInts cA 8 (colF (fun _ => nI 0) (wl fw (nI tp) nj))) :: ws.set ko (oa, zInts cA 8 Of)) := hD
          have hl : lv_has ls 18 [(0, .ref ca), (1, .ref ta), (2, .ref fa), (3, .ref va), (4, .ref ja), (5, .ref da), (6, .int (nI (d))), (7, .ref oa), (8, .ref la), (9, .ref ra), (10, .int (nI (mn))), (12, .int (nI (mn ^ mn))), (11, .int (bb)), (13, .int (nI (code))), (14, .int (nI (rest))), (15, .int (nI (met))), (16, .int (pI kk))] := hl
          have hI : kk ≤ mn ∧ rest = code / mn ^ (mn - kk) ∧ met = mts mn code (mn - kk) ∧ ∀ i, kk ≤ i → i < mn → R i = nI ((wl fw (nI tp) nj).getD (code / mn ^ (mn - 1 - i) % mn) 0) := hI
          obtain ⟨hkk, hrest, hmet, hRi⟩ := hI
          have hrc : rest ≤ code := by rw [hrest]; exact Nat.div_le_self _ _
          have hmt : met < 2 ^ mn := by rw [hmet]; exact mts_lt hm0 _
          rcases kk with _ | kk
          · refine lv_iload hx hb dL_best_97 (lv_at hl 16 rfl) ?_
            refine lv_if_lt (tgt := 140) hx hb dL_best_99 (by decide) (fun c_7 => ?_) (fun c_7 => absurd pI_0 c_7)
            have hRw : ∀ i, i < mn → R i = nI ((jl (wl fw (nI tp) nj) (dgs mn mn code)).getD i 0) := fun i hi => by
              rw [hRi i (Nat.zero_le _) hi, jl_get (by rw [dgs_len]; exact hi), dgs_get mn code i hi]
            have hmet : met = mts mn code mn := hmet
            have hpw := Nat.pow_le_pow_right (show 0 < 2 by decide) hm5
            have hpw1 : 1 ≤ 2 ^ mn := Nat.pow_pos (by decide)
            have hpw2 : (2 : Nat) ^ 5 = 32 := by decide
            have hdm : ∀ i, i ∈ (dgs mn mn code) → i < mn := fun i hi => by
              obtain ⟨s9, -, e9⟩ := (dgs_mem mn code i).mp hi
              rw [← e9]; exact Nat.mod_lt _ hm0
            refine lv_iload hx hb dL_best_140 (lv_at hl 15 rfl) ?_
            refine lv_iconst (v := nI (1)) hx hb dL_best_142 (by decide) ?_
            refine lv_iload hx hb dL_best_143 (lv_at hl 10 rfl) ?_
            refine lv_ishl hx hb dL_best_145 ?_
            refine zx_val (y := nI (2 ^ mn)) (zshl _ (by omega)) ?_
            refine lv_iconst (v := nI (1)) hx hb dL_best_146 (by decide) ?_
            refine zo_sub hx hb (by omega) dL_best_147 ?_
            refine z_join (α := Int32) (pc' := 169) (fun v ls => lv_has ls 18 [(0, .ref ca), (1, .ref ta), (2, .ref fa), (3, .ref va), (4, .ref ja), (5, .ref da), (6, .int (nI (d))), (7, .ref oa), (8, .ref la), (9, .ref ra), (10, .int (nI (mn))), (12, .int (nI (mn ^ mn))), (11, .int (bb)), (13, .int (nI (code)))] ∧ (covs mn (dgs mn mn code) → v = nI (pt lg 7 (dgs mn mn code))) ∧ (¬ covs mn (dgs mn mn code) → v = -1)) (fun v => [.int (v)]) ?_ (fun J169 => ?_)
            · intro tv ls hv
              obtain ⟨hl, hI⟩ := hv
              have hl : lv_has ls 18 [(0, .ref ca), (1, .ref ta), (2, .ref fa), (3, .ref va), (4, .ref ja), (5, .ref da), (6, .int (nI (d))), (7, .ref oa), (8, .ref la), (9, .ref ra), (10, .int (nI (mn))), (12, .int (nI (mn ^ mn))), (11, .int (bb)), (13, .int (nI (code)))] := hl
              have hI : (covs mn (dgs mn mn code) → tv = nI (pt lg 7 (dgs mn mn code))) ∧ (¬ covs mn (dgs mn mn code) → tv = -1) := hI
              refine lv_istore (lv' := [(16, .int (tv)), (0, .ref ca), (1, .ref ta), (2, .ref fa), (3, .ref va), (4, .ref ja), (5, .ref da), (6, .int (nI (d))), (7, .ref oa), (8, .ref la), (9, .ref ra), (10, .int (nI (mn))), (12, .int (nI (mn ^ mn))), (11, .int (bb)), (13, .int (nI (code)))]) hx hb dL_best_169 hl (by decide) rfl (fun ls hl => ?_)
              obtain ⟨htv1, htv2⟩ := hI
              obtain ⟨hbA, hbB⟩ := hgo hm0
              by_cases hcv : covs mn (dgs mn mn code)
              · rw [htv1 hcv] at hl
                obtain ⟨hbc1, hbc2⟩ := best_c (lg := lg) hcl hcv
                have hpl : pt lg 7 (dgs mn mn code) < 2 ^ 30 := hpb _ hdm (by rw [dgs_len]; omega)
                rcases Nat.lt_or_ge (bcod lg mn) code with hcc | hcc
                · obtain ⟨hb1, hb2⟩ := hbB hcc
                  rw [hb1] at hl
                  have hBTl : BT lg mn (np 0) 7 < 2 ^ 30 := by omega
                  refine lv_iload hx hb dL_best_171 (lv_at hl 0 rfl) ?_
                  refine zf_lt (tgt := 218) hx hb (by omega) dL_best_173 (by decide) ?_
                  refine lv_iload hx hb dL_best_176 (lv_at hl 13 rfl) ?_
                  refine zf_lt (tgt := 188) hx hb (by omega) dL_best_178 (by decide) ?_
                  refine lv_iload hx hb dL_best_181 (lv_at hl 0 rfl) ?_
                  refine lv_iload hx hb dL_best_183 (lv_at hl 13 rfl) ?_
                  refine zc_ge (tgt := 218) hx hb (by omega) (by omega) dL_best_185 (by decide) (fun c_10 => ?_) (fun c_10 => False.elim (by omega))
                  refine lv_iinc (v := nI (code + 1)) (lv' := [(13, .int (nI (code + 1))), (16, .int (nI (pt lg 7 (dgs mn mn code)))), (0, .ref ca), (1, .ref ta), (2, .ref fa), (3, .ref va), (4, .ref ja), (5, .ref da), (6, .int (nI (d))), (7, .ref oa), (8, .ref la), (9, .ref ra), (10, .int (nI (mn))), (12, .int (nI (mn ^ mn))), (11, .int (nI (BT lg mn (np 0) 7)))]) hx hb dL_best_218 hl (k := 14) rfl (zinc 1 _) (by decide) rfl (fun ls hl => ?_)
                  refine lv_goto (tgt := 72) hx hb dL_best_221 (by decide) ?_
                  exact ih72 (nI (BT lg mn (np 0) 7), code + 1, R, Of) H locs ls (by first | omega | (dsimp only; omega)) ⟨lv_sub hl [2, 3, 4, 5, 6, 7, 8, 9, 10, 11, 12, 13, 14, 0] rfl, hP, hD, hS, ⟨by first | omega | (dsimp only; omega) | (dsimp only at *; omega), fun q => absurd q (by first | omega | (dsimp only; omega) | (dsimp only at *; omega)), fun _ => ⟨fun q => absurd q (by dsimp only; omega), fun _ => ⟨rfl, hb2⟩⟩⟩⟩
                · rcases hbA hcc with hb1 | ⟨b9, hb1, hb2, hb3⟩
                  · rw [hb1] at hl
                    refine lv_iload hx hb dL_best_171 (lv_at hl 0 rfl) ?_
                    refine zf_lt (tgt := 218) hx hb (by omega) dL_best_173 (by decide) ?_
                    refine lv_iload hx hb dL_best_176 (lv_at hl 13 rfl) ?_
                    refine lv_if_lt (tgt := 188) hx hb dL_best_178 (by decide) (fun c_12 => ?_) (fun c_12 => absurd (by decide) c_12)
                    refine lv_iload hx hb dL_best_188 (lv_at hl 0 rfl) ?_
                    refine lv_istore (lv' := [(11, .int (nI (pt lg 7 (dgs mn mn code)))), (16, .int (nI (pt lg 7 (dgs mn mn code)))), (0, .ref ca), (1, .ref ta), (2, .ref fa), (3, .ref va), (4, .ref ja), (5, .ref da), (6, .int (nI (d))), (7, .ref oa), (8, .ref la), (9, .ref ra), (10, .int (nI (mn))), (12, .int (nI (mn ^ mn))), (13, .int (nI (code)))]) hx hb dL_best_190 hl (by decide) rfl (fun ls hl => ?_)
                    refine lv_iconst (v := nI (0)) hx hb dL_best_192 (by decide) ?_
                    refine lv_istore (lv' := [(17, .int (nI (0))), (11, .int (nI (pt lg 7 (dgs mn mn code)))), (16, .int (nI (pt lg 7 (dgs mn mn code)))), (0, .ref ca), (1, .ref ta), (2, .ref fa), (3, .ref va), (4, .ref ja), (5, .ref da), (6, .int (nI (d))), (7, .ref oa), (8, .ref la), (9, .ref ra), (10, .int (nI (mn))), (12, .int (nI (mn ^ mn))), (13, .int (nI (code)))]) hx hb dL_best_193 hl (by decide) rfl (fun ls hl => ?_)
                    refine z_loopW (α := Nat × (Nat → Int32)) (fun v => mn - v.1) (fun v H locs ls => lv_has ls 18 [(11, .int (nI (pt lg 7 (dgs mn mn code)))), (16, .int (nI (pt lg 7 (dgs mn mn code)))), (0, .ref ca), (1, .ref ta), (2, .ref fa), (3, .ref va), (4, .ref ja), (5, .ref da), (6, .int (nI (d))), (7, .ref oa), (8, .ref la), (9, .ref ra), (10, .int (nI (mn))), (12, .int (nI (mn ^ mn))), (13, .int (nI (code))), (17, .int (nI (v.1)))] ∧ va_P D vwCl ((ra, zInts cA 8 R) :: (la, zInts cA 8 (colF (fun _ => nI 0) (wl fw (nI tp) nj))) :: ws.set ko (oa, zInts cA 8 v.2)) H ∧ va_D A ((ra, zInts cA 8 R) :: (la, zInts cA 8 (colF (fun _ => nI 0) (wl fw (nI tp) nj))) :: ws.set ko (oa, zInts cA 8 v.2)) ∧ va_S A s.heap H locs ∧ v.1 ≤ mn ∧ ∀ i, i < v.1 → v.2 i = R i) (fun _ => []) (0, Of) ⟨lv_sub hl [1, 2, 3, 4, 5, 6, 7, 8, 9, 10, 11, 12, 13, 14, 15, 0] rfl, hP, hD, hS, ⟨Nat.zero_le _, fun i h => absurd h (Nat.not_lt_zero i)⟩⟩ ?_
                    intro v ih195 H locs ls hv
                    obtain ⟨k9, Og⟩ := v
                    obtain ⟨hl, hP, hD, hS, hI⟩ := hv
                    have hP : va_P D vwCl ((ra, zInts cA 8 R) :: (la, zInts cA 8 (colF (fun _ => nI 0) (wl fw (nI tp) nj))) :: ws.set ko (oa, zInts cA 8 Og)) H := hP
                    have hD : va_D A ((ra, zInts cA 8 R) :: (la, zInts cA 8 (colF (fun _ => nI 0) (wl fw (nI tp) nj))) :: ws.set ko (oa, zInts cA 8 Og)) := hD
                    have hl : lv_has ls 18 [(11, .int (nI (pt lg 7 (dgs mn mn code)))), (16, .int (nI (pt lg 7 (dgs mn mn code)))), (0, .ref ca), (1, .ref ta), (2, .ref fa), (3, .ref va), (4, .ref ja), (5, .ref da), (6, .int (nI (d))), (7, .ref oa), (8, .ref la), (9, .ref ra), (10, .int (nI (mn))), (12, .int (nI (mn ^ mn))), (13, .int (nI (code))), (17, .int (nI (k9)))] := hl
                    have hI : k9 ≤ mn ∧ ∀ i, i < k9 → Og i = R i := hI
                    obtain ⟨hk9, hOg⟩ := hI
                    refine lv_iload hx hb dL_best_195 (lv_at hl 15 rfl) ?_
                    refine lv_iload hx hb dL_best_197 (lv_at hl 12 rfl) ?_
                    refine zc_ge (tgt := 218) hx hb (by omega) (by omega) dL_best_199 (by decide) (fun c_13 => ?_) (fun c_13 => ?_)
                    · refine lv_iinc (v := nI (code + 1)) (lv' := [(13, .int (nI (code + 1))), (11, .int (nI (pt lg 7 (dgs mn mn code)))), (16, .int (nI (pt lg 7 (dgs mn mn code)))), (0, .ref ca), (1, .ref ta), (2, .ref fa), (3, .ref va), (4, .ref ja), (5, .ref da), (6, .int (nI (d))), (7, .ref oa), (8, .ref la), (9, .ref ra), (10, .int (nI (mn))), (12, .int (nI (mn ^ mn))), (17, .int (nI (k9)))]) hx hb dL_best_218 hl (k := 14) rfl (zinc 1 _) (by decide) rfl (fun ls hl => ?_)
                      refine lv_goto (tgt := 72) hx hb dL_best_221 (by decide) ?_
                      exact ih72 (nI (pt lg 7 (dgs mn mn code)), code + 1, R, Og) H locs ls (by first | omega | (dsimp only; omega)) ⟨lv_sub hl [3, 4, 5, 6, 7, 8, 9, 10, 11, 12, 13, 14, 1, 0] rfl, hP, hD, hS, ⟨by first | omega | (dsimp only; omega) | (dsimp only at *; omega), fun q => absurd q (by first | omega | (dsimp only; omega) | (dsimp only at *; omega)), fun _ => ⟨fun q => Or.inr ⟨_, rfl, by dsimp only at q; rcases Nat.lt_or_ge (BT lg mn (np 0) 7) (pt lg 7 (dgs mn mn code)) with h | h; exact h; exact absurd (hbc2 (by first | omega | (dsimp only; omega) | (dsimp only at *; omega))) (by first | omega | (dsimp only; omega) | (dsimp only at *; omega)), hpl⟩, fun q => by
                                dsimp only at q ⊢
                                obtain rfl : code = bcod lg mn := by omega
                                refine ⟨?_, fun i hi => ?_⟩
                                · rw [bcod_d, pt_BO]
                                · rw [hOg i (by first | omega | (dsimp only; omega) | (dsimp only at *; omega)), hRw i hi, bcod_d, jl_get (by rw [BO_ln]; exact hi)]⟩⟩⟩
                    · refine lv_aload hx hb dL_best_202 (lv_at hl 9 rfl) ?_
                      refine lv_iload hx hb dL_best_204 (lv_at hl 15 rfl) ?_
                      refine lv_aload hx hb dL_best_206 (lv_at hl 11 rfl) ?_
                      refine lv_iload hx hb dL_best_208 (lv_at hl 15 rfl) ?_
                      refine va_iald hx hb hZ.1 hP 0 0 rfl rfl (vp_in_nI (show k9 < 8 by omega) (by omega)) dL_best_210 ?_
                      rw [nI_clamp (show k9 < 2 ^ 31 by omega)]
                      refine va_iast hx hb hZ.1 hP hD hS (ko + 2) 0 (zset_s hko) rfl (vp_in_nI (show k9 < 8 by omega) (by omega)) dL_best_211 (fun H locs hP hD hS => ?_)
                      rw [nI_clamp (show k9 < 2 ^ 31 by omega)] at hP hD
                      have hP : va_P D vwCl ((ra, zInts cA 8 R) :: (la, zInts cA 8 (colF (fun _ => nI 0) (wl fw (nI tp) nj))) :: (ws.set ko (oa, zInts cA 8 Og)).set ko (oa, zInts cA 8 (upd Og k9 (R k9)))) H := hP
                      have hD : va_D A ((ra, zInts cA 8 R) :: (la, zInts cA 8 (colF (fun _ => nI 0) (wl fw (nI tp) nj))) :: (ws.set ko (oa, zInts cA 8 Og)).set ko (oa, zInts cA 8 (upd Og k9 (R k9)))) := hD
                      rw [zset2] at hP hD
                      have hP : va_P D vwCl ((ra, zInts cA 8 R) :: (la, zInts cA 8 (colF (fun _ => nI 0) (wl fw (nI tp) nj))) :: ws.set ko (oa, zInts cA 8 ((upd Og k9 (R k9))))) H := hP
                      have hD : va_D A ((ra, zInts cA 8 R) :: (la, zInts cA 8 (colF (fun _ => nI 0) (wl fw (nI tp) nj))) :: ws.set ko (oa, zInts cA 8 ((upd Og k9 (R k9))))) := hD
                      refine lv_iinc (v := nI (k9 + 1)) (lv' := [(17, .int (nI (k9 + 1))), (11, .int (nI (pt lg 7 (dgs mn mn code)))), (16, .int (nI (pt lg 7 (dgs mn mn code)))), (0, .ref ca), (1, .ref ta), (2, .ref fa), (3, .ref va), (4, .ref ja), (5, .ref da), (6, .int (nI (d))), (7, .ref oa), (8, .ref la), (9, .ref ra), (10, .int (nI (mn))), (12, .int (nI (mn ^ mn))), (13, .int (nI (code)))]) hx hb dL_best_212 hl (k := 15) rfl (zinc 1 _) (by decide) rfl (fun ls hl => ?_)
                      refine lv_goto (tgt := 195) hx hb dL_best_215 (by decide) ?_
                      exact ih195 (k9 + 1, ((upd Og k9 (R k9)))) H locs ls (by first | omega | (dsimp only; omega)) ⟨lv_sub hl [1, 2, 3, 4, 5, 6, 7, 8, 9, 10, 11, 12, 13, 14, 15, 0] rfl, hP, hD, hS, ⟨by dsimp only; omega, fun i h7 => by
                                dsimp only at h7 ⊢
                                by_cases e : i = k9
                                · rw [e, pk_us]
                                · rw [pk_un e]; exact hOg i (by first | omega | (dsimp only; omega) | (dsimp only at *; omega))⟩⟩
                  · rw [hb1] at hl
                    refine lv_iload hx hb dL_best_171 (lv_at hl 0 rfl) ?_
                    refine zf_lt (tgt := 218) hx hb (by omega) dL_best_173 (by decide) ?_
                    refine lv_iload hx hb dL_best_176 (lv_at hl 13 rfl) ?_
                    refine zf_lt (tgt := 188) hx hb (by omega) dL_best_178 (by decide) ?_
                    refine lv_iload hx hb dL_best_181 (lv_at hl 0 rfl) ?_
                    refine lv_iload hx hb dL_best_183 (lv_at hl 13 rfl) ?_
                    refine zc_ge (tgt := 218) hx hb (by omega) (by omega) dL_best_185 (by decide) (fun c_16 => ?_) (fun c_16 => ?_)
                    · refine lv_iinc (v := nI (code + 1)) (lv' := [(13, .int (nI (code + 1))), (16, .int (nI (pt lg 7 (dgs mn mn code)))), (0, .ref ca), (1, .ref ta), (2, .ref fa), (3, .ref va), (4, .ref ja), (5, .ref da), (6, .int (nI (d))), (7, .ref oa), (8, .ref la), (9, .ref ra), (10, .int (nI (mn))), (12, .int (nI (mn ^ mn))), (11, .int (nI (b9)))]) hx hb dL_best_218 hl (k := 14) rfl (zinc 1 _) (by decide) rfl (fun ls hl => ?_)
                      refine lv_goto (tgt := 72) hx hb dL_best_221 (by decide) ?_
                      exact ih72 (nI (b9), code + 1, R, Of) H locs ls (by first | omega | (dsimp only; omega)) ⟨lv_sub hl [2, 3, 4, 5, 6, 7, 8, 9, 10, 11, 12, 13, 14, 0] rfl, hP, hD, hS, ⟨by first | omega | (dsimp only; omega) | (dsimp only at *; omega), fun q => absurd q (by first | omega | (dsimp only; omega) | (dsimp only at *; omega)), fun _ => ⟨fun q => Or.inr ⟨b9, rfl, hb2, hb3⟩, fun q => by
                                dsimp only at q
                                obtain rfl : code = bcod lg mn := by omega
                                rw [bcod_d, pt_BO] at *
                                omega⟩⟩⟩
                    · refine lv_iload hx hb dL_best_188 (lv_at hl 0 rfl) ?_
                      refine lv_istore (lv' := [(11, .int (nI (pt lg 7 (dgs mn mn code)))), (16, .int (nI (pt lg 7 (dgs mn mn code)))), (0, .ref ca), (1, .ref ta), (2, .ref fa), (3, .ref va), (4, .ref ja), (5, .ref da), (6, .int (nI (d))), (7, .ref oa), (8, .ref la), (9, .ref ra), (10, .int (nI (mn))), (12, .int (nI (mn ^ mn))), (13, .int (nI (code)))]) hx hb dL_best_190 hl (by decide) rfl (fun ls hl => ?_)
                      refine lv_iconst (v := nI (0)) hx hb dL_best_192 (by decide) ?_
                      refine lv_istore (lv' := [(17, .int (nI (0))), (11, .int (nI (pt lg 7 (dgs mn mn code)))), (16, .int (nI (pt lg 7 (dgs mn mn code)))), (0, .ref ca), (1, .ref ta), (2, .ref fa), (3, .ref va), (4, .ref ja), (5, .ref da), (6, .int (nI (d))), (7, .ref oa), (8, .ref la), (9, .ref ra), (10, .int (nI (mn))), (12, .int (nI (mn ^ mn))), (13, .int (nI (code)))]) hx hb dL_best_193 hl (by decide) rfl (fun ls hl => ?_)
                      refine z_loopW (α := Nat × (Nat → Int32)) (fun v => mn - v.1) (fun v H locs ls => lv_has ls 18 [(11, .int (nI (pt lg 7 (dgs mn mn code)))), (16, .int (nI (pt lg 7 (dgs mn mn code)))), (0, .ref ca), (1, .ref ta), (2, .ref fa), (3, .ref va), (4, .ref ja), (5, .ref da), (6, .int (nI (d))), (7, .ref oa), (8, .ref la), (9, .ref ra), (10, .int (nI (mn))), (12, .int (nI (mn ^ mn))), (13, .int (nI (code))), (17, .int (nI (v.1)))] ∧ va_P D vwCl ((ra, zInts cA 8 R) :: (la, zInts cA 8 (colF (fun _ => nI 0) (wl fw (nI tp) nj))) :: ws.set ko (oa, zInts cA 8 v.2)) H ∧ va_D A ((ra, zInts cA 8 R) :: (la, zInts cA 8 (colF (fun _ => nI 0) (wl fw (nI tp) nj))) :: ws.set ko (oa, zInts cA 8 v.2)) ∧ va_S A s.heap H locs ∧ v.1 ≤ mn ∧ ∀ i, i < v.1 → v.2 i = R i) (fun _ => []) (0, Of) ⟨lv_sub hl [1, 2, 3, 4, 5, 6, 7, 8, 9, 10, 11, 12, 13, 14, 15, 0] rfl, hP, hD, hS, ⟨Nat.zero_le _, fun i h => absurd h (Nat.not_lt_zero i)⟩⟩ ?_
                      intro v ih195 H locs ls hv
                      obtain ⟨k9, Og⟩ := v
                      obtain ⟨hl, hP, hD, hS, hI⟩ := hv
                      have hP : va_P D vwCl ((ra, zInts cA 8 R) :: (la, zInts cA 8 (colF (fun _ => nI 0) (wl fw (nI tp) nj))) :: ws.set ko (oa, zInts cA 8 Og)) H := hP
                      have hD : va_D A ((ra, zInts cA 8 R) :: (la, zInts cA 8 (colF (fun _ => nI 0) (wl fw (nI tp) nj))) :: ws.set ko (oa, zInts cA 8 Og)) := hD
                      have hl : lv_has ls 18 [(11, .int (nI (pt lg 7 (dgs mn mn code)))), (16, .int (nI (pt lg 7 (dgs mn mn code)))), (0, .ref ca), (1, .ref ta), (2, .ref fa), (3, .ref va), (4, .ref ja), (5, .ref da), (6, .int (nI (d))), (7, .ref oa), (8, .ref la), (9, .ref ra), (10, .int (nI (mn))), (12, .int (nI (mn ^ mn))), (13, .int (nI (code))), (17, .int (nI (k9)))] := hl
                      have hI : k9 ≤ mn ∧ ∀ i, i < k9 → Og i = R i := hI
                      obtain ⟨hk9, hOg⟩ := hI
                      refine lv_iload hx hb dL_best_195 (lv_at hl 15 rfl) ?_
                      refine lv_iload hx hb dL_best_197 (lv_at hl 12 rfl) ?_
                      refine zc_ge (tgt := 218) hx hb (by omega) (by omega) dL_best_199 (by decide) (fun c_17 => ?_) (fun c_17 => ?_)
                      · refine lv_iinc (v := nI (code + 1)) (lv' := [(13, .int (nI (code + 1))), (11, .int (nI (pt lg 7 (dgs mn mn code)))), (16, .int (nI (pt lg 7 (dgs mn mn code)))), (0, .ref ca), (1, .ref ta), (2, .ref fa), (3, .ref va), (4, .ref ja), (5, .ref da), (6, .int (nI (d))), (7, .ref oa), (8, .ref la), (9, .ref ra), (10, .int (nI (mn))), (12, .int (nI (mn ^ mn))), (17, .int (nI (k9)))]) hx hb dL_best_218 hl (k := 14) rfl (zinc 1 _) (by decide) rfl (fun ls hl => ?_)
                        refine lv_goto (tgt := 72) hx hb dL_best_221 (by decide) ?_
                        exact ih72 (nI (pt lg 7 (dgs mn mn code)), code + 1, R, Og) H locs ls (by first | omega | (dsimp only; omega)) ⟨lv_sub hl [3, 4, 5, 6, 7, 8, 9, 10, 11, 12, 13, 14, 1, 0] rfl, hP, hD, hS, ⟨by first | omega | (dsimp only; omega) | (dsimp only at *; omega), fun q => absurd q (by first | omega | (dsimp only; omega) | (dsimp only at *; omega)), fun _ => ⟨fun q => Or.inr ⟨_, rfl, by dsimp only at q; rcases Nat.lt_or_ge (BT lg mn (np 0) 7) (pt lg 7 (dgs mn mn code)) with h | h; exact h; exact absurd (hbc2 (by first | omega | (dsimp only; omega) | (dsimp only at *; omega))) (by first | omega | (dsimp only; omega) | (dsimp only at *; omega)), hpl⟩, fun q => by
                                  dsimp only at q ⊢
                                  obtain rfl : code = bcod lg mn := by omega
                                  refine ⟨?_, fun i hi => ?_⟩
                                  · rw [bcod_d, pt_BO]
                                  · rw [hOg i (by first | omega | (dsimp only; omega) | (dsimp only at *; omega)), hRw i hi, bcod_d, jl_get (by rw [BO_ln]; exact hi)]⟩⟩⟩
                      · refine lv_aload hx hb dL_best_202 (lv_at hl 9 rfl) ?_
                        refine lv_iload hx hb dL_best_204 (lv_at hl 15 rfl) ?_
                        refine lv_aload hx hb dL_best_206 (lv_at hl 11 rfl) ?_
                        refine lv_iload hx hb dL_best_208 (lv_at hl 15 rfl) ?_
                        refine va_iald hx hb hZ.1 hP 0 0 rfl rfl (vp_in_nI (show k9 < 8 by omega) (by omega)) dL_best_210 ?_
                        rw [nI_clamp (show k9 < 2 ^ 31 by omega)]
                        refine va_iast hx hb hZ.1 hP hD hS (ko + 2) 0 (zset_s hko) rfl (vp_in_nI (show k9 < 8 by omega) (by omega)) dL_best_211 (fun H locs hP hD hS => ?_)
                        rw [nI_clamp (show k9 < 2 ^ 31 by omega)] at hP hD
                        have hP : va_P D vwCl ((ra, zInts cA 8 R) :: (la, zInts cA 8 (colF (fun _ => nI 0) (wl fw (nI tp) nj))) :: (ws.set ko (oa, zInts cA 8 Og)).set ko (oa, zInts cA 8 (upd Og k9 (R k9)))) H := hP
                        have hD : va_D A ((ra, zInts cA 8 R) :: (la, zInts cA 8 (colF (fun _ => nI 0) (wl fw (nI tp) nj))) :: (ws.set ko (oa, zInts cA 8 Og)).set ko (oa, zInts cA 8 (upd Og k9 (R k9)))) := hD
                        rw [zset2] at hP hD
                        have hP : va_P D vwCl ((ra, zInts cA 8 R) :: (la, zInts cA 8 (colF (fun _ => nI 0) (wl fw (nI tp) nj))) :: ws.set ko (oa, zInts cA 8 ((upd Og k9 (R k9))))) H := hP
                        have hD : va_D A ((ra, zInts cA 8 R) :: (la, zInts cA 8 (colF (fun _ => nI 0) (wl fw (nI tp) nj))) :: ws.set ko (oa, zInts cA 8 ((upd Og k9 (R k9))))) := hD
                        refine lv_iinc (v := nI (k9 + 1)) (lv' := [(17, .int (nI (k9 + 1))), (11, .int (nI (pt lg 7 (dgs mn mn code)))), (16, .int (nI (pt lg 7 (dgs mn mn code)))), (0, .ref ca), (1, .ref ta), (2, .ref fa), (3, .ref va), (4, .ref ja), (5, .ref da), (6, .int (nI (d))), (7, .ref oa), (8, .ref la), (9, .ref ra), (10, .int (nI (mn))), (12, .int (nI (mn ^ mn))), (13, .int (nI (code)))]) hx hb dL_best_212 hl (k := 15) rfl (zinc 1 _) (by decide) rfl (fun ls hl => ?_)
                        refine lv_goto (tgt := 195) hx hb dL_best_215 (by decide) ?_
                        exact ih195 (k9 + 1, ((upd Og k9 (R k9)))) H locs ls (by first | omega | (dsimp only; omega)) ⟨lv_sub hl [1, 2, 3, 4, 5, 6, 7, 8, 9, 10, 11, 12, 13, 14, 15, 0] rfl, hP, hD, hS, ⟨by dsimp only; omega, fun i h7 => by
                                  dsimp only at h7 ⊢
                                  by_cases e : i = k9
                                  · rw [e, pk_us]
                                  · rw [pk_un e]; exact hOg i (by first | omega | (dsimp only; omega) | (dsimp only at *; omega))⟩⟩
              · rw [htv2 hcv] at hl
                have hne9 : code ≠ bcod lg mn := fun q => hcv (by rw [q]; exact bcod_c)
                refine lv_iload hx hb dL_best_171 (lv_at hl 0 rfl) ?_
                refine lv_if_lt (tgt := 218) hx hb dL_best_173 (by decide) (fun c_18 => ?_) (fun c_18 => absurd (by decide) c_18)
                refine lv_iinc (v := nI (code + 1)) (lv' := [(13, .int (nI (code + 1))), (16, .int ((-1))), (0, .ref ca), (1, .ref ta), (2, .ref fa), (3, .ref va), (4, .ref ja), (5, .ref da), (6, .int (nI (d))), (7, .ref oa), (8, .ref la), (9, .ref ra), (10, .int (nI (mn))), (12, .int (nI (mn ^ mn))), (11, .int (bb))]) hx hb dL_best_218 hl (k := 14) rfl (zinc 1 _) (by decide) rfl (fun ls hl => ?_)
                refine lv_goto (tgt := 72) hx hb dL_best_221 (by decide) ?_
                exact ih72 (bb, code + 1, R, Of) H locs ls (by first | omega | (dsimp only; omega)) ⟨lv_sub hl [2, 3, 4, 5, 6, 7, 8, 9, 10, 11, 12, 13, 14, 0] rfl, hP, hD, hS, ⟨by first | omega | (dsimp only; omega) | (dsimp only at *; omega), fun q => absurd q (by first | omega | (dsimp only; omega) | (dsimp only at *; omega)), fun _ => ⟨fun q => hbA (by first | omega | (dsimp only; omega) | (dsimp only at *; omega)), fun q => hbB (by first | omega | (dsimp only; omega) | (dsimp only at *; omega))⟩⟩⟩
            · skip
              refine zc_ne (tgt := 168) hx hb (by omega) (by omega) dL_best_148 (by decide) (fun c_19 => ?_) (fun c_19 => ?_)
              · refine lv_iconst (v := (-1)) hx hb dL_best_168 (by decide) ?_
                exact J169 ((-1)) ls ⟨lv_sub hl [0, 1, 2, 3, 4, 5, 6, 7, 8, 9, 10, 11, 12, 13] rfl, ⟨fun q => absurd (show met = 2 ^ mn - 1 by rw [hmet]; exact (mts_full hm0).mpr q) (by assumption), fun _ => rfl⟩⟩
              · refine lv_aload_n hx hb dL_best_151 rfl (lv_at hl 1 rfl) ?_
                refine lv_aload_n hx hb dL_best_152 rfl (lv_at hl 2 rfl) ?_
                refine lv_aload_n hx hb dL_best_153 rfl (lv_at hl 3 rfl) ?_
                refine lv_aload hx hb dL_best_154 (lv_at hl 4 rfl) ?_
                refine lv_iload hx hb dL_best_156 (lv_at hl 6 rfl) ?_
                refine lv_aload hx hb dL_best_158 (lv_at hl 9 rfl) ?_
                refine lv_iload hx hb dL_best_160 (lv_at hl 10 rfl) ?_
                refine zk_S_i (n := 7) (As := [.ref ta, .ref fa, .ref va, .ref ja, .int (nI (d)), .ref ra, .int (nI (mn))]) (rest := []) hx hb hml hts hown hZ hP (c_L_time l D cA ((ra, zInts cA 8 R) :: (la, zInts cA 8 (colF (fun _ => nI 0) (wl fw (nI tp) nj))) :: ws.set ko (oa, zInts cA 8 Of)) (kt + 2) ta tf (zset_n hkt n2) (kf + 2) fa ff (zset_n hkf n3) (kv + 2) va vf (zset_n hkv n4) (kj + 2) ja jj (zset_n hkj n5) 0 ra 8 R rfl (by decide) d tp tr le mk hvt htr hle hmk hmk1 h1 h2 h3 h4 htp hd P0 hvp hP0 b fcn hfc hb0 hbi hbm jf (jl (wl fw (nI tp) nj) (dgs mn mn code)) (fun i hi => by rw [jl_len, dgs_len] at hi; exact hRw i hi) (fun x hx9 => hR x (jl_mem (fun i hi => by rw [hmn]; exact hdm i hi) hx9)) (by rw [jl_len, dgs_len]; omega) mn (by rw [jl_len, dgs_len])) gL_best_L_time rfl ⟨rfl, rfl⟩ ⟨by decide +kernel, Nat.le_of_ble_eq_true rfl, Nat.le_of_ble_eq_true rfl⟩ hl.1 rfl (Nat.le_of_ble_eq_true rfl) ⟨Nat.le_of_ble_eq_true rfl, Nat.le_of_ble_eq_true rfl⟩ rfl dL_best_162 (fun r_20 hr_21 => ?_)
                obtain rfl := show r_20 = _ from hr_21
                refine zx_val (y := nI (pt lg 7 (dgs mn mn code))) (by rw [hlg _ hdm]) ?_
                refine lv_goto (tgt := 169) hx hb dL_best_165 (by decide) ?_
                exact J169 (nI (pt lg 7 (dgs mn mn code))) ls ⟨lv_sub hl [0, 1, 2, 3, 4, 5, 6, 7, 8, 9, 10, 11, 12, 13] rfl, ⟨fun _ => rfl, fun q => absurd ((mts_full hm0).mp (by rw [← hmet]; assumption)) q⟩⟩
          · have hs9 : mn - (kk + 1) + 1 = mn - kk := by omega
            have hrest' : rest = code / mn ^ (mn - (kk + 1)) := hrest
            have hrm : rest % mn < mn := Nat.mod_lt _ hm0
            have hl : lv_has ls 18 [(0, .ref ca), (1, .ref ta), (2, .ref fa), (3, .ref va), (4, .ref ja), (5, .ref da), (6, .int (nI (d))), (7, .ref oa), (8, .ref la), (9, .ref ra), (10, .int (nI (mn))), (12, .int (nI (mn ^ mn))), (11, .int (bb)), (13, .int (nI (code))), (14, .int (nI (rest))), (15, .int (nI (met))), (16, .int (nI (kk)))] := by rw [pI_s] at hl; exact hl
            refine lv_iload hx hb dL_best_97 (lv_at hl 16 rfl) ?_
            refine zf_lt (tgt := 140) hx hb (by omega) dL_best_99 (by decide) ?_
            refine lv_aload hx hb dL_best_102 (lv_at hl 9 rfl) ?_
            refine lv_iload hx hb dL_best_104 (lv_at hl 16 rfl) ?_
            refine lv_aload hx hb dL_best_106 (lv_at hl 8 rfl) ?_
            refine lv_iload hx hb dL_best_108 (lv_at hl 14 rfl) ?_
            refine lv_iload hx hb dL_best_110 (lv_at hl 10 rfl) ?_
            refine zo_rem hx hb (by omega) (by omega) (by omega) dL_best_112 ?_
            refine va_iald hx hb hZ.1 hP 1 0 rfl rfl (vp_in_nI (show rest % mn < 8 by omega) (by omega)) dL_best_113 ?_
            rw [nI_clamp (show rest % mn < 2 ^ 31 by omega)]
            refine zx_val (y := nI ((wl fw (nI tp) nj).getD (rest % mn) 0)) (colF_in (by rw [hmn]; exact hrm)) ?_
            refine va_iast hx hb hZ.1 hP hD hS 0 0 rfl rfl (vp_in_nI (show kk < 8 by omega) (by omega)) dL_best_114 (fun H locs hP hD hS => ?_)
            rw [nI_clamp (show kk < 2 ^ 31 by omega)] at hP hD
            have hP : va_P D vwCl ((ra, zInts cA 8 ((upd R kk (nI ((wl fw (nI tp) nj).getD (rest % mn) 0))))) :: (la, zInts cA 8 (colF (fun _ => nI 0) (wl fw (nI tp) nj))) :: ws.set ko (oa, zInts cA 8 Of)) H := hP
            have hD : va_D A ((ra, zInts cA 8 ((upd R kk (nI ((wl fw (nI tp) nj).getD (rest % mn) 0))))) :: (la, zInts cA 8 (colF (fun _ => nI 0) (wl fw (nI tp) nj))) :: ws.set ko (oa, zInts cA 8 Of)) := hD
            refine lv_iload hx hb dL_best_115 (lv_at hl 15 rfl) ?_
            refine lv_iconst (v := nI (1)) hx hb dL_best_117 (by decide) ?_
            refine lv_iload hx hb dL_best_118 (lv_at hl 14 rfl) ?_
            refine lv_iload hx hb dL_best_120 (lv_at hl 10 rfl) ?_
            refine zo_rem hx hb (by omega) (by omega) (by omega) dL_best_122 ?_
            refine lv_ishl hx hb dL_best_123 ?_
            refine zx_val (y := nI (2 ^ (rest % mn))) (zshl _ (by omega)) ?_
            refine lv_ior hx hb dL_best_124 ?_
            refine zx_val (y := nI (met ||| 2 ^ (rest % mn))) (zor _ _) ?_
            refine lv_istore (lv' := [(15, .int (nI (met ||| 2 ^ (rest % mn)))), (0, .ref ca), (1, .ref ta), (2, .ref fa), (3, .ref va), (4, .ref ja), (5, .ref da), (6, .int (nI (d))), (7, .ref oa), (8, .ref la), (9, .ref ra), (10, .int (nI (mn))), (12, .int (nI (mn ^ mn))), (11, .int (bb)), (13, .int (nI (code))), (14, .int (nI (rest))), (16, .int (nI (kk)))]) hx hb dL_best_125 hl (by decide) rfl (fun ls hl => ?_)
            refine lv_iload hx hb dL_best_127 (lv_at hl 15 rfl) ?_
            refine lv_iload hx hb dL_best_129 (lv_at hl 11 rfl) ?_
            refine zo_div hx hb (by omega) (by omega) (by omega) dL_best_131 ?_
            refine lv_istore (lv' := [(14, .int (nI (rest / mn))), (15, .int (nI (met ||| 2 ^ (rest % mn)))), (0, .ref ca), (1, .ref ta), (2, .ref fa), (3, .ref va), (4, .ref ja), (5, .ref da), (6, .int (nI (d))), (7, .ref oa), (8, .ref la), (9, .ref ra), (10, .int (nI (mn))), (12, .int (nI (mn ^ mn))), (11, .int (bb)), (13, .int (nI (code))), (16, .int (nI (kk)))]) hx hb dL_best_132 hl (by decide) rfl (fun ls hl => ?_)
            refine lv_iinc (v := pI kk) (lv' := [(16, .int (pI kk)), (14, .int (nI (rest / mn))), (15, .int (nI (met ||| 2 ^ (rest % mn)))), (0, .ref ca), (1, .ref ta), (2, .ref fa), (3, .ref va), (4, .ref ja), (5, .ref da), (6, .int (nI (d))), (7, .ref oa), (8, .ref la), (9, .ref ra), (10, .int (nI (mn))), (12, .int (nI (mn ^ mn))), (11, .int (bb)), (13, .int (nI (code)))]) hx hb dL_best_134 hl (k := 16) rfl (pI_dec _) (by decide) rfl (fun ls hl => ?_)
            refine lv_goto (tgt := 97) hx hb dL_best_137 (by decide) ?_
            exact ih97 (rest / mn, met ||| 2 ^ (rest % mn), kk, ((upd R kk (nI ((wl fw (nI tp) nj).getD (rest % mn) 0))))) H locs ls (by first | omega | (dsimp only; omega)) ⟨lv_sub hl [3, 4, 5, 6, 7, 8, 9, 10, 11, 12, 13, 14, 15, 16, 1, 2, 0] rfl, hP, hD, hS, ⟨by dsimp only; omega, by dsimp only; rw [hrest, Nat.div_div_eq_div_mul, ← Nat.pow_succ]; exact congrArg (fun z => code / mn ^ z) hs9, by dsimp only; rw [hmet, ← hs9, mts, ← hrest'], fun i h7 h8 => by
                      dsimp only at h7 ⊢
                      by_cases e : i = kk
                      · rw [e, pk_us, hrest', show mn - (kk + 1) = mn - 1 - kk by omega]
                      · rw [pk_un e]; exact hRi i (by first | omega | (dsimp only; omega) | (dsimp only at *; omega)) h8⟩⟩
    · refine lv_iload hx hb dL_best_56 (lv_at hl 12 rfl) ?_
      refine lv_iload hx hb dL_best_58 (lv_at hl 10 rfl) ?_
      refine zo_mul hx hb dL_best_60 ?_
      refine lv_istore (lv' := [(12, .int (nI (al * mn))), (0, .ref ca), (1, .ref ta), (2, .ref fa), (3, .ref va), (4, .ref ja), (5, .ref da), (6, .int (nI (d))), (7, .ref oa), (8, .ref la), (9, .ref ra), (10, .int (nI (mn))), (11, .int (bb0)), (13, .int (nI (k)))]) hx hb dL_best_61 hl (by decide) rfl (fun ls hl => ?_)
      refine lv_iinc (v := nI (k + 1)) (lv' := [(13, .int (nI (k + 1))), (12, .int (nI (al * mn))), (0, .ref ca), (1, .ref ta), (2, .ref fa), (3, .ref va), (4, .ref ja), (5, .ref da), (6, .int (nI (d))), (7, .ref oa), (8, .ref la), (9, .ref ra), (10, .int (nI (mn))), (11, .int (bb0))]) hx hb dL_best_63 hl (k := 13) rfl (zinc 1 _) (by decide) rfl (fun ls hl => ?_)
      refine lv_goto (tgt := 49) hx hb dL_best_66 (by decide) ?_
      exact ih49 (al * mn, k + 1) ls (by first | omega | (dsimp only; omega)) ⟨lv_sub hl [2, 3, 4, 5, 6, 7, 8, 9, 10, 11, 12, 13, 1, 0] rfl, ⟨by dsimp only; rw [hal, Nat.pow_succ], by dsimp only; omega⟩⟩
  · skip
    refine zf_ne (tgt := 40) hx hb (by omega) dL_best_33 (by decide) (fun c_23 => ?_) (fun c_23 => ?_)
    · refine lv_iconst (v := (-1)) hx hb dL_best_40 (by decide) ?_
      exact J41 ((-1)) ls ⟨lv_sub hl [3, 4, 5, 6, 7, 8, 9, 10, 2, 1, 0] rfl, ⟨fun q => absurd q (by omega), fun _ => rfl⟩⟩
    · refine lv_iconst (v := nI (0)) hx hb dL_best_36 (by decide) ?_
      refine lv_goto (tgt := 41) hx hb dL_best_37 (by decide) ?_
      exact J41 (nI (0)) ls ⟨lv_sub hl [3, 4, 5, 6, 7, 8, 9, 10, 2, 1, 0] rfl, ⟨fun _ => rfl, fun q => absurd q (by omega)⟩⟩
