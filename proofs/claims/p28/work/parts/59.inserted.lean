set_option maxHeartbeats 4000000 in
set_option maxRecDepth 100000 in
theorem c_L_inserted (l : Launch) (D : va_G) (cA : Nat → ClassId) (sz : Nat) (ws : va_W) (kc ca : Nat) (cf : Nat → Int32) (hkc : ws[kc]? = some (ca, zInts cA 4 cf)) (kt ta : Nat) (tf : Nat → Int32) (hkt : ws[kt]? = some (ta, zInts cA 24 tf)) (kf fa : Nat) (ff : Nat → Int32) (hkf : ws[kf]? = some (fa, zInts cA 24 ff)) (kv va : Nat) (vf : Nat → Int32) (hkv : ws[kv]? = some (va, zInts cA 10 vf)) (kj ja : Nat) (jj : Nat → Int32) (hkj : ws[kj]? = some (ja, zInts cA 40 jj)) (kd da : Nat) (dd : Nat → Int32) (hkd : ws[kd]? = some (da, zInts cA 20 dd)) (nj : Nat) (jt : Nat → Nat) (fin : Nat → Bool) (fw : Nat → Int32) (hcn : cf 2 = nI nj) (hn20 : nj ≤ 20) (hjob : ∀ k, k < nj → jj k = nI (jt k) ∧ jt k < 2 ^ 31 ∧ dd k = bI (fin k) ∧ fw k = (if fin k then -1 else nI (jt k)))(d tp tr le mk : Nat) (hvt : vf (6 + d) = nI tp) (htr : tf tp = nI tr) (hle : tf (4 + tp) = nI le) (hmk : vf d = nI mk) (hmk1 : mk ≤ 1) (h1 : 1 ≤ tr) (h2 : 1 ≤ le) (h3 : tr ≤ 8) (h4 : le ≤ 200) (htp : tp < 4) (hd : d < 2) (P0 : Nat) (hvp : vf (8 + d) = nI P0) (hP0 : P0 ≤ tr * le) (b : Nat → Nat) (fcn : Nat) (hfc : fcn ≤ 6) (hb0 : b 0 = 0) (hbi : ∀ k, k < fcn → b k ≤ b (k + 1) ∧ ff (6 * tp + k) = nI (b (k + 1) - b k)) (hbm : ∀ k, k ≤ fcn → b k ≤ tr * le) (mn : Nat) (hmn : (wl fw (nI tp) nj).length = mn) (hm5 : mn ≤ 5) (jf : Nat → Nat) (hR : ∀ x, x ∈ (wl fw (nI tp) nj) → x < 20 ∧ jj x = nI tp ∧ jj (20 + x) = nI (jf x) ∧ jf x < fcn) (lg : Nat → Nat → Nat) (hlg : ∀ O : List Nat, (∀ i, i ∈ O → i < mn) → tmJ (zpa mk) (zsp mk) tr le b jf P0 (jl (wl fw (nI tp) nj) O) = pt lg 7 O) (hpb : ∀ O : List Nat, (∀ i, i ∈ O → i < mn) → O.length ≤ mn → pt lg 7 O < 2 ^ 30)  : Met l yL_inserted wsL_inserted ({ frames := 3, cells := 4, slots := 32, locals := 87 }) (va_Pc [.ref ca, .ref ta, .ref fa, .ref va, .ref ja, .ref da, .int (nI (d))] (zM D cA (ws) sz)) (va_Qi (fun (r : Int32) (u : Unit) => r = nI (pt lg 7 (insL lg mn))) (fun u => zB D (va_A (ws) sz) (ws)) (va_A (ws) sz)) 4 32 (va_A (ws) sz) := by
  refine zOpen (cc := cL_inserted) (maxL := 18) (ret := (some .int)) (own := RL) (by decide) rfl rfl (Nat.le_of_ble_eq_true rfl) ?_
  intro p e s m below meth c ls hx hb hr hml hts hown hlocks hnm ⟨hZ, hP, hD0, hsz⟩ hl
  subst hsz
  have hD := hD0.self (sz := s.heap.size)
  generalize hAe : va_A (ws) s.heap.size = A at hD ⊢
  have hA : ∀ q : Nat, s.heap.size ≤ q → A q := fun q h => by rw [← hAe]; exact Or.inr h
  have hS : va_S A s.heap s.heap [] := va_S.rf
  have hl : lv_has ls 18 [(0, .ref ca), (1, .ref ta), (2, .ref fa), (3, .ref va), (4, .ref ja), (5, .ref da), (6, .int (nI (d)))] := hl
  refine lv_bipush (v := nI (8)) hx hb dL_inserted_0 (by decide) ?_
  refine z_newF hx hb (hts (.arrayClass .int) (by decide +kernel)) hZ hP hD hS hA 8 (by decide) (Nat.le_of_ble_eq_true rfl) (Nat.le_of_ble_eq_true rfl) dL_inserted_2 (fun la H hP hD hS => ?_)
  refine lv_astore (lv' := [(7, .ref la), (0, .ref ca), (1, .ref ta), (2, .ref fa), (3, .ref va), (4, .ref ja), (5, .ref da), (6, .int (nI (d)))]) hx hb dL_inserted_4 hl (by decide) rfl (fun ls hl => ?_)
  refine lv_bipush (v := nI (8)) hx hb dL_inserted_6 (by decide) ?_
  refine z_newF hx hb (hts (.arrayClass .int) (by decide +kernel)) hZ hP hD hS hA 8 (by decide) (Nat.le_of_ble_eq_true rfl) (Nat.le_of_ble_eq_true rfl) dL_inserted_8 (fun ra H hP hD hS => ?_)
  refine lv_astore (lv' := [(8, .ref ra), (7, .ref la), (0, .ref ca), (1, .ref ta), (2, .ref fa), (3, .ref va), (4, .ref ja), (5, .ref da), (6, .int (nI (d)))]) hx hb dL_inserted_10 hl (by decide) rfl (fun ls hl => ?_)
  refine lv_bipush (v := nI (8)) hx hb dL_inserted_12 (by decide) ?_
  refine z_newF hx hb (hts (.arrayClass .int) (by decide +kernel)) hZ hP hD hS hA 8 (by decide) (Nat.le_of_ble_eq_true rfl) (Nat.le_of_ble_eq_true rfl) dL_inserted_14 (fun wa H hP hD hS => ?_)
  refine lv_astore (lv' := [(9, .ref wa), (8, .ref ra), (7, .ref la), (0, .ref ca), (1, .ref ta), (2, .ref fa), (3, .ref va), (4, .ref ja), (5, .ref da), (6, .int (nI (d)))]) hx hb dL_inserted_16 hl (by decide) rfl (fun ls hl => ?_)
  refine lv_bipush (v := nI (8)) hx hb dL_inserted_18 (by decide) ?_
  refine z_newF hx hb (hts (.arrayClass .int) (by decide +kernel)) hZ hP hD hS hA 8 (by decide) (Nat.le_of_ble_eq_true rfl) (Nat.le_of_ble_eq_true rfl) dL_inserted_20 (fun na H hP hD hS => ?_)
  refine lv_astore (lv' := [(10, .ref na), (9, .ref wa), (8, .ref ra), (7, .ref la), (0, .ref ca), (1, .ref ta), (2, .ref fa), (3, .ref va), (4, .ref ja), (5, .ref da), (6, .int (nI (d)))]) hx hb dL_inserted_22 hl (by decide) rfl (fun ls hl => ?_)
  have hP : va_P D vwCl ((na, zInts cA 8 ((fun _ => nI 0))) :: (wa, zInts cA 8 ((fun _ => nI 0))) :: (ra, zInts cA 8 ((fun _ => nI 0))) :: (la, zInts cA 8 (fun _ => nI 0)) :: ws) H := hP
  have hD : va_D A ((na, zInts cA 8 ((fun _ => nI 0))) :: (wa, zInts cA 8 ((fun _ => nI 0))) :: (ra, zInts cA 8 ((fun _ => nI 0))) :: (la, zInts cA 8 (fun _ => nI 0)) :: ws) := hD
  refine lv_aload_n hx hb dL_inserted_24 rfl (lv_at hl 4 rfl) ?_
  refine lv_aload hx hb dL_inserted_25 (lv_at hl 8 rfl) ?_
  refine lv_aload hx hb dL_inserted_27 (lv_at hl 9 rfl) ?_
  refine lv_aload_n hx hb dL_inserted_29 rfl (lv_at hl 7 rfl) ?_
  refine lv_bipush (v := nI (6)) hx hb dL_inserted_30 (by decide) ?_
  refine lv_iload hx hb dL_inserted_32 (lv_at hl 10 rfl) ?_
  refine zo_add hx hb dL_inserted_34 ?_
  refine va_iald hx hb hZ.1 hP (kv + 4) 0 hkv rfl (vp_in_nI (show 6 + d < 10 by omega) (by omega)) dL_inserted_35 ?_
  rw [nI_clamp (show 6 + d < 2 ^ 31 by omega)]
  refine zx_val (y := nI (tp)) (hvt) ?_
  refine lv_aload hx hb dL_inserted_36 (lv_at hl 3 rfl) ?_
  refine zw_S_i (n := 5) (mc := 0) (ms := 0) (As := [.ref ca, .ref ja, .ref da, .int (nI (tp)), .ref la]) (rest := []) (w1 := fun u : Unit => (na, zInts cA 8 ((fun _ => nI 0))) :: (wa, zInts cA 8 ((fun _ => nI 0))) :: (ra, zInts cA 8 ((fun _ => nI 0))) :: (la, zInts cA 8 (colF (fun _ => nI 0) (wl fw (nI tp) nj))) :: ws) hx hb hml hts hown hZ hP hD hS hA (c_L_listed l D cA H.size _ (kc + 4) ca cf hkc (kj + 4) ja jj hkj (kd + 4) da dd hkd nj tp jt fin fw hcn hn20 (by omega) hjob 3 la 8 (fun _ => nI 0) rfl (by rw [hmn]; omega) (by decide) (by omega) (by omega) (by omega)) gL_inserted_L_listed  rfl ⟨rfl, rfl⟩ ⟨by decide +kernel, Nat.le_of_ble_eq_true rfl, Nat.le_of_ble_eq_true rfl⟩ hl.1 rfl (Nat.le_of_ble_eq_true rfl) ⟨Nat.le_of_ble_eq_true rfl, Nat.le_of_ble_eq_true rfl⟩ rfl dL_inserted_38 (fun r_1 u_3 H locs hr_2 hP hD hS hz_3 => ?_)
  obtain rfl := show r_1 = _ from hr_2
  have hP : va_P D vwCl ((na, zInts cA 8 ((fun _ => nI 0))) :: (wa, zInts cA 8 ((fun _ => nI 0))) :: (ra, zInts cA 8 ((fun _ => nI 0))) :: (la, zInts cA 8 (colF (fun _ => nI 0) (wl fw (nI tp) nj))) :: ws) H := hP
  have hD : va_D A ((na, zInts cA 8 ((fun _ => nI 0))) :: (wa, zInts cA 8 ((fun _ => nI 0))) :: (ra, zInts cA 8 ((fun _ => nI 0))) :: (la, zInts cA 8 (colF (fun _ => nI 0) (wl fw (nI tp) nj))) :: ws) := hD
  refine zx_val (y := nI (mn)) (by rw [hmn]) ?_
  refine lv_istore (lv' := [(11, .int (nI (mn))), (10, .ref na), (9, .ref wa), (8, .ref ra), (7, .ref la), (0, .ref ca), (1, .ref ta), (2, .ref fa), (3, .ref va), (4, .ref ja), (5, .ref da), (6, .int (nI (d)))]) hx hb dL_inserted_41 hl (by decide) rfl (fun ls hl => ?_)
  refine lv_iconst (v := nI (0)) hx hb dL_inserted_43 (by decide) ?_
  refine lv_istore (lv' := [(12, .int (nI (0))), (11, .int (nI (mn))), (10, .ref na), (9, .ref wa), (8, .ref ra), (7, .ref la), (0, .ref ca), (1, .ref ta), (2, .ref fa), (3, .ref va), (4, .ref ja), (5, .ref da), (6, .int (nI (d)))]) hx hb dL_inserted_44 hl (by decide) rfl (fun ls hl => ?_)
  refine lv_iconst (v := nI (0)) hx hb dL_inserted_46 (by decide) ?_
  refine lv_istore (lv' := [(13, .int (nI (0))), (12, .int (nI (0))), (11, .int (nI (mn))), (10, .ref na), (9, .ref wa), (8, .ref ra), (7, .ref la), (0, .ref ca), (1, .ref ta), (2, .ref fa), (3, .ref va), (4, .ref ja), (5, .ref da), (6, .int (nI (d)))]) hx hb dL_inserted_47 hl (by decide) rfl (fun ls hl => ?_)
  refine z_loopW (α := Nat × Nat × (Nat → Int32) × (Nat → Int32) × (Nat → Int32)) (fun v => mn - v.2.1) (fun v H locs ls => lv_has ls 18 [(0, .ref ca), (1, .ref ta), (2, .ref fa), (3, .ref va), (4, .ref ja), (5, .ref da), (6, .int (nI (d))), (7, .ref la), (8, .ref ra), (9, .ref wa), (10, .ref na), (11, .int (nI (mn))), (12, .int (nI (v.1))), (13, .int (nI (v.2.1)))] ∧ va_P D vwCl ((na, zInts cA 8 v.2.2.2.2) :: (wa, zInts cA 8 v.2.2.2.1) :: (ra, zInts cA 8 v.2.2.1) :: (la, zInts cA 8 (colF (fun _ => nI 0) (wl fw (nI tp) nj))) :: ws) H ∧ va_D A ((na, zInts cA 8 v.2.2.2.2) :: (wa, zInts cA 8 v.2.2.2.1) :: (ra, zInts cA 8 v.2.2.1) :: (la, zInts cA 8 (colF (fun _ => nI 0) (wl fw (nI tp) nj))) :: ws) ∧ va_S A s.heap H locs ∧ v.2.1 ≤ mn ∧ v.1 = pt lg 7 (insL lg v.2.1) ∧ ∀ i, i < v.2.1 → v.2.2.1 i = nI ((wl fw (nI tp) nj).getD ((insL lg v.2.1).getD i 0) 0)) (fun _ => []) (0, 0, (fun _ => nI 0), (fun _ => nI 0), (fun _ => nI 0)) ⟨lv_sub hl [7, 8, 9, 10, 11, 12, 13, 6, 5, 4, 3, 2, 1, 0] rfl, hP, hD, hS, ⟨Nat.zero_le _, rfl, fun i h => absurd h (Nat.not_lt_zero i)⟩⟩ ?_
  intro v ih49 H locs ls hv
  obtain ⟨sv, nn, R, Wf, X⟩ := v
  obtain ⟨hl, hP, hD, hS, hI⟩ := hv
  have hP : va_P D vwCl ((na, zInts cA 8 X) :: (wa, zInts cA 8 Wf) :: (ra, zInts cA 8 R) :: (la, zInts cA 8 (colF (fun _ => nI 0) (wl fw (nI tp) nj))) :: ws) H := hP
  have hD : va_D A ((na, zInts cA 8 X) :: (wa, zInts cA 8 Wf) :: (ra, zInts cA 8 R) :: (la, zInts cA 8 (colF (fun _ => nI 0) (wl fw (nI tp) nj))) :: ws) := hD
  have hl : lv_has ls 18 [(0, .ref ca), (1, .ref ta), (2, .ref fa), (3, .ref va), (4, .ref ja), (5, .ref da), (6, .int (nI (d))), (7, .ref la), (8, .ref ra), (9, .ref wa), (10, .ref na), (11, .int (nI (mn))), (12, .int (nI (sv))), (13, .int (nI (nn)))] := hl
  have hI : nn ≤ mn ∧ sv = pt lg 7 (insL lg nn) ∧ ∀ i, i < nn → R i = nI ((wl fw (nI tp) nj).getD ((insL lg nn).getD i 0) 0) := hI
  obtain ⟨hnn, hsv, hRi⟩ := hI
  refine lv_iload hx hb dL_inserted_49 (lv_at hl 13 rfl) ?_
  refine lv_iload hx hb dL_inserted_51 (lv_at hl 11 rfl) ?_
  refine zc_ge (tgt := 226) hx hb (by omega) (by omega) dL_inserted_53 (by decide) (fun c_4 => ?_) (fun c_4 => ?_)
  · have hP := zd_P (zd_P (zd_P (zd_P hP)))
    have hD := zd_D (zd_D (zd_D (zd_D hD)))
    refine lv_iload hx hb dL_inserted_226 (lv_at hl 12 rfl) ?_
    exact zr_qi (S := Unit) (w1 := fun u => ws) () hx hb hr hlocks (by rw [hsv, show nn = mn by omega]) hP hD hS (rfl) dL_inserted_228
  · refine lv_iconst (v := (-1)) hx hb dL_inserted_56 (by decide) ?_
    refine lv_istore (lv' := [(14, .int ((-1))), (0, .ref ca), (1, .ref ta), (2, .ref fa), (3, .ref va), (4, .ref ja), (5, .ref da), (6, .int (nI (d))), (7, .ref la), (8, .ref ra), (9, .ref wa), (10, .ref na), (11, .int (nI (mn))), (12, .int (nI (sv))), (13, .int (nI (nn)))]) hx hb dL_inserted_57 hl (by decide) rfl (fun ls hl => ?_)
    refine lv_iconst (v := nI (0)) hx hb dL_inserted_59 (by decide) ?_
    refine lv_istore (lv' := [(15, .int (nI (0))), (14, .int ((-1))), (0, .ref ca), (1, .ref ta), (2, .ref fa), (3, .ref va), (4, .ref ja), (5, .ref da), (6, .int (nI (d))), (7, .ref la), (8, .ref ra), (9, .ref wa), (10, .ref na), (11, .int (nI (mn))), (12, .int (nI (sv))), (13, .int (nI (nn)))]) hx hb dL_inserted_60 hl (by decide) rfl (fun ls hl => ?_)
    have hnm : nn < mn := by omega
    refine z_loopW (α := Int32 × Nat × (Nat → Int32) × (Nat → Int32)) (fun v => nn + 1 - v.2.1) (fun v H locs ls => lv_has ls 18 [(0, .ref ca), (1, .ref ta), (2, .ref fa), (3, .ref va), (4, .ref ja), (5, .ref da), (6, .int (nI (d))), (7, .ref la), (8, .ref ra), (9, .ref wa), (10, .ref na), (11, .int (nI (mn))), (12, .int (nI (sv))), (13, .int (nI (nn))), (14, .int (v.1)), (15, .int (nI (v.2.1)))] ∧ va_P D vwCl ((na, zInts cA 8 v.2.2.2) :: (wa, zInts cA 8 v.2.2.1) :: (ra, zInts cA 8 R) :: (la, zInts cA 8 (colF (fun _ => nI 0) (wl fw (nI tp) nj))) :: ws) H ∧ va_D A ((na, zInts cA 8 v.2.2.2) :: (wa, zInts cA 8 v.2.2.1) :: (ra, zInts cA 8 R) :: (la, zInts cA 8 (colF (fun _ => nI 0) (wl fw (nI tp) nj))) :: ws) ∧ va_S A s.heap H locs ∧ v.2.1 ≤ nn + 1 ∧ (v.2.1 = 0 → v.1 = -1) ∧ (0 < v.2.1 → ∃ b9, aminP (fun q => pt lg 7 ((insL lg nn).insertIdx q nn)) (fun _ => true) v.2.1 = some b9 ∧ v.1 = nI ((fun q => pt lg 7 ((insL lg nn).insertIdx q nn)) b9) ∧ ∀ i, i < nn + 1 → v.2.2.2 i = nI ((wl fw (nI tp) nj).getD (((insL lg nn).insertIdx b9 nn).getD i 0) 0))) (fun _ => []) ((-1), 0, Wf, X) ⟨lv_sub hl [2, 3, 4, 5, 6, 7, 8, 9, 10, 11, 12, 13, 14, 15, 1, 0] rfl, hP, hD, hS, ⟨Nat.zero_le _, fun _ => rfl, fun q => absurd q (Nat.lt_irrefl 0)⟩⟩ ?_
    intro v ih62 H locs ls hv
    obtain ⟨lst, aa, Wg, Xg⟩ := v
    obtain ⟨hl, hP, hD, hS, hI⟩ := hv
    have hP : va_P D vwCl ((na, zInts cA 8 Xg) :: (wa, zInts cA 8 Wg) :: (ra, zInts cA 8 R) :: (la, zInts cA 8 (colF (fun _ => nI 0) (wl fw (nI tp) nj))) :: ws) H := hP
    have hD : va_D A ((na, zInts cA 8 Xg) :: (wa, zInts cA 8 Wg) :: (ra, zInts cA 8 R) :: (la, zInts cA 8 (colF (fun _ => nI 0) (wl fw (nI tp) nj))) :: ws) := hD
    have hl : lv_has ls 18 [(0, .ref ca), (1, .ref ta), (2, .ref fa), (3, .ref va), (4, .ref ja), (5, .ref da), (6, .int (nI (d))), (7, .ref la), (8, .ref ra), (9, .ref wa), (10, .ref na), (11, .int (nI (mn))), (12, .int (nI (sv))), (13, .int (nI (nn))), (14, .int (lst)), (15, .int (nI (aa)))] := hl
    have hI : aa ≤ nn + 1 ∧ (aa = 0 → lst = -1) ∧ (0 < aa → ∃ b9, aminP (fun q => pt lg 7 ((insL lg nn).insertIdx q nn)) (fun _ => true) aa = some b9 ∧ lst = nI ((fun q => pt lg 7 ((insL lg nn).insertIdx q nn)) b9) ∧ ∀ i, i < nn + 1 → Xg i = nI ((wl fw (nI tp) nj).getD (((insL lg nn).insertIdx b9 nn).getD i 0) 0)) := hI
    obtain ⟨haa, hl0, hl1⟩ := hI
    refine lv_iload hx hb dL_inserted_62 (lv_at hl 15 rfl) ?_
    refine lv_iload hx hb dL_inserted_64 (lv_at hl 13 rfl) ?_
    refine zc_gt (tgt := 190) hx hb (by omega) (by omega) dL_inserted_66 (by decide) (fun c_5 => ?_) (fun c_5 => ?_)
    · obtain ⟨b9, hbm, hbl, hXb⟩ := hl1 (by omega)
      have haa2 : aa = nn + 1 := by omega
      rw [haa2] at hbm
      obtain ⟨hib, hb9⟩ := insL_of hbm
      rw [hbl] at hl
      skip
      refine lv_iconst (v := nI (0)) hx hb dL_inserted_190 (by decide) ?_
      refine lv_istore (lv' := [(15, .int (nI (0))), (0, .ref ca), (1, .ref ta), (2, .ref fa), (3, .ref va), (4, .ref ja), (5, .ref da), (6, .int (nI (d))), (7, .ref la), (8, .ref ra), (9, .ref wa), (10, .ref na), (11, .int (nI (mn))), (12, .int (nI (sv))), (13, .int (nI (nn))), (14, .int (nI (pt lg 7 ((insL lg nn).insertIdx b9 nn))))]) hx hb dL_inserted_191 hl (by decide) rfl (fun ls hl => ?_)
      have hsv2 : pt lg 7 ((insL lg nn).insertIdx b9 nn) = pt lg 7 (insL lg (nn + 1)) := by rw [hib]
      rw [hsv2] at hl
      refine z_loopW (α := Nat × (Nat → Int32)) (fun v => nn + 1 - v.1) (fun v H locs ls => lv_has ls 18 [(0, .ref ca), (1, .ref ta), (2, .ref fa), (3, .ref va), (4, .ref ja), (5, .ref da), (6, .int (nI (d))), (7, .ref la), (8, .ref ra), (9, .ref wa), (10, .ref na), (11, .int (nI (mn))), (12, .int (nI (sv))), (13, .int (nI (nn))), (14, .int (nI (pt lg 7 (insL lg (nn + 1))))), (15, .int (nI (v.1)))] ∧ va_P D vwCl ((na, zInts cA 8 Xg) :: (wa, zInts cA 8 Wg) :: (ra, zInts cA 8 v.2) :: (la, zInts cA 8 (colF (fun _ => nI 0) (wl fw (nI tp) nj))) :: ws) H ∧ va_D A ((na, zInts cA 8 Xg) :: (wa, zInts cA 8 Wg) :: (ra, zInts cA 8 v.2) :: (la, zInts cA 8 (colF (fun _ => nI 0) (wl fw (nI tp) nj))) :: ws) ∧ va_S A s.heap H locs ∧ v.1 ≤ nn + 1 ∧ ∀ i, i < v.1 → v.2 i = Xg i) (fun _ => []) (0, R) ⟨lv_sub hl [1, 2, 3, 4, 5, 6, 7, 8, 9, 10, 11, 12, 13, 14, 15, 0] rfl, hP, hD, hS, ⟨Nat.zero_le _, fun i h => absurd h (Nat.not_lt_zero i)⟩⟩ ?_
      intro v ih193 H locs ls hv
      obtain ⟨k8, Rg⟩ := v
      obtain ⟨hl, hP, hD, hS, hI⟩ := hv
      have hP : va_P D vwCl ((na, zInts cA 8 Xg) :: (wa, zInts cA 8 Wg) :: (ra, zInts cA 8 Rg) :: (la, zInts cA 8 (colF (fun _ => nI 0) (wl fw (nI tp) nj))) :: ws) H := hP
      have hD : va_D A ((na, zInts cA 8 Xg) :: (wa, zInts cA 8 Wg) :: (ra, zInts cA 8 Rg) :: (la, zInts cA 8 (colF (fun _ => nI 0) (wl fw (nI tp) nj))) :: ws) := hD
      have hl : lv_has ls 18 [(0, .ref ca), (1, .ref ta), (2, .ref fa), (3, .ref va), (4, .ref ja), (5, .ref da), (6, .int (nI (d))), (7, .ref la), (8, .ref ra), (9, .ref wa), (10, .ref na), (11, .int (nI (mn))), (12, .int (nI (sv))), (13, .int (nI (nn))), (14, .int (nI (pt lg 7 (insL lg (nn + 1))))), (15, .int (nI (k8)))] := hl
      have hI : k8 ≤ nn + 1 ∧ ∀ i, i < k8 → Rg i = Xg i := hI
      obtain ⟨hk8, hRc⟩ := hI
      refine lv_iload hx hb dL_inserted_193 (lv_at hl 15 rfl) ?_
      refine lv_iload hx hb dL_inserted_195 (lv_at hl 13 rfl) ?_
      refine zc_gt (tgt := 216) hx hb (by omega) (by omega) dL_inserted_197 (by decide) (fun c_6 => ?_) (fun c_6 => ?_)
      · refine lv_iload hx hb dL_inserted_216 (lv_at hl 14 rfl) ?_
        refine lv_istore (lv' := [(12, .int (nI (pt lg 7 (insL lg (nn + 1))))), (0, .ref ca), (1, .ref ta), (2, .ref fa), (3, .ref va), (4, .ref ja), (5, .ref da), (6, .int (nI (d))), (7, .ref la), (8, .ref ra), (9, .ref wa), (10, .ref na), (11, .int (nI (mn))), (13, .int (nI (nn))), (14, .int (nI (pt lg 7 (insL lg (nn + 1))))), (15, .int (nI (k8)))]) hx hb dL_inserted_218 hl (by decide) rfl (fun ls hl => ?_)
        refine lv_iinc (v := nI (nn + 1)) (lv' := [(13, .int (nI (nn + 1))), (12, .int (nI (pt lg 7 (insL lg (nn + 1))))), (0, .ref ca), (1, .ref ta), (2, .ref fa), (3, .ref va), (4, .ref ja), (5, .ref da), (6, .int (nI (d))), (7, .ref la), (8, .ref ra), (9, .ref wa), (10, .ref na), (11, .int (nI (mn))), (14, .int (nI (pt lg 7 (insL lg (nn + 1))))), (15, .int (nI (k8)))]) hx hb dL_inserted_220 hl (k := 13) rfl (zinc 1 _) (by decide) rfl (fun ls hl => ?_)
        refine lv_goto (tgt := 49) hx hb dL_inserted_223 (by decide) ?_
        exact ih49 ((pt lg 7 (insL lg (nn + 1))), nn + 1, Rg, Wg, Xg) H locs ls (by first | omega | (dsimp only; omega)) ⟨lv_sub hl [2, 3, 4, 5, 6, 7, 8, 9, 10, 11, 12, 13, 1, 0] rfl, hP, hD, hS, ⟨by dsimp only; omega, rfl, fun i h7 => by dsimp only at h7 ⊢; rw [hRc i (by first | omega | (dsimp only; omega) | (dsimp only at *; omega)), hXb i (by first | omega | (dsimp only; omega) | (dsimp only at *; omega)), hib]⟩⟩
      · refine lv_aload hx hb dL_inserted_200 (lv_at hl 8 rfl) ?_
        refine lv_iload hx hb dL_inserted_202 (lv_at hl 15 rfl) ?_
        refine lv_aload hx hb dL_inserted_204 (lv_at hl 10 rfl) ?_
        refine lv_iload hx hb dL_inserted_206 (lv_at hl 15 rfl) ?_
        refine va_iald hx hb hZ.1 hP 0 0 rfl rfl (vp_in_nI (show k8 < 8 by omega) (by omega)) dL_inserted_208 ?_
        rw [nI_clamp (show k8 < 2 ^ 31 by omega)]
        refine va_iast hx hb hZ.1 hP hD hS 2 0 rfl rfl (vp_in_nI (show k8 < 8 by omega) (by omega)) dL_inserted_209 (fun H locs hP hD hS => ?_)
        rw [nI_clamp (show k8 < 2 ^ 31 by omega)] at hP hD
        have hP : va_P D vwCl ((na, zInts cA 8 Xg) :: (wa, zInts cA 8 Wg) :: (ra, zInts cA 8 ((upd Rg k8 (Xg k8)))) :: (la, zInts cA 8 (colF (fun _ => nI 0) (wl fw (nI tp) nj))) :: ws) H := hP
        have hD : va_D A ((na, zInts cA 8 Xg) :: (wa, zInts cA 8 Wg) :: (ra, zInts cA 8 ((upd Rg k8 (Xg k8)))) :: (la, zInts cA 8 (colF (fun _ => nI 0) (wl fw (nI tp) nj))) :: ws) := hD
        refine lv_iinc (v := nI (k8 + 1)) (lv' := [(15, .int (nI (k8 + 1))), (0, .ref ca), (1, .ref ta), (2, .ref fa), (3, .ref va), (4, .ref ja), (5, .ref da), (6, .int (nI (d))), (7, .ref la), (8, .ref ra), (9, .ref wa), (10, .ref na), (11, .int (nI (mn))), (12, .int (nI (sv))), (13, .int (nI (nn))), (14, .int (nI (pt lg 7 (insL lg (nn + 1)))))]) hx hb dL_inserted_210 hl (k := 15) rfl (zinc 1 _) (by decide) rfl (fun ls hl => ?_)
        refine lv_goto (tgt := 193) hx hb dL_inserted_213 (by decide) ?_
        exact ih193 (k8 + 1, ((upd Rg k8 (Xg k8)))) H locs ls (by first | omega | (dsimp only; omega)) ⟨lv_sub hl [1, 2, 3, 4, 5, 6, 7, 8, 9, 10, 11, 12, 13, 14, 15, 0] rfl, hP, hD, hS, ⟨by dsimp only; omega, fun i h7 => by
                  dsimp only at h7 ⊢
                  by_cases e : i = k8
                  · rw [e, pk_us]
                  · rw [pk_un e]; exact hRc i (by first | omega | (dsimp only; omega) | (dsimp only at *; omega))⟩⟩
    · refine lv_iconst (v := nI (0)) hx hb dL_inserted_69 (by decide) ?_
      refine lv_istore (lv' := [(16, .int (nI (0))), (0, .ref ca), (1, .ref ta), (2, .ref fa), (3, .ref va), (4, .ref ja), (5, .ref da), (6, .int (nI (d))), (7, .ref la), (8, .ref ra), (9, .ref wa), (10, .ref na), (11, .int (nI (mn))), (12, .int (nI (sv))), (13, .int (nI (nn))), (14, .int (lst)), (15, .int (nI (aa)))]) hx hb dL_inserted_70 hl (by decide) rfl (fun ls hl => ?_)
      refine z_loopW (α := Nat × (Nat → Int32)) (fun v => nn + 1 - v.1) (fun v H locs ls => lv_has ls 18 [(0, .ref ca), (1, .ref ta), (2, .ref fa), (3, .ref va), (4, .ref ja), (5, .ref da), (6, .int (nI (d))), (7, .ref la), (8, .ref ra), (9, .ref wa), (10, .ref na), (11, .int (nI (mn))), (12, .int (nI (sv))), (13, .int (nI (nn))), (14, .int (lst)), (15, .int (nI (aa))), (16, .int (nI (v.1)))] ∧ va_P D vwCl ((na, zInts cA 8 Xg) :: (wa, zInts cA 8 v.2) :: (ra, zInts cA 8 R) :: (la, zInts cA 8 (colF (fun _ => nI 0) (wl fw (nI tp) nj))) :: ws) H ∧ va_D A ((na, zInts cA 8 Xg) :: (wa, zInts cA 8 v.2) :: (ra, zInts cA 8 R) :: (la, zInts cA 8 (colF (fun _ => nI 0) (wl fw (nI tp) nj))) :: ws) ∧ va_S A s.heap H locs ∧ v.1 ≤ nn + 1 ∧ ∀ i, i < v.1 → v.2 i = nI ((wl fw (nI tp) nj).getD (((insL lg nn).insertIdx aa nn).getD i 0) 0)) (fun _ => []) (0, Wg) ⟨lv_sub hl [1, 2, 3, 4, 5, 6, 7, 8, 9, 10, 11, 12, 13, 14, 15, 16, 0] rfl, hP, hD, hS, ⟨Nat.zero_le _, fun i h => absurd h (Nat.not_lt_zero i)⟩⟩ ?_
      intro v ih72 H locs ls hv
      obtain ⟨k, Wh⟩ := v
      obtain ⟨hl, hP, hD, hS, hI⟩ := hv
      have hP : va_P D vwCl ((na, zInts cA 8 Xg) :: (wa, zInts cA 8 Wh) :: (ra, zInts cA 8 R) :: (la, zInts cA 8 (colF (fun _ => nI 0) (wl fw (nI tp) nj))) :: ws) H := hP
      have hD : va_D A ((na, zInts cA 8 Xg) :: (wa, zInts cA 8 Wh) :: (ra, zInts cA 8 R) :: (la, zInts cA 8 (colF (fun _ => nI 0) (wl fw (nI tp) nj))) :: ws) := hD
      have hl : lv_has ls 18 [(0, .ref ca), (1, .ref ta), (2, .ref fa), (3, .ref va), (4, .ref ja), (5, .ref da), (6, .int (nI (d))), (7, .ref la), (8, .ref ra), (9, .ref wa), (10, .ref na), (11, .int (nI (mn))), (12, .int (nI (sv))), (13, .int (nI (nn))), (14, .int (lst)), (15, .int (nI (aa))), (16, .int (nI (k)))] := hl
      have hI : k ≤ nn + 1 ∧ ∀ i, i < k → Wh i = nI ((wl fw (nI tp) nj).getD (((insL lg nn).insertIdx aa nn).getD i 0) 0) := hI
      obtain ⟨hk9, hWi⟩ := hI
      refine lv_iload hx hb dL_inserted_72 (lv_at hl 16 rfl) ?_
      refine lv_iload hx hb dL_inserted_74 (lv_at hl 13 rfl) ?_
      refine zc_gt (tgt := 124) hx hb (by omega) (by omega) dL_inserted_76 (by decide) (fun c_7 => ?_) (fun c_7 => ?_)
      · have hRw : ∀ i, i < nn + 1 → Wh i = nI ((jl (wl fw (nI tp) nj) ((insL lg nn).insertIdx aa nn)).getD i 0) := fun i hi => by
          rw [hWi i (by omega), jl_get (by rw [ins_ln (by omega)]; exact hi)]
        have hpl : pt lg 7 ((insL lg nn).insertIdx aa nn) < 2 ^ 30 := hpb _ (ins_lt hnm) (by rw [ins_ln (by omega)]; omega)
        refine lv_aload_n hx hb dL_inserted_124 rfl (lv_at hl 1 rfl) ?_
        refine lv_aload_n hx hb dL_inserted_125 rfl (lv_at hl 2 rfl) ?_
        refine lv_aload_n hx hb dL_inserted_126 rfl (lv_at hl 3 rfl) ?_
        refine lv_aload hx hb dL_inserted_127 (lv_at hl 4 rfl) ?_
        refine lv_iload hx hb dL_inserted_129 (lv_at hl 6 rfl) ?_
        refine lv_aload hx hb dL_inserted_131 (lv_at hl 9 rfl) ?_
        refine lv_iload hx hb dL_inserted_133 (lv_at hl 13 rfl) ?_
        refine lv_iconst (v := nI (1)) hx hb dL_inserted_135 (by decide) ?_
        refine zo_add hx hb dL_inserted_136 ?_
        refine zk_S_i (n := 7) (As := [.ref ta, .ref fa, .ref va, .ref ja, .int (nI (d)), .ref wa, .int (nI (nn + 1))]) (rest := []) hx hb hml hts hown hZ hP (c_L_time l D cA ((na, zInts cA 8 Xg) :: (wa, zInts cA 8 Wh) :: (ra, zInts cA 8 R) :: (la, zInts cA 8 (colF (fun _ => nI 0) (wl fw (nI tp) nj))) :: ws) (kt + 4) ta tf hkt (kf + 4) fa ff hkf (kv + 4) va vf hkv (kj + 4) ja jj hkj 1 wa 8 Wh rfl (by decide) d tp tr le mk hvt htr hle hmk hmk1 h1 h2 h3 h4 htp hd P0 hvp hP0 b fcn hfc hb0 hbi hbm jf (jl (wl fw (nI tp) nj) ((insL lg nn).insertIdx aa nn)) (fun i hi => by rw [jl_len, ins_ln (by omega)] at hi; exact hRw i hi) (fun x hx9 => hR x (jl_mem (fun i hi => by rw [hmn]; exact ins_lt hnm i hi) hx9)) (by rw [jl_len, ins_ln (by omega)]; omega) (nn + 1) (by rw [jl_len, ins_ln (by omega)])) gL_inserted_L_time rfl ⟨rfl, rfl⟩ ⟨by decide +kernel, Nat.le_of_ble_eq_true rfl, Nat.le_of_ble_eq_true rfl⟩ hl.1 rfl (Nat.le_of_ble_eq_true rfl) ⟨Nat.le_of_ble_eq_true rfl, Nat.le_of_ble_eq_true rfl⟩ rfl dL_inserted_137 (fun r_8 hr_9 => ?_)
        obtain rfl := show r_8 = _ from hr_9
        refine zx_val (y := nI (pt lg 7 ((insL lg nn).insertIdx aa nn))) (by rw [hlg _ (ins_lt hnm)]) ?_
        refine lv_istore (lv' := [(16, .int (nI (pt lg 7 ((insL lg nn).insertIdx aa nn)))), (0, .ref ca), (1, .ref ta), (2, .ref fa), (3, .ref va), (4, .ref ja), (5, .ref da), (6, .int (nI (d))), (7, .ref la), (8, .ref ra), (9, .ref wa), (10, .ref na), (11, .int (nI (mn))), (12, .int (nI (sv))), (13, .int (nI (nn))), (14, .int (lst)), (15, .int (nI (aa)))]) hx hb dL_inserted_140 hl (by decide) rfl (fun ls hl => ?_)
        rcases Nat.eq_zero_or_pos aa with h0aa | h0aa
        · rw [hl0 h0aa] at hl
          refine lv_iload hx hb dL_inserted_142 (lv_at hl 15 rfl) ?_
          refine lv_if_lt (tgt := 154) hx hb dL_inserted_144 (by decide) (fun c_10 => ?_) (fun c_10 => absurd (by decide) c_10)
          refine lv_iload hx hb dL_inserted_154 (lv_at hl 0 rfl) ?_
          refine lv_istore (lv' := [(14, .int (nI (pt lg 7 ((insL lg nn).insertIdx aa nn)))), (16, .int (nI (pt lg 7 ((insL lg nn).insertIdx aa nn)))), (0, .ref ca), (1, .ref ta), (2, .ref fa), (3, .ref va), (4, .ref ja), (5, .ref da), (6, .int (nI (d))), (7, .ref la), (8, .ref ra), (9, .ref wa), (10, .ref na), (11, .int (nI (mn))), (12, .int (nI (sv))), (13, .int (nI (nn))), (15, .int (nI (aa)))]) hx hb dL_inserted_156 hl (by decide) rfl (fun ls hl => ?_)
          refine lv_iconst (v := nI (0)) hx hb dL_inserted_158 (by decide) ?_
          refine lv_istore (lv' := [(17, .int (nI (0))), (14, .int (nI (pt lg 7 ((insL lg nn).insertIdx aa nn)))), (16, .int (nI (pt lg 7 ((insL lg nn).insertIdx aa nn)))), (0, .ref ca), (1, .ref ta), (2, .ref fa), (3, .ref va), (4, .ref ja), (5, .ref da), (6, .int (nI (d))), (7, .ref la), (8, .ref ra), (9, .ref wa), (10, .ref na), (11, .int (nI (mn))), (12, .int (nI (sv))), (13, .int (nI (nn))), (15, .int (nI (aa)))]) hx hb dL_inserted_159 hl (by decide) rfl (fun ls hl => ?_)
          refine z_loopW (α := Nat × (Nat → Int32)) (fun v => nn + 1 - v.1) (fun v H locs ls => lv_has ls 18 [(14, .int (nI (pt lg 7 ((insL lg nn).insertIdx aa nn)))), (16, .int (nI (pt lg 7 ((insL lg nn).insertIdx aa nn)))), (0, .ref ca), (1, .ref ta), (2, .ref fa), (3, .ref va), (4, .ref ja), (5, .ref da), (6, .int (nI (d))), (7, .ref la), (8, .ref ra), (9, .ref wa), (10, .ref na), (11, .int (nI (mn))), (12, .int (nI (sv))), (13, .int (nI (nn))), (15, .int (nI (aa))), (17, .int (nI (v.1)))] ∧ va_P D vwCl ((na, zInts cA 8 v.2) :: (wa, zInts cA 8 Wh) :: (ra, zInts cA 8 R) :: (la, zInts cA 8 (colF (fun _ => nI 0) (wl fw (nI tp) nj))) :: ws) H ∧ va_D A ((na, zInts cA 8 v.2) :: (wa, zInts cA 8 Wh) :: (ra, zInts cA 8 R) :: (la, zInts cA 8 (colF (fun _ => nI 0) (wl fw (nI tp) nj))) :: ws) ∧ va_S A s.heap H locs ∧ v.1 ≤ nn + 1 ∧ ∀ i, i < v.1 → v.2 i = Wh i) (fun _ => []) (0, Xg) ⟨lv_sub hl [1, 2, 3, 4, 5, 6, 7, 8, 9, 10, 11, 12, 13, 14, 15, 16, 17, 0] rfl, hP, hD, hS, ⟨Nat.zero_le _, fun i h => absurd h (Nat.not_lt_zero i)⟩⟩ ?_
          intro v ih161 H locs ls hv
          obtain ⟨k9, Og⟩ := v
          obtain ⟨hl, hP, hD, hS, hI⟩ := hv
          have hP : va_P D vwCl ((na, zInts cA 8 Og) :: (wa, zInts cA 8 Wh) :: (ra, zInts cA 8 R) :: (la, zInts cA 8 (colF (fun _ => nI 0) (wl fw (nI tp) nj))) :: ws) H := hP
          have hD : va_D A ((na, zInts cA 8 Og) :: (wa, zInts cA 8 Wh) :: (ra, zInts cA 8 R) :: (la, zInts cA 8 (colF (fun _ => nI 0) (wl fw (nI tp) nj))) :: ws) := hD
          have hl : lv_has ls 18 [(14, .int (nI (pt lg 7 ((insL lg nn).insertIdx aa nn)))), (16, .int (nI (pt lg 7 ((insL lg nn).insertIdx aa nn)))), (0, .ref ca), (1, .ref ta), (2, .ref fa), (3, .ref va), (4, .ref ja), (5, .ref da), (6, .int (nI (d))), (7, .ref la), (8, .ref ra), (9, .ref wa), (10, .ref na), (11, .int (nI (mn))), (12, .int (nI (sv))), (13, .int (nI (nn))), (15, .int (nI (aa))), (17, .int (nI (k9)))] := hl
          have hI : k9 ≤ nn + 1 ∧ ∀ i, i < k9 → Og i = Wh i := hI
          obtain ⟨hk8, hOg⟩ := hI
          refine lv_iload hx hb dL_inserted_161 (lv_at hl 17 rfl) ?_
          refine lv_iload hx hb dL_inserted_163 (lv_at hl 15 rfl) ?_
          refine zc_gt (tgt := 184) hx hb (by omega) (by omega) dL_inserted_165 (by decide) (fun c_11 => ?_) (fun c_11 => ?_)
          · refine lv_iinc (v := nI (aa + 1)) (lv' := [(15, .int (nI (aa + 1))), (14, .int (nI (pt lg 7 ((insL lg nn).insertIdx aa nn)))), (16, .int (nI (pt lg 7 ((insL lg nn).insertIdx aa nn)))), (0, .ref ca), (1, .ref ta), (2, .ref fa), (3, .ref va), (4, .ref ja), (5, .ref da), (6, .int (nI (d))), (7, .ref la), (8, .ref ra), (9, .ref wa), (10, .ref na), (11, .int (nI (mn))), (12, .int (nI (sv))), (13, .int (nI (nn))), (17, .int (nI (k9)))]) hx hb dL_inserted_184 hl (k := 16) rfl (zinc 1 _) (by decide) rfl (fun ls hl => ?_)
            refine lv_goto (tgt := 62) hx hb dL_inserted_187 (by decide) ?_
            exact ih62 (nI (pt lg 7 ((insL lg nn).insertIdx aa nn)), aa + 1, Wh, Og) H locs ls (by first | omega | (dsimp only; omega)) ⟨lv_sub hl [3, 4, 5, 6, 7, 8, 9, 10, 11, 12, 13, 14, 15, 16, 1, 0] rfl, hP, hD, hS, ⟨by dsimp only; omega, fun q => absurd q (by dsimp only; omega), fun _ => ⟨aa, by dsimp only; rw [aminP_y (p := fun _ => true) rfl, show aminP (fun q => pt lg 7 ((insL lg nn).insertIdx q nn)) (fun _ => true) aa = none by rw [h0aa]; rfl]; rfl, rfl, fun i h7 => by dsimp only at h7 ⊢; rw [hOg i (by first | omega | (dsimp only; omega) | (dsimp only at *; omega)), hWi i (by first | omega | (dsimp only; omega) | (dsimp only at *; omega))]⟩⟩⟩
          · refine lv_aload hx hb dL_inserted_168 (lv_at hl 12 rfl) ?_
            refine lv_iload hx hb dL_inserted_170 (lv_at hl 17 rfl) ?_
            refine lv_aload hx hb dL_inserted_172 (lv_at hl 11 rfl) ?_
            refine lv_iload hx hb dL_inserted_174 (lv_at hl 17 rfl) ?_
            refine va_iald hx hb hZ.1 hP 1 0 rfl rfl (vp_in_nI (show k9 < 8 by omega) (by omega)) dL_inserted_176 ?_
            rw [nI_clamp (show k9 < 2 ^ 31 by omega)]
            refine va_iast hx hb hZ.1 hP hD hS 0 0 rfl rfl (vp_in_nI (show k9 < 8 by omega) (by omega)) dL_inserted_177 (fun H locs hP hD hS => ?_)
            rw [nI_clamp (show k9 < 2 ^ 31 by omega)] at hP hD
            have hP : va_P D vwCl ((na, zInts cA 8 ((upd Og k9 (Wh k9)))) :: (wa, zInts cA 8 Wh) :: (ra, zInts cA 8 R) :: (la, zInts cA 8 (colF (fun _ => nI 0) (wl fw (nI tp) nj))) :: ws) H := hP
            have hD : va_D A ((na, zInts cA 8 ((upd Og k9 (Wh k9)))) :: (wa, zInts cA 8 Wh) :: (ra, zInts cA 8 R) :: (la, zInts cA 8 (colF (fun _ => nI 0) (wl fw (nI tp) nj))) :: ws) := hD
            refine lv_iinc (v := nI (k9 + 1)) (lv' := [(17, .int (nI (k9 + 1))), (14, .int (nI (pt lg 7 ((insL lg nn).insertIdx aa nn)))), (16, .int (nI (pt lg 7 ((insL lg nn).insertIdx aa nn)))), (0, .ref ca), (1, .ref ta), (2, .ref fa), (3, .ref va), (4, .ref ja), (5, .ref da), (6, .int (nI (d))), (7, .ref la), (8, .ref ra), (9, .ref wa), (10, .ref na), (11, .int (nI (mn))), (12, .int (nI (sv))), (13, .int (nI (nn))), (15, .int (nI (aa)))]) hx hb dL_inserted_178 hl (k := 17) rfl (zinc 1 _) (by decide) rfl (fun ls hl => ?_)
            refine lv_goto (tgt := 161) hx hb dL_inserted_181 (by decide) ?_
            exact ih161 (k9 + 1, ((upd Og k9 (Wh k9)))) H locs ls (by first | omega | (dsimp only; omega)) ⟨lv_sub hl [1, 2, 3, 4, 5, 6, 7, 8, 9, 10, 11, 12, 13, 14, 15, 16, 17, 0] rfl, hP, hD, hS, ⟨by dsimp only; omega, fun i h7 => by
                      dsimp only at h7 ⊢
                      by_cases e : i = k9
                      · rw [e, pk_us]
                      · rw [pk_un e]; exact hOg i (by first | omega | (dsimp only; omega) | (dsimp only at *; omega))⟩⟩
        · obtain ⟨b9, hbm, hbl, hXb⟩ := hl1 h0aa
          have hb9 := (aminP_mem _ b9 hbm).1
          have hpl9 : pt lg 7 ((insL lg nn).insertIdx b9 nn) < 2 ^ 30 := hpb _ (ins_lt hnm) (by rw [ins_ln (by omega)]; omega)
          rw [hbl] at hl
          have hl : lv_has ls 18 [(16, .int (nI (pt lg 7 ((insL lg nn).insertIdx aa nn)))), (0, .ref ca), (1, .ref ta), (2, .ref fa), (3, .ref va), (4, .ref ja), (5, .ref da), (6, .int (nI (d))), (7, .ref la), (8, .ref ra), (9, .ref wa), (10, .ref na), (11, .int (nI (mn))), (12, .int (nI (sv))), (13, .int (nI (nn))), (14, .int (nI (pt lg 7 ((insL lg nn).insertIdx b9 nn)))), (15, .int (nI (aa)))] := hl
          refine lv_iload hx hb dL_inserted_142 (lv_at hl 15 rfl) ?_
          refine zf_lt (tgt := 154) hx hb (by omega) dL_inserted_144 (by decide) ?_
          refine lv_iload hx hb dL_inserted_147 (lv_at hl 0 rfl) ?_
          refine lv_iload hx hb dL_inserted_149 (lv_at hl 15 rfl) ?_
          refine zc_ge (tgt := 184) hx hb (by omega) (by omega) dL_inserted_151 (by decide) (fun c_13 => ?_) (fun c_13 => ?_)
          · refine lv_iinc (v := nI (aa + 1)) (lv' := [(15, .int (nI (aa + 1))), (16, .int (nI (pt lg 7 ((insL lg nn).insertIdx aa nn)))), (0, .ref ca), (1, .ref ta), (2, .ref fa), (3, .ref va), (4, .ref ja), (5, .ref da), (6, .int (nI (d))), (7, .ref la), (8, .ref ra), (9, .ref wa), (10, .ref na), (11, .int (nI (mn))), (12, .int (nI (sv))), (13, .int (nI (nn))), (14, .int (nI (pt lg 7 ((insL lg nn).insertIdx b9 nn))))]) hx hb dL_inserted_184 hl (k := 16) rfl (zinc 1 _) (by decide) rfl (fun ls hl => ?_)
            refine lv_goto (tgt := 62) hx hb dL_inserted_187 (by decide) ?_
            exact ih62 (nI (pt lg 7 ((insL lg nn).insertIdx b9 nn)), aa + 1, Wh, Xg) H locs ls (by first | omega | (dsimp only; omega)) ⟨lv_sub hl [2, 3, 4, 5, 6, 7, 8, 9, 10, 11, 12, 13, 14, 15, 16, 0] rfl, hP, hD, hS, ⟨by dsimp only; omega, fun q => absurd q (by dsimp only; omega), fun _ => ⟨b9, by dsimp only; rw [aminP_y (p := fun _ => true) rfl, hbm]; exact if_neg (show ¬ pt lg 7 ((insL lg nn).insertIdx aa nn) < pt lg 7 ((insL lg nn).insertIdx b9 nn) by first | omega | (dsimp only; omega) | (dsimp only at *; omega)), rfl, hXb⟩⟩⟩
          · refine lv_iload hx hb dL_inserted_154 (lv_at hl 0 rfl) ?_
            refine lv_istore (lv' := [(14, .int (nI (pt lg 7 ((insL lg nn).insertIdx aa nn)))), (16, .int (nI (pt lg 7 ((insL lg nn).insertIdx aa nn)))), (0, .ref ca), (1, .ref ta), (2, .ref fa), (3, .ref va), (4, .ref ja), (5, .ref da), (6, .int (nI (d))), (7, .ref la), (8, .ref ra), (9, .ref wa), (10, .ref na), (11, .int (nI (mn))), (12, .int (nI (sv))), (13, .int (nI (nn))), (15, .int (nI (aa)))]) hx hb dL_inserted_156 hl (by decide) rfl (fun ls hl => ?_)
            refine lv_iconst (v := nI (0)) hx hb dL_inserted_158 (by decide) ?_
            refine lv_istore (lv' := [(17, .int (nI (0))), (14, .int (nI (pt lg 7 ((insL lg nn).insertIdx aa nn)))), (16, .int (nI (pt lg 7 ((insL lg nn).insertIdx aa nn)))), (0, .ref ca), (1, .ref ta), (2, .ref fa), (3, .ref va), (4, .ref ja), (5, .ref da), (6, .int (nI (d))), (7, .ref la), (8, .ref ra), (9, .ref wa), (10, .ref na), (11, .int (nI (mn))), (12, .int (nI (sv))), (13, .int (nI (nn))), (15, .int (nI (aa)))]) hx hb dL_inserted_159 hl (by decide) rfl (fun ls hl => ?_)
            refine z_loopW (α := Nat × (Nat → Int32)) (fun v => nn + 1 - v.1) (fun v H locs ls => lv_has ls 18 [(14, .int (nI (pt lg 7 ((insL lg nn).insertIdx aa nn)))), (16, .int (nI (pt lg 7 ((insL lg nn).insertIdx aa nn)))), (0, .ref ca), (1, .ref ta), (2, .ref fa), (3, .ref va), (4, .ref ja), (5, .ref da), (6, .int (nI (d))), (7, .ref la), (8, .ref ra), (9, .ref wa), (10, .ref na), (11, .int (nI (mn))), (12, .int (nI (sv))), (13, .int (nI (nn))), (15, .int (nI (aa))), (17, .int (nI (v.1)))] ∧ va_P D vwCl ((na, zInts cA 8 v.2) :: (wa, zInts cA 8 Wh) :: (ra, zInts cA 8 R) :: (la, zInts cA 8 (colF (fun _ => nI 0) (wl fw (nI tp) nj))) :: ws) H ∧ va_D A ((na, zInts cA 8 v.2) :: (wa, zInts cA 8 Wh) :: (ra, zInts cA 8 R) :: (la, zInts cA 8 (colF (fun _ => nI 0) (wl fw (nI tp) nj))) :: ws) ∧ va_S A s.heap H locs ∧ v.1 ≤ nn + 1 ∧ ∀ i, i < v.1 → v.2 i = Wh i) (fun _ => []) (0, Xg) ⟨lv_sub hl [1, 2, 3, 4, 5, 6, 7, 8, 9, 10, 11, 12, 13, 14, 15, 16, 17, 0] rfl, hP, hD, hS, ⟨Nat.zero_le _, fun i h => absurd h (Nat.not_lt_zero i)⟩⟩ ?_
            intro v ih161 H locs ls hv
            obtain ⟨k9, Og⟩ := v
            obtain ⟨hl, hP, hD, hS, hI⟩ := hv
            have hP : va_P D vwCl ((na, zInts cA 8 Og) :: (wa, zInts cA 8 Wh) :: (ra, zInts cA 8 R) :: (la, zInts cA 8 (colF (fun _ => nI 0) (wl fw (nI tp) nj))) :: ws) H := hP
            have hD : va_D A ((na, zInts cA 8 Og) :: (wa, zInts cA 8 Wh) :: (ra, zInts cA 8 R) :: (la, zInts cA 8 (colF (fun _ => nI 0) (wl fw (nI tp) nj))) :: ws) := hD
            have hl : lv_has ls 18 [(14, .int (nI (pt lg 7 ((insL lg nn).insertIdx aa nn)))), (16, .int (nI (pt lg 7 ((insL lg nn).insertIdx aa nn)))), (0, .ref ca), (1, .ref ta), (2, .ref fa), (3, .ref va), (4, .ref ja), (5, .ref da), (6, .int (nI (d))), (7, .ref la), (8, .ref ra), (9, .ref wa), (10, .ref na), (11, .int (nI (mn))), (12, .int (nI (sv))), (13, .int (nI (nn))), (15, .int (nI (aa))), (17, .int (nI (k9)))] := hl
            have hI : k9 ≤ nn + 1 ∧ ∀ i, i < k9 → Og i = Wh i := hI
            obtain ⟨hk8, hOg⟩ := hI
            refine lv_iload hx hb dL_inserted_161 (lv_at hl 17 rfl) ?_
            refine lv_iload hx hb dL_inserted_163 (lv_at hl 15 rfl) ?_
            refine zc_gt (tgt := 184) hx hb (by omega) (by omega) dL_inserted_165 (by decide) (fun c_14 => ?_) (fun c_14 => ?_)
            · refine lv_iinc (v := nI (aa + 1)) (lv' := [(15, .int (nI (aa + 1))), (14, .int (nI (pt lg 7 ((insL lg nn).insertIdx aa nn)))), (16, .int (nI (pt lg 7 ((insL lg nn).insertIdx aa nn)))), (0, .ref ca), (1, .ref ta), (2, .ref fa), (3, .ref va), (4, .ref ja), (5, .ref da), (6, .int (nI (d))), (7, .ref la), (8, .ref ra), (9, .ref wa), (10, .ref na), (11, .int (nI (mn))), (12, .int (nI (sv))), (13, .int (nI (nn))), (17, .int (nI (k9)))]) hx hb dL_inserted_184 hl (k := 16) rfl (zinc 1 _) (by decide) rfl (fun ls hl => ?_)
              refine lv_goto (tgt := 62) hx hb dL_inserted_187 (by decide) ?_
              exact ih62 (nI (pt lg 7 ((insL lg nn).insertIdx aa nn)), aa + 1, Wh, Og) H locs ls (by first | omega | (dsimp only; omega)) ⟨lv_sub hl [3, 4, 5, 6, 7, 8, 9, 10, 11, 12, 13, 14, 15, 16, 1, 0] rfl, hP, hD, hS, ⟨by dsimp only; omega, fun q => absurd q (by dsimp only; omega), fun _ => ⟨aa, by dsimp only; rw [aminP_y (p := fun _ => true) rfl, hbm]; exact if_pos (show pt lg 7 ((insL lg nn).insertIdx aa nn) < pt lg 7 ((insL lg nn).insertIdx b9 nn) by first | omega | (dsimp only; omega) | (dsimp only at *; omega)), rfl, fun i h7 => by dsimp only at h7 ⊢; rw [hOg i (by first | omega | (dsimp only; omega) | (dsimp only at *; omega)), hWi i (by first | omega | (dsimp only; omega) | (dsimp only at *; omega))]⟩⟩⟩
            · refine lv_aload hx hb dL_inserted_168 (lv_at hl 12 rfl) ?_
              refine lv_iload hx hb dL_inserted_170 (lv_at hl 17 rfl) ?_
              refine lv_aload hx hb dL_inserted_172 (lv_at hl 11 rfl) ?_
              refine lv_iload hx hb dL_inserted_174 (lv_at hl 17 rfl) ?_
              refine va_iald hx hb hZ.1 hP 1 0 rfl rfl (vp_in_nI (show k9 < 8 by omega) (by omega)) dL_inserted_176 ?_
              rw [nI_clamp (show k9 < 2 ^ 31 by omega)]
              refine va_iast hx hb hZ.1 hP hD hS 0 0 rfl rfl (vp_in_nI (show k9 < 8 by omega) (by omega)) dL_inserted_177 (fun H locs hP hD hS => ?_)
              rw [nI_clamp (show k9 < 2 ^ 31 by omega)] at hP hD
              have hP : va_P D vwCl ((na, zInts cA 8 ((upd Og k9 (Wh k9)))) :: (wa, zInts cA 8 Wh) :: (ra, zInts cA 8 R) :: (la, zInts cA 8 (colF (fun _ => nI 0) (wl fw (nI tp) nj))) :: ws) H := hP
              have hD : va_D A ((na, zInts cA 8 ((upd Og k9 (Wh k9)))) :: (wa, zInts cA 8 Wh) :: (ra, zInts cA 8 R) :: (la, zInts cA 8 (colF (fun _ => nI 0) (wl fw (nI tp) nj))) :: ws) := hD
              refine lv_iinc (v := nI (k9 + 1)) (lv' := [(17, .int (nI (k9 + 1))), (14, .int (nI (pt lg 7 ((insL lg nn).insertIdx aa nn)))), (16, .int (nI (pt lg 7 ((insL lg nn).insertIdx aa nn)))), (0, .ref ca), (1, .ref ta), (2, .ref fa), (3, .ref va), (4, .ref ja), (5, .ref da), (6, .int (nI (d))), (7, .ref la), (8, .ref ra), (9, .ref wa), (10, .ref na), (11, .int (nI (mn))), (12, .int (nI (sv))), (13, .int (nI (nn))), (15, .int (nI (aa)))]) hx hb dL_inserted_178 hl (k := 17) rfl (zinc 1 _) (by decide) rfl (fun ls hl => ?_)
              refine lv_goto (tgt := 161) hx hb dL_inserted_181 (by decide) ?_
              exact ih161 (k9 + 1, ((upd Og k9 (Wh k9)))) H locs ls (by first | omega | (dsimp only; omega)) ⟨lv_sub hl [1, 2, 3, 4, 5, 6, 7, 8, 9, 10, 11, 12, 13, 14, 15, 16, 17, 0] rfl, hP, hD, hS, ⟨by dsimp only; omega, fun i h7 => by
                        dsimp only at h7 ⊢
                        by_cases e : i = k9
                        · rw [e, pk_us]
                        · rw [pk_un e]; exact hOg i (by first | omega | (dsimp only; omega) | (dsimp only at *; omega))⟩⟩
      · refine lv_aload hx hb dL_inserted_79 (lv_at hl 9 rfl) ?_
        refine lv_iload hx hb dL_inserted_81 (lv_at hl 16 rfl) ?_
        refine z_join (α := Nat) (pc' := 117) (fun v ls => lv_has ls 18 [(0, .ref ca), (1, .ref ta), (2, .ref fa), (3, .ref va), (4, .ref ja), (5, .ref da), (6, .int (nI (d))), (7, .ref la), (8, .ref ra), (9, .ref wa), (10, .ref na), (11, .int (nI (mn))), (12, .int (nI (sv))), (13, .int (nI (nn))), (14, .int (lst)), (15, .int (nI (aa))), (16, .int (nI (k)))] ∧ v = (wl fw (nI tp) nj).getD (((insL lg nn).insertIdx aa nn).getD k 0) 0) (fun v => [.int (nI (v)), .int (nI (k)), .ref wa]) ?_ (fun J117 => ?_)
        · intro wv ls hv
          obtain ⟨hl, hI⟩ := hv
          have hl : lv_has ls 18 [(0, .ref ca), (1, .ref ta), (2, .ref fa), (3, .ref va), (4, .ref ja), (5, .ref da), (6, .int (nI (d))), (7, .ref la), (8, .ref ra), (9, .ref wa), (10, .ref na), (11, .int (nI (mn))), (12, .int (nI (sv))), (13, .int (nI (nn))), (14, .int (lst)), (15, .int (nI (aa))), (16, .int (nI (k)))] := hl
          have hI : wv = (wl fw (nI tp) nj).getD (((insL lg nn).insertIdx aa nn).getD k 0) 0 := hI
          have hwv : nI wv = nI ((wl fw (nI tp) nj).getD (((insL lg nn).insertIdx aa nn).getD k 0) 0) := by rw [hI]
          refine va_iast hx hb hZ.1 hP hD hS 1 0 rfl rfl (vp_in_nI (show k < 8 by omega) (by omega)) dL_inserted_117 (fun H locs hP hD hS => ?_)
          rw [nI_clamp (show k < 2 ^ 31 by omega)] at hP hD
          have hP : va_P D vwCl ((na, zInts cA 8 Xg) :: (wa, zInts cA 8 ((upd Wh k (nI (wv))))) :: (ra, zInts cA 8 R) :: (la, zInts cA 8 (colF (fun _ => nI 0) (wl fw (nI tp) nj))) :: ws) H := hP
          have hD : va_D A ((na, zInts cA 8 Xg) :: (wa, zInts cA 8 ((upd Wh k (nI (wv))))) :: (ra, zInts cA 8 R) :: (la, zInts cA 8 (colF (fun _ => nI 0) (wl fw (nI tp) nj))) :: ws) := hD
          refine lv_iinc (v := nI (k + 1)) (lv' := [(16, .int (nI (k + 1))), (0, .ref ca), (1, .ref ta), (2, .ref fa), (3, .ref va), (4, .ref ja), (5, .ref da), (6, .int (nI (d))), (7, .ref la), (8, .ref ra), (9, .ref wa), (10, .ref na), (11, .int (nI (mn))), (12, .int (nI (sv))), (13, .int (nI (nn))), (14, .int (lst)), (15, .int (nI (aa)))]) hx hb dL_inserted_118 hl (k := 16) rfl (zinc 1 _) (by decide) rfl (fun ls hl => ?_)
          refine lv_goto (tgt := 72) hx hb dL_inserted_121 (by decide) ?_
          exact ih72 (k + 1, ((upd Wh k (nI (wv))))) H locs ls (by first | omega | (dsimp only; omega)) ⟨lv_sub hl [1, 2, 3, 4, 5, 6, 7, 8, 9, 10, 11, 12, 13, 14, 15, 16, 0] rfl, hP, hD, hS, ⟨by dsimp only; omega, fun i h7 => by
                    dsimp only at h7 ⊢
                    by_cases e : i = k
                    · rw [e, pk_us, hwv]
                    · rw [pk_un e]; exact hWi i (by first | omega | (dsimp only; omega) | (dsimp only at *; omega))⟩⟩
        · skip
          refine lv_iload hx hb dL_inserted_83 (lv_at hl 16 rfl) ?_
          refine lv_iload hx hb dL_inserted_85 (lv_at hl 15 rfl) ?_
          refine zc_ne (tgt := 98) hx hb (by omega) (by omega) dL_inserted_87 (by decide) (fun c_15 => ?_) (fun c_15 => ?_)
          · refine lv_aload hx hb dL_inserted_98 (lv_at hl 8 rfl) ?_
            refine lv_iload hx hb dL_inserted_100 (lv_at hl 16 rfl) ?_
            refine lv_iload hx hb dL_inserted_102 (lv_at hl 15 rfl) ?_
            refine zc_ge (tgt := 112) hx hb (by omega) (by omega) dL_inserted_104 (by decide) (fun c_16 => ?_) (fun c_16 => ?_)
            · refine lv_iload hx hb dL_inserted_112 (lv_at hl 16 rfl) ?_
              refine lv_iconst (v := nI (1)) hx hb dL_inserted_114 (by decide) ?_
              refine zo_sub hx hb (by omega) dL_inserted_115 ?_
              refine va_iald hx hb hZ.1 hP 2 0 rfl rfl (vp_in_nI (show k - 1 < 8 by omega) (by omega)) dL_inserted_116 ?_
              rw [nI_clamp (show k - 1 < 2 ^ 31 by omega)]
              refine zx_val (y := nI ((wl fw (nI tp) nj).getD ((insL lg nn).getD ((k - 1)) 0) 0)) (hRi _ (by omega)) ?_
              exact J117 ((wl fw (nI tp) nj).getD ((insL lg nn).getD ((k - 1)) 0) 0) ls ⟨lv_sub hl [0, 1, 2, 3, 4, 5, 6, 7, 8, 9, 10, 11, 12, 13, 14, 15, 16] rfl, by rw [insIdx_get _ _ _ _ (by rw [insL_len]; omega) (by rw [insL_len]; omega)]; rw [if_neg (by omega), if_neg (by omega)]⟩
            · refine lv_iload hx hb dL_inserted_107 (lv_at hl 16 rfl) ?_
              refine lv_goto (tgt := 116) hx hb dL_inserted_109 (by decide) ?_
              refine va_iald hx hb hZ.1 hP 2 0 rfl rfl (vp_in_nI (show k < 8 by omega) (by omega)) dL_inserted_116 ?_
              rw [nI_clamp (show k < 2 ^ 31 by omega)]
              refine zx_val (y := nI ((wl fw (nI tp) nj).getD ((insL lg nn).getD k 0) 0)) (hRi _ (by omega)) ?_
              exact J117 ((wl fw (nI tp) nj).getD ((insL lg nn).getD k 0) 0) ls ⟨lv_sub hl [0, 1, 2, 3, 4, 5, 6, 7, 8, 9, 10, 11, 12, 13, 14, 15, 16] rfl, by rw [insIdx_get _ _ _ _ (by rw [insL_len]; omega) (by rw [insL_len]; omega)]; rw [if_neg (by omega), if_pos (by omega)]⟩
          · refine lv_aload hx hb dL_inserted_90 (lv_at hl 7 rfl) ?_
            refine lv_iload hx hb dL_inserted_92 (lv_at hl 13 rfl) ?_
            refine va_iald hx hb hZ.1 hP 3 0 rfl rfl (vp_in_nI (show nn < 8 by omega) (by omega)) dL_inserted_94 ?_
            rw [nI_clamp (show nn < 2 ^ 31 by omega)]
            refine zx_val (y := nI ((wl fw (nI tp) nj).getD nn 0)) (colF_in (by rw [hmn]; exact hnm)) ?_
            refine lv_goto (tgt := 117) hx hb dL_inserted_95 (by decide) ?_
            exact J117 ((wl fw (nI tp) nj).getD nn 0) ls ⟨lv_sub hl [0, 1, 2, 3, 4, 5, 6, 7, 8, 9, 10, 11, 12, 13, 14, 15, 16] rfl, by rw [insIdx_get _ _ _ _ (by rw [insL_len]; omega) (by rw [insL_len]; omega)]; rw [if_pos (by omega)]⟩
