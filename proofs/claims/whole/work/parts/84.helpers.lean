set_option maxHeartbeats 4000000 in
set_option maxRecDepth 100000 in
theorem c_L_clean (l : Launch) (D : va_G) (cA : Nat → ClassId) (sz : Nat) (ws : va_W) (o : Nat) (z : Nat → Int64) (a0 : Nat) (fs : List Value) (hq : ws[22]? = some (a0, .inr (4, fs))) {S SX : Type} (post : Int32 → S → Prop) (w1 : S → va_W) (px : String → SX → Prop) (wx : SX → va_W) (K : Nat) (v0 : Int32) (hC : ∀ sz, vx_Met l yX4_clean wsX4_clean ({ frames := 7, cells := 2, slots := 12, locals := 118 }) (va_Pc [.ref a0, .int v0] (zMX D cA ws sz)) (va_Qi post (fun u => zB D (va_A ws sz) (w1 u)) (va_A ws sz)) (zXC px wx D (va_A ws sz)) 2 12 (va_A ws sz)) (hpx : ∀ E u, px E u → zexIS K E) : Met l yL_clean wsL_clean ({ frames := 8, cells := 2, slots := 12, locals := 141 }) (va_Pc [.ref a0, .int v0, .ref o] (zMW D cA ((o, zOut cA z) :: ws) sz)) (va_Qi (zwP post px K) (fun u => zB D (va_A ((o, zOut cA z) :: ws) sz) (zwW cA o z w1 wx u)) (va_A ((o, zOut cA z) :: ws) sz)) 2 12 (va_A ((o, zOut cA z) :: ws) sz) := by
  refine zOpenH (cc := cL_clean) (maxL := 4) (ret := (some .int)) (own := RL) (by decide) rfl rfl (Nat.le_of_ble_eq_true rfl) ?_
  intro p e s m below meth c ls hx hb hr hml hts hown hlocks htab ⟨⟨⟨hZ, hP, hD0, hsz⟩, hX⟩, hN⟩ hl
  subst hsz
  have hD := hD0.self (sz := s.heap.size)
  generalize hAe : va_A ((o, zOut cA z) :: ws) s.heap.size = A at hD hX ⊢
  have hA : ∀ q : Nat, s.heap.size ≤ q → A q := fun q h => by rw [← hAe]; exact Or.inr h
  have hS : va_S A s.heap s.heap [] := va_S.rf
  have hl : lv_has ls 4 [(0, .ref a0), (1, .int (v0)), (2, .ref o)] := hl
  refine lv_aload_n hx hb dL_clean_0 rfl (lv_at hl 2 rfl) ?_
  refine lv_iconst (v := nI (0)) hx hb dL_clean_1 (by decide) ?_
  refine lv_aload_n hx hb dL_clean_2 rfl (lv_at hl 0 rfl) ?_
  refine lv_iload_n hx hb dL_clean_3 rfl (lv_at hl 1 rfl) ?_
  refine zq_T_i (n := 1) (mc := 2) (ms := 12) (As := [.int v0]) (rest := [.int (nI (0)), .ref o]) hx hb hml hts hown hZ hX hP hD hS hA (hC _) gL_clean_X4_clean rfl rfl ⟨rfl, rfl⟩ ⟨by decide +kernel, (Nat.le_of_ble_eq_true rfl), (Nat.le_of_ble_eq_true rfl)⟩ hq rfl hl.1 rfl (Nat.le_of_ble_eq_true rfl) ⟨(Nat.le_of_ble_eq_true rfl), (Nat.le_of_ble_eq_true rfl)⟩ rfl dL_clean_4 (fun E9 ce9 q9 u9 H locs hpx9 hP hD hS hz hq1 hq2 hq3 => ?_) (fun r9 u9 H locs hp9 hP hD hS hz => ?_)
  · rcases hpx E9 u9 hpx9 with ⟨hK, rfl⟩ | ⟨hK, rfl⟩
    · refine vx_catch (own := RL) (name := eI) hown [] ⟨0, 9, 12, 20⟩ [⟨0, 9, 15, 15⟩] (by rw [htab]; rfl) (fun _ h => absurd h List.not_mem_nil) rfl (by decide) (hts (.classLink RL 20 eI) (by decide +kernel)) (va_Nw.use rfl (hZ.2 _ (zcast _ (Or.inl rfl)))) hq1 hq2 hq3 ?_
      refine lv_astore_n (lv' := [(3, .ref q9), (0, .ref a0), (1, .int (v0)), (2, .ref o)]) hx hb dL_clean_12 rfl hl (by decide) rfl (fun ls hl => ?_)
      refine lv_iconst (v := nI (1)) hx hb dL_clean_13 (by decide) ?_
      exact zr_qi (S := Sum ((Int32 × (Nat → Int64)) × S) SX) (post := zwP post px K) (w1 := zwW cA o z w1 wx) (Sum.inr u9) hx hb hr hlocks ⟨by rw [hK], by omega, _, hpx9⟩ hP hD hS rfl dL_clean_14
    · refine vx_catch (own := RL) (name := eS) hown [⟨0, 9, 12, 20⟩] ⟨0, 9, 15, 15⟩ [] (by rw [htab]; rfl) (fun x9 h => by rw [List.mem_singleton.mp h]; exact Or.inr ⟨by decide, _, hts (.classLink RL 20 eI) (by decide +kernel), hN.2.1⟩) rfl (by decide) (hts (.classLink RL 15 eS) (by decide +kernel)) (va_Nw.use rfl (hZ.2 _ (zcast _ (Or.inr (Or.inl rfl))))) hq1 hq2 hq3 ?_
      refine lv_astore_n (lv' := [(3, .ref q9), (0, .ref a0), (1, .int (v0)), (2, .ref o)]) hx hb dL_clean_15 rfl hl (by decide) rfl (fun ls hl => ?_)
      refine lv_iconst (v := nI (2)) hx hb dL_clean_16 (by decide) ?_
      exact zr_qi (S := Sum ((Int32 × (Nat → Int64)) × S) SX) (post := zwP post px K) (w1 := zwW cA o z w1 wx) (Sum.inr u9) hx hb hr hlocks ⟨by rw [hK], by omega, _, hpx9⟩ hP hD hS rfl dL_clean_17
  refine lv_i2l (v := (r9).toInt64) hx hb dL_clean_7 rfl ?_
  refine va_last hx hb hZ.1 hP hD hS 0 4 rfl rfl (vp_in_nI (show 0 < 1 by omega) (by omega)) dL_clean_8 (fun H locs hP hD hS => ?_)
  rw [nI_clamp (show 0 < 2 ^ 31 by omega)] at hP hD
  refine lv_goto (tgt := 18) hx hb dL_clean_9 (by decide) ?_
  refine lv_iconst (v := nI (0)) hx hb dL_clean_18 (by decide) ?_
  exact zr_qi (S := Sum ((Int32 × (Nat → Int64)) × S) SX) (post := zwP post px K) (w1 := zwW cA o z w1 wx) (Sum.inl ((r9, vp_updL z 0 r9.toInt64), u9)) hx hb hr hlocks ⟨rfl, if_pos rfl, hp9⟩ hP hD hS rfl dL_clean_19

set_option maxHeartbeats 4000000 in
set_option maxRecDepth 100000 in
theorem c_L_clock (l : Launch) (D : va_G) (cA : Nat → ClassId) (sz : Nat) (ws : va_W) (o : Nat) (z : Nat → Int64) (a0 : Nat) (fs : List Value) (hq : ws[22]? = some (a0, .inr (4, fs))) {S SX : Type} (post : Int32 → S → Prop) (w1 : S → va_W) (px : String → SX → Prop) (wx : SX → va_W) (K : Nat) (v0 : Int32) (hC : ∀ sz, vx_Met l yX4_clock wsX4_clock ({ frames := 7, cells := 1, slots := 6, locals := 118 }) (va_Pc [.ref a0, .int v0] (zMX D cA ws sz)) (va_Qi post (fun u => zB D (va_A ws sz) (w1 u)) (va_A ws sz)) (zXC px wx D (va_A ws sz)) 1 6 (va_A ws sz)) (hpx : ∀ E u, px E u → zex1 K E) : Met l yL_clock wsL_clock ({ frames := 8, cells := 1, slots := 6, locals := 139 }) (va_Pc [.ref a0, .int v0, .ref o] (zMW D cA ((o, zOut cA z) :: ws) sz)) (va_Qi (zwP post px K) (fun u => zB D (va_A ((o, zOut cA z) :: ws) sz) (zwW cA o z w1 wx u)) (va_A ((o, zOut cA z) :: ws) sz)) 1 6 (va_A ((o, zOut cA z) :: ws) sz) := by
  refine zOpenH (cc := cL_clock) (maxL := 4) (ret := (some .int)) (own := RL) (by decide) rfl rfl (Nat.le_of_ble_eq_true rfl) ?_
  intro p e s m below meth c ls hx hb hr hml hts hown hlocks htab ⟨⟨⟨hZ, hP, hD0, hsz⟩, hX⟩, hN⟩ hl
  subst hsz
  have hD := hD0.self (sz := s.heap.size)
  generalize hAe : va_A ((o, zOut cA z) :: ws) s.heap.size = A at hD hX ⊢
  have hA : ∀ q : Nat, s.heap.size ≤ q → A q := fun q h => by rw [← hAe]; exact Or.inr h
  have hS : va_S A s.heap s.heap [] := va_S.rf
  have hl : lv_has ls 4 [(0, .ref a0), (1, .int (v0)), (2, .ref o)] := hl
  refine lv_aload_n hx hb dL_clock_0 rfl (lv_at hl 2 rfl) ?_
  refine lv_iconst (v := nI (0)) hx hb dL_clock_1 (by decide) ?_
  refine lv_aload_n hx hb dL_clock_2 rfl (lv_at hl 0 rfl) ?_
  refine lv_iload_n hx hb dL_clock_3 rfl (lv_at hl 1 rfl) ?_
  refine zq_T_i (n := 1) (mc := 1) (ms := 6) (As := [.int v0]) (rest := [.int (nI (0)), .ref o]) hx hb hml hts hown hZ hX hP hD hS hA (hC _) gL_clock_X4_clock rfl rfl ⟨rfl, rfl⟩ ⟨by decide +kernel, (Nat.le_of_ble_eq_true rfl), (Nat.le_of_ble_eq_true rfl)⟩ hq rfl hl.1 rfl (Nat.le_of_ble_eq_true rfl) ⟨(Nat.le_of_ble_eq_true rfl), (Nat.le_of_ble_eq_true rfl)⟩ rfl dL_clock_4 (fun E9 ce9 q9 u9 H locs hpx9 hP hD hS hz hq1 hq2 hq3 => ?_) (fun r9 u9 H locs hp9 hP hD hS hz => ?_)
  · obtain ⟨hK, rfl⟩ := hpx E9 u9 hpx9
    refine vx_catch (own := RL) (name := eI) hown [] ⟨0, 9, 12, 20⟩ [] (by rw [htab]; rfl) (fun _ h => absurd h List.not_mem_nil) rfl (by decide) (hts (.classLink RL 20 eI) (by decide +kernel)) (va_Nw.use rfl (hZ.2 _ (zcast _ (Or.inl rfl)))) hq1 hq2 hq3 ?_
    refine lv_astore_n (lv' := [(3, .ref q9), (0, .ref a0), (1, .int (v0)), (2, .ref o)]) hx hb dL_clock_12 rfl hl (by decide) rfl (fun ls hl => ?_)
    refine lv_iconst (v := nI (1)) hx hb dL_clock_13 (by decide) ?_
    exact zr_qi (S := Sum ((Int32 × (Nat → Int64)) × S) SX) (post := zwP post px K) (w1 := zwW cA o z w1 wx) (Sum.inr u9) hx hb hr hlocks ⟨by rw [hK], by omega, _, hpx9⟩ hP hD hS rfl dL_clock_14
  refine lv_i2l (v := (r9).toInt64) hx hb dL_clock_7 rfl ?_
  refine va_last hx hb hZ.1 hP hD hS 0 4 rfl rfl (vp_in_nI (show 0 < 1 by omega) (by omega)) dL_clock_8 (fun H locs hP hD hS => ?_)
  rw [nI_clamp (show 0 < 2 ^ 31 by omega)] at hP hD
  refine lv_goto (tgt := 15) hx hb dL_clock_9 (by decide) ?_
  refine lv_iconst (v := nI (0)) hx hb dL_clock_15 (by decide) ?_
  exact zr_qi (S := Sum ((Int32 × (Nat → Int64)) × S) SX) (post := zwP post px K) (w1 := zwW cA o z w1 wx) (Sum.inl ((r9, vp_updL z 0 r9.toInt64), u9)) hx hb hr hlocks ⟨rfl, if_pos rfl, hp9⟩ hP hD hS rfl dL_clock_16

set_option maxHeartbeats 4000000 in
set_option maxRecDepth 100000 in
theorem c_L_stands (l : Launch) (D : va_G) (cA : Nat → ClassId) (sz : Nat) (ws : va_W) (o : Nat) (z : Nat → Int64) (a0 : Nat) (fs : List Value) (hq : ws[22]? = some (a0, .inr (4, fs))) {S SX : Type} (post : Int32 → S → Prop) (w1 : S → va_W) (px : String → SX → Prop) (wx : SX → va_W) (K : Nat) (v0 : Int32) (hC : ∀ sz, vx_Met l yX4_stands wsX4_stands ({ frames := 7, cells := 1, slots := 6, locals := 118 }) (va_Pc [.ref a0, .int v0] (zMX D cA ws sz)) (va_Qi post (fun u => zB D (va_A ws sz) (w1 u)) (va_A ws sz)) (zXC px wx D (va_A ws sz)) 1 6 (va_A ws sz)) (hpx : ∀ E u, px E u → zex1 K E) : Met l yL_stands wsL_stands ({ frames := 8, cells := 1, slots := 6, locals := 139 }) (va_Pc [.ref a0, .int v0, .ref o] (zMW D cA ((o, zOut cA z) :: ws) sz)) (va_Qi (zwP post px K) (fun u => zB D (va_A ((o, zOut cA z) :: ws) sz) (zwW cA o z w1 wx u)) (va_A ((o, zOut cA z) :: ws) sz)) 1 6 (va_A ((o, zOut cA z) :: ws) sz) := by
  refine zOpenH (cc := cL_stands) (maxL := 4) (ret := (some .int)) (own := RL) (by decide) rfl rfl (Nat.le_of_ble_eq_true rfl) ?_
  intro p e s m below meth c ls hx hb hr hml hts hown hlocks htab ⟨⟨⟨hZ, hP, hD0, hsz⟩, hX⟩, hN⟩ hl
  subst hsz
  have hD := hD0.self (sz := s.heap.size)
  generalize hAe : va_A ((o, zOut cA z) :: ws) s.heap.size = A at hD hX ⊢
  have hA : ∀ q : Nat, s.heap.size ≤ q → A q := fun q h => by rw [← hAe]; exact Or.inr h
  have hS : va_S A s.heap s.heap [] := va_S.rf
  have hl : lv_has ls 4 [(0, .ref a0), (1, .int (v0)), (2, .ref o)] := hl
  refine lv_aload_n hx hb dL_stands_0 rfl (lv_at hl 2 rfl) ?_
  refine lv_iconst (v := nI (0)) hx hb dL_stands_1 (by decide) ?_
  refine lv_aload_n hx hb dL_stands_2 rfl (lv_at hl 0 rfl) ?_
  refine lv_iload_n hx hb dL_stands_3 rfl (lv_at hl 1 rfl) ?_
  refine zq_T_i (n := 1) (mc := 1) (ms := 6) (As := [.int v0]) (rest := [.int (nI (0)), .ref o]) hx hb hml hts hown hZ hX hP hD hS hA (hC _) gL_stands_X4_stands rfl rfl ⟨rfl, rfl⟩ ⟨by decide +kernel, (Nat.le_of_ble_eq_true rfl), (Nat.le_of_ble_eq_true rfl)⟩ hq rfl hl.1 rfl (Nat.le_of_ble_eq_true rfl) ⟨(Nat.le_of_ble_eq_true rfl), (Nat.le_of_ble_eq_true rfl)⟩ rfl dL_stands_4 (fun E9 ce9 q9 u9 H locs hpx9 hP hD hS hz hq1 hq2 hq3 => ?_) (fun r9 u9 H locs hp9 hP hD hS hz => ?_)
  · obtain ⟨hK, rfl⟩ := hpx E9 u9 hpx9
    refine vx_catch (own := RL) (name := eI) hown [] ⟨0, 9, 12, 20⟩ [] (by rw [htab]; rfl) (fun _ h => absurd h List.not_mem_nil) rfl (by decide) (hts (.classLink RL 20 eI) (by decide +kernel)) (va_Nw.use rfl (hZ.2 _ (zcast _ (Or.inl rfl)))) hq1 hq2 hq3 ?_
    refine lv_astore_n (lv' := [(3, .ref q9), (0, .ref a0), (1, .int (v0)), (2, .ref o)]) hx hb dL_stands_12 rfl hl (by decide) rfl (fun ls hl => ?_)
    refine lv_iconst (v := nI (1)) hx hb dL_stands_13 (by decide) ?_
    exact zr_qi (S := Sum ((Int32 × (Nat → Int64)) × S) SX) (post := zwP post px K) (w1 := zwW cA o z w1 wx) (Sum.inr u9) hx hb hr hlocks ⟨by rw [hK], by omega, _, hpx9⟩ hP hD hS rfl dL_stands_14
  refine lv_i2l (v := (r9).toInt64) hx hb dL_stands_7 rfl ?_
  refine va_last hx hb hZ.1 hP hD hS 0 4 rfl rfl (vp_in_nI (show 0 < 1 by omega) (by omega)) dL_stands_8 (fun H locs hP hD hS => ?_)
  rw [nI_clamp (show 0 < 2 ^ 31 by omega)] at hP hD
  refine lv_goto (tgt := 15) hx hb dL_stands_9 (by decide) ?_
  refine lv_iconst (v := nI (0)) hx hb dL_stands_15 (by decide) ?_
  exact zr_qi (S := Sum ((Int32 × (Nat → Int64)) × S) SX) (post := zwP post px K) (w1 := zwW cA o z w1 wx) (Sum.inl ((r9, vp_updL z 0 r9.toInt64), u9)) hx hb hr hlocks ⟨rfl, if_pos rfl, hp9⟩ hP hD hS rfl dL_stands_16

set_option maxHeartbeats 4000000 in
set_option maxRecDepth 100000 in
theorem c_L_job (l : Launch) (D : va_G) (cA : Nat → ClassId) (sz : Nat) (ws : va_W) (o : Nat) (z : Nat → Int64) (a0 : Nat) (fs : List Value) (hq : ws[22]? = some (a0, .inr (4, fs))) {S SX : Type} (post : Int32 → S → Prop) (w1 : S → va_W) (px : String → SX → Prop) (wx : SX → va_W) (K : Nat) (v0 v1 v2 : Int32) (hC : ∀ sz, vx_Met l yX4_job wsX4_job ({ frames := 7, cells := 3, slots := 18, locals := 118 }) (va_Pc [.ref a0, .int v0, .int v1, .int v2] (zMX D cA ws sz)) (va_Qi post (fun u => zB D (va_A ws sz) (w1 u)) (va_A ws sz)) (zXC px wx D (va_A ws sz)) 3 18 (va_A ws sz)) (hpx : ∀ E u, px E u → zexIAS K E) : Met l yL_job wsL_job ({ frames := 8, cells := 3, slots := 18, locals := 142 }) (va_Pc [.ref a0, .int v0, .int v1, .int v2, .ref o] (zMW D cA ((o, zOut cA z) :: ws) sz)) (va_Qi (zwP post px K) (fun u => zB D (va_A ((o, zOut cA z) :: ws) sz) (zwW cA o z w1 wx u)) (va_A ((o, zOut cA z) :: ws) sz)) 3 18 (va_A ((o, zOut cA z) :: ws) sz) := by
  refine zOpenH (cc := cL_job) (maxL := 6) (ret := (some .int)) (own := RL) (by decide) rfl rfl (Nat.le_of_ble_eq_true rfl) ?_
  intro p e s m below meth c ls hx hb hr hml hts hown hlocks htab ⟨⟨⟨hZ, hP, hD0, hsz⟩, hX⟩, hN⟩ hl
  subst hsz
  have hD := hD0.self (sz := s.heap.size)
  generalize hAe : va_A ((o, zOut cA z) :: ws) s.heap.size = A at hD hX ⊢
  have hA : ∀ q : Nat, s.heap.size ≤ q → A q := fun q h => by rw [← hAe]; exact Or.inr h
  have hS : va_S A s.heap s.heap [] := va_S.rf
  have hl : lv_has ls 6 [(0, .ref a0), (1, .int (v0)), (2, .int (v1)), (3, .int (v2)), (4, .ref o)] := hl
  refine lv_aload hx hb dL_job_0 (lv_at hl 4 rfl) ?_
  refine lv_iconst (v := nI (0)) hx hb dL_job_2 (by decide) ?_
  refine lv_aload_n hx hb dL_job_3 rfl (lv_at hl 0 rfl) ?_
  refine lv_iload_n hx hb dL_job_4 rfl (lv_at hl 1 rfl) ?_
  refine lv_iload_n hx hb dL_job_5 rfl (lv_at hl 2 rfl) ?_
  refine lv_iload_n hx hb dL_job_6 rfl (lv_at hl 3 rfl) ?_
  refine zq_T_i (n := 3) (mc := 3) (ms := 18) (As := [.int v0, .int v1, .int v2]) (rest := [.int (nI (0)), .ref o]) hx hb hml hts hown hZ hX hP hD hS hA (hC _) gL_job_X4_job rfl rfl ⟨rfl, rfl⟩ ⟨by decide +kernel, (Nat.le_of_ble_eq_true rfl), (Nat.le_of_ble_eq_true rfl)⟩ hq rfl hl.1 rfl (Nat.le_of_ble_eq_true rfl) ⟨(Nat.le_of_ble_eq_true rfl), (Nat.le_of_ble_eq_true rfl)⟩ rfl dL_job_7 (fun E9 ce9 q9 u9 H locs hpx9 hP hD hS hz hq1 hq2 hq3 => ?_) (fun r9 u9 H locs hp9 hP hD hS hz => ?_)
  · rcases hpx E9 u9 hpx9 with ⟨hK, rfl⟩ | ⟨hK, rfl⟩ | ⟨hK, rfl⟩
    · refine vx_catch (own := RL) (name := eI) hown [] ⟨0, 12, 15, 20⟩ [⟨0, 12, 19, 13⟩, ⟨0, 12, 23, 15⟩] (by rw [htab]; rfl) (fun _ h => absurd h List.not_mem_nil) rfl (by decide) (hts (.classLink RL 20 eI) (by decide +kernel)) (va_Nw.use rfl (hZ.2 _ (zcast _ (Or.inl rfl)))) hq1 hq2 hq3 ?_
      refine lv_astore (lv' := [(5, .ref q9), (0, .ref a0), (1, .int (v0)), (2, .int (v1)), (3, .int (v2)), (4, .ref o)]) hx hb dL_job_15 hl (by decide) rfl (fun ls hl => ?_)
      refine lv_iconst (v := nI (1)) hx hb dL_job_17 (by decide) ?_
      exact zr_qi (S := Sum ((Int32 × (Nat → Int64)) × S) SX) (post := zwP post px K) (w1 := zwW cA o z w1 wx) (Sum.inr u9) hx hb hr hlocks ⟨by rw [hK], by omega, _, hpx9⟩ hP hD hS rfl dL_job_18
    · refine vx_catch (own := RL) (name := eA) hown [⟨0, 12, 15, 20⟩] ⟨0, 12, 19, 13⟩ [⟨0, 12, 23, 15⟩] (by rw [htab]; rfl) (fun x9 h => by rw [List.mem_singleton.mp h]; exact Or.inr ⟨by decide, _, hts (.classLink RL 20 eI) (by decide +kernel), hN.2.2⟩) rfl (by decide) (hts (.classLink RL 13 eA) (by decide +kernel)) (va_Nw.use rfl (hZ.2 _ (zcast _ (Or.inr (Or.inr rfl))))) hq1 hq2 hq3 ?_
      refine lv_astore (lv' := [(5, .ref q9), (0, .ref a0), (1, .int (v0)), (2, .int (v1)), (3, .int (v2)), (4, .ref o)]) hx hb dL_job_19 hl (by decide) rfl (fun ls hl => ?_)
      refine lv_iconst (v := nI (2)) hx hb dL_job_21 (by decide) ?_
      exact zr_qi (S := Sum ((Int32 × (Nat → Int64)) × S) SX) (post := zwP post px K) (w1 := zwW cA o z w1 wx) (Sum.inr u9) hx hb hr hlocks ⟨by rw [hK], by omega, _, hpx9⟩ hP hD hS rfl dL_job_22
    · refine vx_catch (own := RL) (name := eS) hown [⟨0, 12, 15, 20⟩, ⟨0, 12, 19, 13⟩] ⟨0, 12, 23, 15⟩ [] (by rw [htab]; rfl) (fun x9 h => (List.mem_cons.mp h).elim (fun h => by rw [h]; exact Or.inr ⟨by decide, _, hts (.classLink RL 20 eI) (by decide +kernel), hN.2.1⟩) (fun h => by rw [List.mem_singleton.mp h]; exact Or.inr ⟨by decide, _, hts (.classLink RL 13 eA) (by decide +kernel), hN.1⟩)) rfl (by decide) (hts (.classLink RL 15 eS) (by decide +kernel)) (va_Nw.use rfl (hZ.2 _ (zcast _ (Or.inr (Or.inl rfl))))) hq1 hq2 hq3 ?_
      refine lv_astore (lv' := [(5, .ref q9), (0, .ref a0), (1, .int (v0)), (2, .int (v1)), (3, .int (v2)), (4, .ref o)]) hx hb dL_job_23 hl (by decide) rfl (fun ls hl => ?_)
      refine lv_iconst (v := nI (3)) hx hb dL_job_25 (by decide) ?_
      exact zr_qi (S := Sum ((Int32 × (Nat → Int64)) × S) SX) (post := zwP post px K) (w1 := zwW cA o z w1 wx) (Sum.inr u9) hx hb hr hlocks ⟨by rw [hK], by omega, _, hpx9⟩ hP hD hS rfl dL_job_26
  refine lv_i2l (v := (r9).toInt64) hx hb dL_job_10 rfl ?_
  refine va_last hx hb hZ.1 hP hD hS 0 4 rfl rfl (vp_in_nI (show 0 < 1 by omega) (by omega)) dL_job_11 (fun H locs hP hD hS => ?_)
  rw [nI_clamp (show 0 < 2 ^ 31 by omega)] at hP hD
  refine lv_goto (tgt := 27) hx hb dL_job_12 (by decide) ?_
  refine lv_iconst (v := nI (0)) hx hb dL_job_27 (by decide) ?_
  exact zr_qi (S := Sum ((Int32 × (Nat → Int64)) × S) SX) (post := zwP post px K) (w1 := zwW cA o z w1 wx) (Sum.inl ((r9, vp_updL z 0 r9.toInt64), u9)) hx hb hr hlocks ⟨rfl, if_pos rfl, hp9⟩ hP hD hS rfl dL_job_28

set_option maxHeartbeats 4000000 in
set_option maxRecDepth 100000 in
theorem c_L_waiting (l : Launch) (D : va_G) (cA : Nat → ClassId) (sz : Nat) (ws : va_W) (o : Nat) (z : Nat → Int64) (a0 : Nat) (fs : List Value) (hq : ws[22]? = some (a0, .inr (4, fs))) {S SX : Type} (post : Int32 → S → Prop) (w1 : S → va_W) (px : String → SX → Prop) (wx : SX → va_W) (K : Nat) (v0 : Int32) (hC : ∀ sz, vx_Met l yX4_waiting wsX4_waiting ({ frames := 7, cells := 1, slots := 6, locals := 118 }) (va_Pc [.ref a0, .int v0] (zMX D cA ws sz)) (va_Qi post (fun u => zB D (va_A ws sz) (w1 u)) (va_A ws sz)) (zXC px wx D (va_A ws sz)) 1 6 (va_A ws sz)) (hpx : ∀ E u, px E u → zex1 K E) : Met l yL_waiting wsL_waiting ({ frames := 8, cells := 1, slots := 6, locals := 139 }) (va_Pc [.ref a0, .int v0, .ref o] (zMW D cA ((o, zOut cA z) :: ws) sz)) (va_Qi (zwP post px K) (fun u => zB D (va_A ((o, zOut cA z) :: ws) sz) (zwW cA o z w1 wx u)) (va_A ((o, zOut cA z) :: ws) sz)) 1 6 (va_A ((o, zOut cA z) :: ws) sz) := by
  refine zOpenH (cc := cL_waiting) (maxL := 4) (ret := (some .int)) (own := RL) (by decide) rfl rfl (Nat.le_of_ble_eq_true rfl) ?_
  intro p e s m below meth c ls hx hb hr hml hts hown hlocks htab ⟨⟨⟨hZ, hP, hD0, hsz⟩, hX⟩, hN⟩ hl
  subst hsz
  have hD := hD0.self (sz := s.heap.size)
  generalize hAe : va_A ((o, zOut cA z) :: ws) s.heap.size = A at hD hX ⊢
  have hA : ∀ q : Nat, s.heap.size ≤ q → A q := fun q h => by rw [← hAe]; exact Or.inr h
  have hS : va_S A s.heap s.heap [] := va_S.rf
  have hl : lv_has ls 4 [(0, .ref a0), (1, .int (v0)), (2, .ref o)] := hl
  refine lv_aload_n hx hb dL_waiting_0 rfl (lv_at hl 2 rfl) ?_
  refine lv_iconst (v := nI (0)) hx hb dL_waiting_1 (by decide) ?_
  refine lv_aload_n hx hb dL_waiting_2 rfl (lv_at hl 0 rfl) ?_
  refine lv_iload_n hx hb dL_waiting_3 rfl (lv_at hl 1 rfl) ?_
  refine zq_T_i (n := 1) (mc := 1) (ms := 6) (As := [.int v0]) (rest := [.int (nI (0)), .ref o]) hx hb hml hts hown hZ hX hP hD hS hA (hC _) gL_waiting_X4_waiting rfl rfl ⟨rfl, rfl⟩ ⟨by decide +kernel, (Nat.le_of_ble_eq_true rfl), (Nat.le_of_ble_eq_true rfl)⟩ hq rfl hl.1 rfl (Nat.le_of_ble_eq_true rfl) ⟨(Nat.le_of_ble_eq_true rfl), (Nat.le_of_ble_eq_true rfl)⟩ rfl dL_waiting_4 (fun E9 ce9 q9 u9 H locs hpx9 hP hD hS hz hq1 hq2 hq3 => ?_) (fun r9 u9 H locs hp9 hP hD hS hz => ?_)
  · obtain ⟨hK, rfl⟩ := hpx E9 u9 hpx9
    refine vx_catch (own := RL) (name := eI) hown [] ⟨0, 9, 12, 20⟩ [] (by rw [htab]; rfl) (fun _ h => absurd h List.not_mem_nil) rfl (by decide) (hts (.classLink RL 20 eI) (by decide +kernel)) (va_Nw.use rfl (hZ.2 _ (zcast _ (Or.inl rfl)))) hq1 hq2 hq3 ?_
    refine lv_astore_n (lv' := [(3, .ref q9), (0, .ref a0), (1, .int (v0)), (2, .ref o)]) hx hb dL_waiting_12 rfl hl (by decide) rfl (fun ls hl => ?_)
    refine lv_iconst (v := nI (1)) hx hb dL_waiting_13 (by decide) ?_
    exact zr_qi (S := Sum ((Int32 × (Nat → Int64)) × S) SX) (post := zwP post px K) (w1 := zwW cA o z w1 wx) (Sum.inr u9) hx hb hr hlocks ⟨by rw [hK], by omega, _, hpx9⟩ hP hD hS rfl dL_waiting_14
  refine lv_i2l (v := (r9).toInt64) hx hb dL_waiting_7 rfl ?_
  refine va_last hx hb hZ.1 hP hD hS 0 4 rfl rfl (vp_in_nI (show 0 < 1 by omega) (by omega)) dL_waiting_8 (fun H locs hP hD hS => ?_)
  rw [nI_clamp (show 0 < 2 ^ 31 by omega)] at hP hD
  refine lv_goto (tgt := 15) hx hb dL_waiting_9 (by decide) ?_
  refine lv_iconst (v := nI (0)) hx hb dL_waiting_15 (by decide) ?_
  exact zr_qi (S := Sum ((Int32 × (Nat → Int64)) × S) SX) (post := zwP post px K) (w1 := zwW cA o z w1 wx) (Sum.inl ((r9, vp_updL z 0 r9.toInt64), u9)) hx hb hr hlocks ⟨rfl, if_pos rfl, hp9⟩ hP hD hS rfl dL_waiting_16

set_option maxHeartbeats 4000000 in
set_option maxRecDepth 100000 in
theorem c_L_bestTime (l : Launch) (D : va_G) (cA : Nat → ClassId) (sz : Nat) (ws : va_W) (o : Nat) (z : Nat → Int64) (a0 : Nat) (fs : List Value) (hq : ws[22]? = some (a0, .inr (4, fs))) {S SX : Type} (post : Int32 → S → Prop) (w1 : S → va_W) (px : String → SX → Prop) (wx : SX → va_W) (K : Nat) (v0 : Int32) (hC : ∀ sz, vx_Met l yX4_bestTime wsX4_bestTime ({ frames := 8, cells := 2, slots := 12, locals := 142 }) (va_Pc [.ref a0, .int v0] (zMX D cA ws sz)) (va_Qi post (fun u => zB D (va_A ws sz) (w1 u)) (va_A ws sz)) (zXC px wx D (va_A ws sz)) 2 12 (va_A ws sz)) (hpx : ∀ E u, px E u → zexIS K E) : Met l yL_bestTime wsL_bestTime ({ frames := 9, cells := 2, slots := 12, locals := 163 }) (va_Pc [.ref a0, .int v0, .ref o] (zMW D cA ((o, zOut cA z) :: ws) sz)) (va_Qi (zwP post px K) (fun u => zB D (va_A ((o, zOut cA z) :: ws) sz) (zwW cA o z w1 wx u)) (va_A ((o, zOut cA z) :: ws) sz)) 2 12 (va_A ((o, zOut cA z) :: ws) sz) := by
  refine zOpenH (cc := cL_bestTime) (maxL := 4) (ret := (some .int)) (own := RL) (by decide) rfl rfl (Nat.le_of_ble_eq_true rfl) ?_
  intro p e s m below meth c ls hx hb hr hml hts hown hlocks htab ⟨⟨⟨hZ, hP, hD0, hsz⟩, hX⟩, hN⟩ hl
  subst hsz
  have hD := hD0.self (sz := s.heap.size)
  generalize hAe : va_A ((o, zOut cA z) :: ws) s.heap.size = A at hD hX ⊢
  have hA : ∀ q : Nat, s.heap.size ≤ q → A q := fun q h => by rw [← hAe]; exact Or.inr h
  have hS : va_S A s.heap s.heap [] := va_S.rf
  have hl : lv_has ls 4 [(0, .ref a0), (1, .int (v0)), (2, .ref o)] := hl
  refine lv_aload_n hx hb dL_bestTime_0 rfl (lv_at hl 2 rfl) ?_
  refine lv_iconst (v := nI (0)) hx hb dL_bestTime_1 (by decide) ?_
  refine lv_aload_n hx hb dL_bestTime_2 rfl (lv_at hl 0 rfl) ?_
  refine lv_iload_n hx hb dL_bestTime_3 rfl (lv_at hl 1 rfl) ?_
  refine zq_T_i (n := 1) (mc := 2) (ms := 12) (As := [.int v0]) (rest := [.int (nI (0)), .ref o]) hx hb hml hts hown hZ hX hP hD hS hA (hC _) gL_bestTime_X4_bestTime rfl rfl ⟨rfl, rfl⟩ ⟨by decide +kernel, (Nat.le_of_ble_eq_true rfl), (Nat.le_of_ble_eq_true rfl)⟩ hq rfl hl.1 rfl (Nat.le_of_ble_eq_true rfl) ⟨(Nat.le_of_ble_eq_true rfl), (Nat.le_of_ble_eq_true rfl)⟩ rfl dL_bestTime_4 (fun E9 ce9 q9 u9 H locs hpx9 hP hD hS hz hq1 hq2 hq3 => ?_) (fun r9 u9 H locs hp9 hP hD hS hz => ?_)
  · rcases hpx E9 u9 hpx9 with ⟨hK, rfl⟩ | ⟨hK, rfl⟩
    · refine vx_catch (own := RL) (name := eI) hown [] ⟨0, 9, 12, 20⟩ [⟨0, 9, 15, 15⟩] (by rw [htab]; rfl) (fun _ h => absurd h List.not_mem_nil) rfl (by decide) (hts (.classLink RL 20 eI) (by decide +kernel)) (va_Nw.use rfl (hZ.2 _ (zcast _ (Or.inl rfl)))) hq1 hq2 hq3 ?_
      refine lv_astore_n (lv' := [(3, .ref q9), (0, .ref a0), (1, .int (v0)), (2, .ref o)]) hx hb dL_bestTime_12 rfl hl (by decide) rfl (fun ls hl => ?_)
      refine lv_iconst (v := nI (1)) hx hb dL_bestTime_13 (by decide) ?_
      exact zr_qi (S := Sum ((Int32 × (Nat → Int64)) × S) SX) (post := zwP post px K) (w1 := zwW cA o z w1 wx) (Sum.inr u9) hx hb hr hlocks ⟨by rw [hK], by omega, _, hpx9⟩ hP hD hS rfl dL_bestTime_14
    · refine vx_catch (own := RL) (name := eS) hown [⟨0, 9, 12, 20⟩] ⟨0, 9, 15, 15⟩ [] (by rw [htab]; rfl) (fun x9 h => by rw [List.mem_singleton.mp h]; exact Or.inr ⟨by decide, _, hts (.classLink RL 20 eI) (by decide +kernel), hN.2.1⟩) rfl (by decide) (hts (.classLink RL 15 eS) (by decide +kernel)) (va_Nw.use rfl (hZ.2 _ (zcast _ (Or.inr (Or.inl rfl))))) hq1 hq2 hq3 ?_
      refine lv_astore_n (lv' := [(3, .ref q9), (0, .ref a0), (1, .int (v0)), (2, .ref o)]) hx hb dL_bestTime_15 rfl hl (by decide) rfl (fun ls hl => ?_)
      refine lv_iconst (v := nI (2)) hx hb dL_bestTime_16 (by decide) ?_
      exact zr_qi (S := Sum ((Int32 × (Nat → Int64)) × S) SX) (post := zwP post px K) (w1 := zwW cA o z w1 wx) (Sum.inr u9) hx hb hr hlocks ⟨by rw [hK], by omega, _, hpx9⟩ hP hD hS rfl dL_bestTime_17
  refine lv_i2l (v := (r9).toInt64) hx hb dL_bestTime_7 rfl ?_
  refine va_last hx hb hZ.1 hP hD hS 0 4 rfl rfl (vp_in_nI (show 0 < 1 by omega) (by omega)) dL_bestTime_8 (fun H locs hP hD hS => ?_)
  rw [nI_clamp (show 0 < 2 ^ 31 by omega)] at hP hD
  refine lv_goto (tgt := 18) hx hb dL_bestTime_9 (by decide) ?_
  refine lv_iconst (v := nI (0)) hx hb dL_bestTime_18 (by decide) ?_
  exact zr_qi (S := Sum ((Int32 × (Nat → Int64)) × S) SX) (post := zwP post px K) (w1 := zwW cA o z w1 wx) (Sum.inl ((r9, vp_updL z 0 r9.toInt64), u9)) hx hb hr hlocks ⟨rfl, if_pos rfl, hp9⟩ hP hD hS rfl dL_bestTime_19

set_option maxHeartbeats 4000000 in
set_option maxRecDepth 100000 in
theorem c_L_bestJob (l : Launch) (D : va_G) (cA : Nat → ClassId) (sz : Nat) (ws : va_W) (o : Nat) (z : Nat → Int64) (a0 : Nat) (fs : List Value) (hq : ws[22]? = some (a0, .inr (4, fs))) {S SX : Type} (post : Int32 → S → Prop) (w1 : S → va_W) (px : String → SX → Prop) (wx : SX → va_W) (K : Nat) (v0 v1 : Int32) (hC : ∀ sz, vx_Met l yX4_bestJob wsX4_bestJob ({ frames := 8, cells := 3, slots := 18, locals := 142 }) (va_Pc [.ref a0, .int v0, .int v1] (zMX D cA ws sz)) (va_Qi post (fun u => zB D (va_A ws sz) (w1 u)) (va_A ws sz)) (zXC px wx D (va_A ws sz)) 3 18 (va_A ws sz)) (hpx : ∀ E u, px E u → zexIS K E) : Met l yL_bestJob wsL_bestJob ({ frames := 9, cells := 3, slots := 18, locals := 164 }) (va_Pc [.ref a0, .int v0, .int v1, .ref o] (zMW D cA ((o, zOut cA z) :: ws) sz)) (va_Qi (zwP post px K) (fun u => zB D (va_A ((o, zOut cA z) :: ws) sz) (zwW cA o z w1 wx u)) (va_A ((o, zOut cA z) :: ws) sz)) 3 18 (va_A ((o, zOut cA z) :: ws) sz) := by
  refine zOpenH (cc := cL_bestJob) (maxL := 5) (ret := (some .int)) (own := RL) (by decide) rfl rfl (Nat.le_of_ble_eq_true rfl) ?_
  intro p e s m below meth c ls hx hb hr hml hts hown hlocks htab ⟨⟨⟨hZ, hP, hD0, hsz⟩, hX⟩, hN⟩ hl
  subst hsz
  have hD := hD0.self (sz := s.heap.size)
  generalize hAe : va_A ((o, zOut cA z) :: ws) s.heap.size = A at hD hX ⊢
  have hA : ∀ q : Nat, s.heap.size ≤ q → A q := fun q h => by rw [← hAe]; exact Or.inr h
  have hS : va_S A s.heap s.heap [] := va_S.rf
  have hl : lv_has ls 5 [(0, .ref a0), (1, .int (v0)), (2, .int (v1)), (3, .ref o)] := hl
  refine lv_aload_n hx hb dL_bestJob_0 rfl (lv_at hl 3 rfl) ?_
  refine lv_iconst (v := nI (0)) hx hb dL_bestJob_1 (by decide) ?_
  refine lv_aload_n hx hb dL_bestJob_2 rfl (lv_at hl 0 rfl) ?_
  refine lv_iload_n hx hb dL_bestJob_3 rfl (lv_at hl 1 rfl) ?_
  refine lv_iload_n hx hb dL_bestJob_4 rfl (lv_at hl 2 rfl) ?_
  refine zq_T_i (n := 2) (mc := 3) (ms := 18) (As := [.int v0, .int v1]) (rest := [.int (nI (0)), .ref o]) hx hb hml hts hown hZ hX hP hD hS hA (hC _) gL_bestJob_X4_bestJob rfl rfl ⟨rfl, rfl⟩ ⟨by decide +kernel, (Nat.le_of_ble_eq_true rfl), (Nat.le_of_ble_eq_true rfl)⟩ hq rfl hl.1 rfl (Nat.le_of_ble_eq_true rfl) ⟨(Nat.le_of_ble_eq_true rfl), (Nat.le_of_ble_eq_true rfl)⟩ rfl dL_bestJob_5 (fun E9 ce9 q9 u9 H locs hpx9 hP hD hS hz hq1 hq2 hq3 => ?_) (fun r9 u9 H locs hp9 hP hD hS hz => ?_)
  · rcases hpx E9 u9 hpx9 with ⟨hK, rfl⟩ | ⟨hK, rfl⟩
    · refine vx_catch (own := RL) (name := eI) hown [] ⟨0, 10, 13, 20⟩ [⟨0, 10, 17, 15⟩] (by rw [htab]; rfl) (fun _ h => absurd h List.not_mem_nil) rfl (by decide) (hts (.classLink RL 20 eI) (by decide +kernel)) (va_Nw.use rfl (hZ.2 _ (zcast _ (Or.inl rfl)))) hq1 hq2 hq3 ?_
      refine lv_astore (lv' := [(4, .ref q9), (0, .ref a0), (1, .int (v0)), (2, .int (v1)), (3, .ref o)]) hx hb dL_bestJob_13 hl (by decide) rfl (fun ls hl => ?_)
      refine lv_iconst (v := nI (1)) hx hb dL_bestJob_15 (by decide) ?_
      exact zr_qi (S := Sum ((Int32 × (Nat → Int64)) × S) SX) (post := zwP post px K) (w1 := zwW cA o z w1 wx) (Sum.inr u9) hx hb hr hlocks ⟨by rw [hK], by omega, _, hpx9⟩ hP hD hS rfl dL_bestJob_16
    · refine vx_catch (own := RL) (name := eS) hown [⟨0, 10, 13, 20⟩] ⟨0, 10, 17, 15⟩ [] (by rw [htab]; rfl) (fun x9 h => by rw [List.mem_singleton.mp h]; exact Or.inr ⟨by decide, _, hts (.classLink RL 20 eI) (by decide +kernel), hN.2.1⟩) rfl (by decide) (hts (.classLink RL 15 eS) (by decide +kernel)) (va_Nw.use rfl (hZ.2 _ (zcast _ (Or.inr (Or.inl rfl))))) hq1 hq2 hq3 ?_
      refine lv_astore (lv' := [(4, .ref q9), (0, .ref a0), (1, .int (v0)), (2, .int (v1)), (3, .ref o)]) hx hb dL_bestJob_17 hl (by decide) rfl (fun ls hl => ?_)
      refine lv_iconst (v := nI (2)) hx hb dL_bestJob_19 (by decide) ?_
      exact zr_qi (S := Sum ((Int32 × (Nat → Int64)) × S) SX) (post := zwP post px K) (w1 := zwW cA o z w1 wx) (Sum.inr u9) hx hb hr hlocks ⟨by rw [hK], by omega, _, hpx9⟩ hP hD hS rfl dL_bestJob_20
  refine lv_i2l (v := (r9).toInt64) hx hb dL_bestJob_8 rfl ?_
  refine va_last hx hb hZ.1 hP hD hS 0 4 rfl rfl (vp_in_nI (show 0 < 1 by omega) (by omega)) dL_bestJob_9 (fun H locs hP hD hS => ?_)
  rw [nI_clamp (show 0 < 2 ^ 31 by omega)] at hP hD
  refine lv_goto (tgt := 21) hx hb dL_bestJob_10 (by decide) ?_
  refine lv_iconst (v := nI (0)) hx hb dL_bestJob_21 (by decide) ?_
  exact zr_qi (S := Sum ((Int32 × (Nat → Int64)) × S) SX) (post := zwP post px K) (w1 := zwW cA o z w1 wx) (Sum.inl ((r9, vp_updL z 0 r9.toInt64), u9)) hx hb hr hlocks ⟨rfl, if_pos rfl, hp9⟩ hP hD hS rfl dL_bestJob_22

set_option maxHeartbeats 4000000 in
set_option maxRecDepth 100000 in
theorem c_L_insertedTime (l : Launch) (D : va_G) (cA : Nat → ClassId) (sz : Nat) (ws : va_W) (o : Nat) (z : Nat → Int64) (a0 : Nat) (fs : List Value) (hq : ws[22]? = some (a0, .inr (4, fs))) {S SX : Type} (post : Int32 → S → Prop) (w1 : S → va_W) (px : String → SX → Prop) (wx : SX → va_W) (K : Nat) (v0 : Int32) (hC : ∀ sz, vx_Met l yX4_insertedTime wsX4_insertedTime ({ frames := 8, cells := 2, slots := 12, locals := 142 }) (va_Pc [.ref a0, .int v0] (zMX D cA ws sz)) (va_Qi post (fun u => zB D (va_A ws sz) (w1 u)) (va_A ws sz)) (zXC px wx D (va_A ws sz)) 2 12 (va_A ws sz)) (hpx : ∀ E u, px E u → zexIS K E) : Met l yL_insertedTime wsL_insertedTime ({ frames := 9, cells := 2, slots := 12, locals := 163 }) (va_Pc [.ref a0, .int v0, .ref o] (zMW D cA ((o, zOut cA z) :: ws) sz)) (va_Qi (zwP post px K) (fun u => zB D (va_A ((o, zOut cA z) :: ws) sz) (zwW cA o z w1 wx u)) (va_A ((o, zOut cA z) :: ws) sz)) 2 12 (va_A ((o, zOut cA z) :: ws) sz) := by
  refine zOpenH (cc := cL_insertedTime) (maxL := 4) (ret := (some .int)) (own := RL) (by decide) rfl rfl (Nat.le_of_ble_eq_true rfl) ?_
  intro p e s m below meth c ls hx hb hr hml hts hown hlocks htab ⟨⟨⟨hZ, hP, hD0, hsz⟩, hX⟩, hN⟩ hl
  subst hsz
  have hD := hD0.self (sz := s.heap.size)
  generalize hAe : va_A ((o, zOut cA z) :: ws) s.heap.size = A at hD hX ⊢
  have hA : ∀ q : Nat, s.heap.size ≤ q → A q := fun q h => by rw [← hAe]; exact Or.inr h
  have hS : va_S A s.heap s.heap [] := va_S.rf
  have hl : lv_has ls 4 [(0, .ref a0), (1, .int (v0)), (2, .ref o)] := hl
  refine lv_aload_n hx hb dL_insertedTime_0 rfl (lv_at hl 2 rfl) ?_
  refine lv_iconst (v := nI (0)) hx hb dL_insertedTime_1 (by decide) ?_
  refine lv_aload_n hx hb dL_insertedTime_2 rfl (lv_at hl 0 rfl) ?_
  refine lv_iload_n hx hb dL_insertedTime_3 rfl (lv_at hl 1 rfl) ?_
  refine zq_T_i (n := 1) (mc := 2) (ms := 12) (As := [.int v0]) (rest := [.int (nI (0)), .ref o]) hx hb hml hts hown hZ hX hP hD hS hA (hC _) gL_insertedTime_X4_insertedTime rfl rfl ⟨rfl, rfl⟩ ⟨by decide +kernel, (Nat.le_of_ble_eq_true rfl), (Nat.le_of_ble_eq_true rfl)⟩ hq rfl hl.1 rfl (Nat.le_of_ble_eq_true rfl) ⟨(Nat.le_of_ble_eq_true rfl), (Nat.le_of_ble_eq_true rfl)⟩ rfl dL_insertedTime_4 (fun E9 ce9 q9 u9 H locs hpx9 hP hD hS hz hq1 hq2 hq3 => ?_) (fun r9 u9 H locs hp9 hP hD hS hz => ?_)
  · rcases hpx E9 u9 hpx9 with ⟨hK, rfl⟩ | ⟨hK, rfl⟩
    · refine vx_catch (own := RL) (name := eI) hown [] ⟨0, 9, 12, 20⟩ [⟨0, 9, 15, 15⟩] (by rw [htab]; rfl) (fun _ h => absurd h List.not_mem_nil) rfl (by decide) (hts (.classLink RL 20 eI) (by decide +kernel)) (va_Nw.use rfl (hZ.2 _ (zcast _ (Or.inl rfl)))) hq1 hq2 hq3 ?_
      refine lv_astore_n (lv' := [(3, .ref q9), (0, .ref a0), (1, .int (v0)), (2, .ref o)]) hx hb dL_insertedTime_12 rfl hl (by decide) rfl (fun ls hl => ?_)
      refine lv_iconst (v := nI (1)) hx hb dL_insertedTime_13 (by decide) ?_
      exact zr_qi (S := Sum ((Int32 × (Nat → Int64)) × S) SX) (post := zwP post px K) (w1 := zwW cA o z w1 wx) (Sum.inr u9) hx hb hr hlocks ⟨by rw [hK], by omega, _, hpx9⟩ hP hD hS rfl dL_insertedTime_14
    · refine vx_catch (own := RL) (name := eS) hown [⟨0, 9, 12, 20⟩] ⟨0, 9, 15, 15⟩ [] (by rw [htab]; rfl) (fun x9 h => by rw [List.mem_singleton.mp h]; exact Or.inr ⟨by decide, _, hts (.classLink RL 20 eI) (by decide +kernel), hN.2.1⟩) rfl (by decide) (hts (.classLink RL 15 eS) (by decide +kernel)) (va_Nw.use rfl (hZ.2 _ (zcast _ (Or.inr (Or.inl rfl))))) hq1 hq2 hq3 ?_
      refine lv_astore_n (lv' := [(3, .ref q9), (0, .ref a0), (1, .int (v0)), (2, .ref o)]) hx hb dL_insertedTime_15 rfl hl (by decide) rfl (fun ls hl => ?_)
      refine lv_iconst (v := nI (2)) hx hb dL_insertedTime_16 (by decide) ?_
      exact zr_qi (S := Sum ((Int32 × (Nat → Int64)) × S) SX) (post := zwP post px K) (w1 := zwW cA o z w1 wx) (Sum.inr u9) hx hb hr hlocks ⟨by rw [hK], by omega, _, hpx9⟩ hP hD hS rfl dL_insertedTime_17
  refine lv_i2l (v := (r9).toInt64) hx hb dL_insertedTime_7 rfl ?_
  refine va_last hx hb hZ.1 hP hD hS 0 4 rfl rfl (vp_in_nI (show 0 < 1 by omega) (by omega)) dL_insertedTime_8 (fun H locs hP hD hS => ?_)
  rw [nI_clamp (show 0 < 2 ^ 31 by omega)] at hP hD
  refine lv_goto (tgt := 18) hx hb dL_insertedTime_9 (by decide) ?_
  refine lv_iconst (v := nI (0)) hx hb dL_insertedTime_18 (by decide) ?_
  exact zr_qi (S := Sum ((Int32 × (Nat → Int64)) × S) SX) (post := zwP post px K) (w1 := zwW cA o z w1 wx) (Sum.inl ((r9, vp_updL z 0 r9.toInt64), u9)) hx hb hr hlocks ⟨rfl, if_pos rfl, hp9⟩ hP hD hS rfl dL_insertedTime_19

set_option maxHeartbeats 4000000 in
set_option maxRecDepth 100000 in
theorem c_L_triedTime (l : Launch) (D : va_G) (cA : Nat → ClassId) (sz : Nat) (ws : va_W) (o : Nat) (z : Nat → Int64) (a0 : Nat) (fs : List Value) (hq : ws[22]? = some (a0, .inr (4, fs))) {S SX : Type} (post : Int32 → S → Prop) (w1 : S → va_W) (px : String → SX → Prop) (wx : SX → va_W) (K : Nat) (v0 : Int32) (hC : ∀ sz, vx_Met l yX4_triedTime wsX4_triedTime ({ frames := 8, cells := 2, slots := 12, locals := 142 }) (va_Pc [.ref a0, .int v0] (zMX D cA ws sz)) (va_Qi post (fun u => zB D (va_A ws sz) (w1 u)) (va_A ws sz)) (zXC px wx D (va_A ws sz)) 2 12 (va_A ws sz)) (hpx : ∀ E u, px E u → zexIS K E) : Met l yL_triedTime wsL_triedTime ({ frames := 9, cells := 2, slots := 12, locals := 163 }) (va_Pc [.ref a0, .int v0, .ref o] (zMW D cA ((o, zOut cA z) :: ws) sz)) (va_Qi (zwP post px K) (fun u => zB D (va_A ((o, zOut cA z) :: ws) sz) (zwW cA o z w1 wx u)) (va_A ((o, zOut cA z) :: ws) sz)) 2 12 (va_A ((o, zOut cA z) :: ws) sz) := by
  refine zOpenH (cc := cL_triedTime) (maxL := 4) (ret := (some .int)) (own := RL) (by decide) rfl rfl (Nat.le_of_ble_eq_true rfl) ?_
  intro p e s m below meth c ls hx hb hr hml hts hown hlocks htab ⟨⟨⟨hZ, hP, hD0, hsz⟩, hX⟩, hN⟩ hl
  subst hsz
  have hD := hD0.self (sz := s.heap.size)
  generalize hAe : va_A ((o, zOut cA z) :: ws) s.heap.size = A at hD hX ⊢
  have hA : ∀ q : Nat, s.heap.size ≤ q → A q := fun q h => by rw [← hAe]; exact Or.inr h
  have hS : va_S A s.heap s.heap [] := va_S.rf
  have hl : lv_has ls 4 [(0, .ref a0), (1, .int (v0)), (2, .ref o)] := hl
  refine lv_aload_n hx hb dL_triedTime_0 rfl (lv_at hl 2 rfl) ?_
  refine lv_iconst (v := nI (0)) hx hb dL_triedTime_1 (by decide) ?_
  refine lv_aload_n hx hb dL_triedTime_2 rfl (lv_at hl 0 rfl) ?_
  refine lv_iload_n hx hb dL_triedTime_3 rfl (lv_at hl 1 rfl) ?_
  refine zq_T_i (n := 1) (mc := 2) (ms := 12) (As := [.int v0]) (rest := [.int (nI (0)), .ref o]) hx hb hml hts hown hZ hX hP hD hS hA (hC _) gL_triedTime_X4_triedTime rfl rfl ⟨rfl, rfl⟩ ⟨by decide +kernel, (Nat.le_of_ble_eq_true rfl), (Nat.le_of_ble_eq_true rfl)⟩ hq rfl hl.1 rfl (Nat.le_of_ble_eq_true rfl) ⟨(Nat.le_of_ble_eq_true rfl), (Nat.le_of_ble_eq_true rfl)⟩ rfl dL_triedTime_4 (fun E9 ce9 q9 u9 H locs hpx9 hP hD hS hz hq1 hq2 hq3 => ?_) (fun r9 u9 H locs hp9 hP hD hS hz => ?_)
  · rcases hpx E9 u9 hpx9 with ⟨hK, rfl⟩ | ⟨hK, rfl⟩
    · refine vx_catch (own := RL) (name := eI) hown [] ⟨0, 9, 12, 20⟩ [⟨0, 9, 15, 15⟩] (by rw [htab]; rfl) (fun _ h => absurd h List.not_mem_nil) rfl (by decide) (hts (.classLink RL 20 eI) (by decide +kernel)) (va_Nw.use rfl (hZ.2 _ (zcast _ (Or.inl rfl)))) hq1 hq2 hq3 ?_
      refine lv_astore_n (lv' := [(3, .ref q9), (0, .ref a0), (1, .int (v0)), (2, .ref o)]) hx hb dL_triedTime_12 rfl hl (by decide) rfl (fun ls hl => ?_)
      refine lv_iconst (v := nI (1)) hx hb dL_triedTime_13 (by decide) ?_
      exact zr_qi (S := Sum ((Int32 × (Nat → Int64)) × S) SX) (post := zwP post px K) (w1 := zwW cA o z w1 wx) (Sum.inr u9) hx hb hr hlocks ⟨by rw [hK], by omega, _, hpx9⟩ hP hD hS rfl dL_triedTime_14
    · refine vx_catch (own := RL) (name := eS) hown [⟨0, 9, 12, 20⟩] ⟨0, 9, 15, 15⟩ [] (by rw [htab]; rfl) (fun x9 h => by rw [List.mem_singleton.mp h]; exact Or.inr ⟨by decide, _, hts (.classLink RL 20 eI) (by decide +kernel), hN.2.1⟩) rfl (by decide) (hts (.classLink RL 15 eS) (by decide +kernel)) (va_Nw.use rfl (hZ.2 _ (zcast _ (Or.inr (Or.inl rfl))))) hq1 hq2 hq3 ?_
      refine lv_astore_n (lv' := [(3, .ref q9), (0, .ref a0), (1, .int (v0)), (2, .ref o)]) hx hb dL_triedTime_15 rfl hl (by decide) rfl (fun ls hl => ?_)
      refine lv_iconst (v := nI (2)) hx hb dL_triedTime_16 (by decide) ?_
      exact zr_qi (S := Sum ((Int32 × (Nat → Int64)) × S) SX) (post := zwP post px K) (w1 := zwW cA o z w1 wx) (Sum.inr u9) hx hb hr hlocks ⟨by rw [hK], by omega, _, hpx9⟩ hP hD hS rfl dL_triedTime_17
  refine lv_i2l (v := (r9).toInt64) hx hb dL_triedTime_7 rfl ?_
  refine va_last hx hb hZ.1 hP hD hS 0 4 rfl rfl (vp_in_nI (show 0 < 1 by omega) (by omega)) dL_triedTime_8 (fun H locs hP hD hS => ?_)
  rw [nI_clamp (show 0 < 2 ^ 31 by omega)] at hP hD
  refine lv_goto (tgt := 18) hx hb dL_triedTime_9 (by decide) ?_
  refine lv_iconst (v := nI (0)) hx hb dL_triedTime_18 (by decide) ?_
  exact zr_qi (S := Sum ((Int32 × (Nat → Int64)) × S) SX) (post := zwP post px K) (w1 := zwW cA o z w1 wx) (Sum.inl ((r9, vp_updL z 0 r9.toInt64), u9)) hx hb hr hlocks ⟨rfl, if_pos rfl, hp9⟩ hP hD hS rfl dL_triedTime_19

set_option maxHeartbeats 4000000 in
set_option maxRecDepth 100000 in
theorem c_L_work (l : Launch) (D : va_G) (cA : Nat → ClassId) (sz : Nat) (ws : va_W) (o : Nat) (z : Nat → Int64) (a0 : Nat) (fs : List Value) (hq : ws[22]? = some (a0, .inr (4, fs))) {S SX : Type} (post : Int32 → S → Prop) (w1 : S → va_W) (px : String → SX → Prop) (wx : SX → va_W) (K : Nat) (v0 : Int32) (hC : ∀ sz, vx_Met l yX4_work wsX4_work ({ frames := 8, cells := 4, slots := 24, locals := 142 }) (va_Pc [.ref a0, .int v0] (zMX D cA ws sz)) (va_Qi post (fun u => zB D (va_A ws sz) (w1 u)) (va_A ws sz)) (zXC px wx D (va_A ws sz)) 4 24 (va_A ws sz)) (hpx : ∀ E u, px E u → zexIS K E) : Met l yL_work wsL_work ({ frames := 9, cells := 4, slots := 24, locals := 168 }) (va_Pc [.ref a0, .int v0, .ref o] (zMW D cA ((o, zOut cA z) :: ws) sz)) (va_Qi (zwP post px K) (fun u => zB D (va_A ((o, zOut cA z) :: ws) sz) (zwW cA o z w1 wx u)) (va_A ((o, zOut cA z) :: ws) sz)) 4 24 (va_A ((o, zOut cA z) :: ws) sz) := by
  refine zOpenH (cc := cL_work) (maxL := 4) (ret := (some .int)) (own := RL) (by decide) rfl rfl (Nat.le_of_ble_eq_true rfl) ?_
  intro p e s m below meth c ls hx hb hr hml hts hown hlocks htab ⟨⟨⟨hZ, hP, hD0, hsz⟩, hX⟩, hN⟩ hl
  subst hsz
  have hD := hD0.self (sz := s.heap.size)
  generalize hAe : va_A ((o, zOut cA z) :: ws) s.heap.size = A at hD hX ⊢
  have hA : ∀ q : Nat, s.heap.size ≤ q → A q := fun q h => by rw [← hAe]; exact Or.inr h
  have hS : va_S A s.heap s.heap [] := va_S.rf
  have hl : lv_has ls 4 [(0, .ref a0), (1, .int (v0)), (2, .ref o)] := hl
  refine lv_aload_n hx hb dL_work_0 rfl (lv_at hl 2 rfl) ?_
  refine lv_iconst (v := nI (0)) hx hb dL_work_1 (by decide) ?_
  refine lv_aload_n hx hb dL_work_2 rfl (lv_at hl 0 rfl) ?_
  refine lv_iload_n hx hb dL_work_3 rfl (lv_at hl 1 rfl) ?_
  refine zq_T_i (n := 1) (mc := 4) (ms := 24) (As := [.int v0]) (rest := [.int (nI (0)), .ref o]) hx hb hml hts hown hZ hX hP hD hS hA (hC _) gL_work_X4_work rfl rfl ⟨rfl, rfl⟩ ⟨by decide +kernel, (Nat.le_of_ble_eq_true rfl), (Nat.le_of_ble_eq_true rfl)⟩ hq rfl hl.1 rfl (Nat.le_of_ble_eq_true rfl) ⟨(Nat.le_of_ble_eq_true rfl), (Nat.le_of_ble_eq_true rfl)⟩ rfl dL_work_4 (fun E9 ce9 q9 u9 H locs hpx9 hP hD hS hz hq1 hq2 hq3 => ?_) (fun r9 u9 H locs hp9 hP hD hS hz => ?_)
  · rcases hpx E9 u9 hpx9 with ⟨hK, rfl⟩ | ⟨hK, rfl⟩
    · refine vx_catch (own := RL) (name := eI) hown [] ⟨0, 9, 12, 20⟩ [⟨0, 9, 15, 15⟩] (by rw [htab]; rfl) (fun _ h => absurd h List.not_mem_nil) rfl (by decide) (hts (.classLink RL 20 eI) (by decide +kernel)) (va_Nw.use rfl (hZ.2 _ (zcast _ (Or.inl rfl)))) hq1 hq2 hq3 ?_
      refine lv_astore_n (lv' := [(3, .ref q9), (0, .ref a0), (1, .int (v0)), (2, .ref o)]) hx hb dL_work_12 rfl hl (by decide) rfl (fun ls hl => ?_)
      refine lv_iconst (v := nI (1)) hx hb dL_work_13 (by decide) ?_
      exact zr_qi (S := Sum ((Int32 × (Nat → Int64)) × S) SX) (post := zwP post px K) (w1 := zwW cA o z w1 wx) (Sum.inr u9) hx hb hr hlocks ⟨by rw [hK], by omega, _, hpx9⟩ hP hD hS rfl dL_work_14
    · refine vx_catch (own := RL) (name := eS) hown [⟨0, 9, 12, 20⟩] ⟨0, 9, 15, 15⟩ [] (by rw [htab]; rfl) (fun x9 h => by rw [List.mem_singleton.mp h]; exact Or.inr ⟨by decide, _, hts (.classLink RL 20 eI) (by decide +kernel), hN.2.1⟩) rfl (by decide) (hts (.classLink RL 15 eS) (by decide +kernel)) (va_Nw.use rfl (hZ.2 _ (zcast _ (Or.inr (Or.inl rfl))))) hq1 hq2 hq3 ?_
      refine lv_astore_n (lv' := [(3, .ref q9), (0, .ref a0), (1, .int (v0)), (2, .ref o)]) hx hb dL_work_15 rfl hl (by decide) rfl (fun ls hl => ?_)
      refine lv_iconst (v := nI (2)) hx hb dL_work_16 (by decide) ?_
      exact zr_qi (S := Sum ((Int32 × (Nat → Int64)) × S) SX) (post := zwP post px K) (w1 := zwW cA o z w1 wx) (Sum.inr u9) hx hb hr hlocks ⟨by rw [hK], by omega, _, hpx9⟩ hP hD hS rfl dL_work_17
  refine lv_i2l (v := (r9).toInt64) hx hb dL_work_7 rfl ?_
  refine va_last hx hb hZ.1 hP hD hS 0 4 rfl rfl (vp_in_nI (show 0 < 1 by omega) (by omega)) dL_work_8 (fun H locs hP hD hS => ?_)
  rw [nI_clamp (show 0 < 2 ^ 31 by omega)] at hP hD
  refine lv_goto (tgt := 18) hx hb dL_work_9 (by decide) ?_
  refine lv_iconst (v := nI (0)) hx hb dL_work_18 (by decide) ?_
  exact zr_qi (S := Sum ((Int32 × (Nat → Int64)) × S) SX) (post := zwP post px K) (w1 := zwW cA o z w1 wx) (Sum.inl ((r9, vp_updL z 0 r9.toInt64), u9)) hx hb hr hlocks ⟨rfl, if_pos rfl, hp9⟩ hP hD hS rfl dL_work_19

set_option maxHeartbeats 4000000 in
set_option maxRecDepth 100000 in
theorem c_L_lose (l : Launch) (D : va_G) (cA : Nat → ClassId) (sz : Nat) (ws : va_W) (o : Nat) (z : Nat → Int64) (a0 : Nat) (fs : List Value) (hq : ws[22]? = some (a0, .inr (4, fs))) {S SX : Type} (post : Int32 → S → Prop) (w1 : S → va_W) (px : String → SX → Prop) (wx : SX → va_W) (K : Nat) (v0 : Int32) (hC : ∀ sz, vx_Met l yX4_lose wsX4_lose ({ frames := 7, cells := 2, slots := 12, locals := 118 }) (va_Pc [.ref a0, .int v0] (zMX D cA ws sz)) (va_Qi post (fun u => zB D (va_A ws sz) (w1 u)) (va_A ws sz)) (zXC px wx D (va_A ws sz)) 2 12 (va_A ws sz)) (hpx : ∀ E u, px E u → zexIS K E) : Met l yL_lose wsL_lose ({ frames := 8, cells := 2, slots := 12, locals := 140 }) (va_Pc [.ref a0, .int v0, .ref o] (zMW D cA ((o, zOut cA z) :: ws) sz)) (va_Qi (zwP post px K) (fun u => zB D (va_A ((o, zOut cA z) :: ws) sz) (zwW cA o z w1 wx u)) (va_A ((o, zOut cA z) :: ws) sz)) 2 12 (va_A ((o, zOut cA z) :: ws) sz) := by
  refine zOpenH (cc := cL_lose) (maxL := 4) (ret := (some .int)) (own := RL) (by decide) rfl rfl (Nat.le_of_ble_eq_true rfl) ?_
  intro p e s m below meth c ls hx hb hr hml hts hown hlocks htab ⟨⟨⟨hZ, hP, hD0, hsz⟩, hX⟩, hN⟩ hl
  subst hsz
  have hD := hD0.self (sz := s.heap.size)
  generalize hAe : va_A ((o, zOut cA z) :: ws) s.heap.size = A at hD hX ⊢
  have hA : ∀ q : Nat, s.heap.size ≤ q → A q := fun q h => by rw [← hAe]; exact Or.inr h
  have hS : va_S A s.heap s.heap [] := va_S.rf
  have hl : lv_has ls 4 [(0, .ref a0), (1, .int (v0)), (2, .ref o)] := hl
  refine lv_aload_n hx hb dL_lose_0 rfl (lv_at hl 2 rfl) ?_
  refine lv_iconst (v := nI (0)) hx hb dL_lose_1 (by decide) ?_
  refine lv_aload_n hx hb dL_lose_2 rfl (lv_at hl 0 rfl) ?_
  refine lv_iload_n hx hb dL_lose_3 rfl (lv_at hl 1 rfl) ?_
  refine zq_T_i (n := 1) (mc := 2) (ms := 12) (As := [.int v0]) (rest := [.int (nI (0)), .ref o]) hx hb hml hts hown hZ hX hP hD hS hA (hC _) gL_lose_X4_lose rfl rfl ⟨rfl, rfl⟩ ⟨by decide +kernel, (Nat.le_of_ble_eq_true rfl), (Nat.le_of_ble_eq_true rfl)⟩ hq rfl hl.1 rfl (Nat.le_of_ble_eq_true rfl) ⟨(Nat.le_of_ble_eq_true rfl), (Nat.le_of_ble_eq_true rfl)⟩ rfl dL_lose_4 (fun E9 ce9 q9 u9 H locs hpx9 hP hD hS hz hq1 hq2 hq3 => ?_) (fun r9 u9 H locs hp9 hP hD hS hz => ?_)
  · rcases hpx E9 u9 hpx9 with ⟨hK, rfl⟩ | ⟨hK, rfl⟩
    · refine vx_catch (own := RL) (name := eI) hown [] ⟨0, 9, 12, 20⟩ [⟨0, 9, 15, 15⟩] (by rw [htab]; rfl) (fun _ h => absurd h List.not_mem_nil) rfl (by decide) (hts (.classLink RL 20 eI) (by decide +kernel)) (va_Nw.use rfl (hZ.2 _ (zcast _ (Or.inl rfl)))) hq1 hq2 hq3 ?_
      refine lv_astore_n (lv' := [(3, .ref q9), (0, .ref a0), (1, .int (v0)), (2, .ref o)]) hx hb dL_lose_12 rfl hl (by decide) rfl (fun ls hl => ?_)
      refine lv_iconst (v := nI (1)) hx hb dL_lose_13 (by decide) ?_
      exact zr_qi (S := Sum ((Int32 × (Nat → Int64)) × S) SX) (post := zwP post px K) (w1 := zwW cA o z w1 wx) (Sum.inr u9) hx hb hr hlocks ⟨by rw [hK], by omega, _, hpx9⟩ hP hD hS rfl dL_lose_14
    · refine vx_catch (own := RL) (name := eS) hown [⟨0, 9, 12, 20⟩] ⟨0, 9, 15, 15⟩ [] (by rw [htab]; rfl) (fun x9 h => by rw [List.mem_singleton.mp h]; exact Or.inr ⟨by decide, _, hts (.classLink RL 20 eI) (by decide +kernel), hN.2.1⟩) rfl (by decide) (hts (.classLink RL 15 eS) (by decide +kernel)) (va_Nw.use rfl (hZ.2 _ (zcast _ (Or.inr (Or.inl rfl))))) hq1 hq2 hq3 ?_
      refine lv_astore_n (lv' := [(3, .ref q9), (0, .ref a0), (1, .int (v0)), (2, .ref o)]) hx hb dL_lose_15 rfl hl (by decide) rfl (fun ls hl => ?_)
      refine lv_iconst (v := nI (2)) hx hb dL_lose_16 (by decide) ?_
      exact zr_qi (S := Sum ((Int32 × (Nat → Int64)) × S) SX) (post := zwP post px K) (w1 := zwW cA o z w1 wx) (Sum.inr u9) hx hb hr hlocks ⟨by rw [hK], by omega, _, hpx9⟩ hP hD hS rfl dL_lose_17
  refine lv_i2l (v := (r9).toInt64) hx hb dL_lose_7 rfl ?_
  refine va_last hx hb hZ.1 hP hD hS 0 4 rfl rfl (vp_in_nI (show 0 < 1 by omega) (by omega)) dL_lose_8 (fun H locs hP hD hS => ?_)
  rw [nI_clamp (show 0 < 2 ^ 31 by omega)] at hP hD
  refine lv_goto (tgt := 18) hx hb dL_lose_9 (by decide) ?_
  refine lv_iconst (v := nI (0)) hx hb dL_lose_18 (by decide) ?_
  exact zr_qi (S := Sum ((Int32 × (Nat → Int64)) × S) SX) (post := zwP post px K) (w1 := zwW cA o z w1 wx) (Sum.inl ((r9, vp_updL z 0 r9.toInt64), u9)) hx hb hr hlocks ⟨rfl, if_pos rfl, hp9⟩ hP hD hS rfl dL_lose_19
