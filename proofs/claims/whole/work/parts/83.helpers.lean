set_option maxHeartbeats 4000000 in
set_option maxRecDepth 100000 in
theorem c_L_tape (l : Launch) (D : va_G) (cA : Nat → ClassId) (sz : Nat) (ws : va_W) (o : Nat) (z : Nat → Int64) (a0 : Nat) (fs : List Value) (hq : ws[22]? = some (a0, .inr (4, fs))) {S SX : Type} (post : Int32 → S → Prop) (w1 : S → va_W) (px : String → SX → Prop) (wx : SX → va_W) (K : Nat) (v0 v1 : Int32) (hC : ∀ sz, vx_Met l yX4_tape wsX4_tape ({ frames := 6, cells := 2, slots := 19, locals := 96 }) (va_Pc [.ref a0, .int v0, .int v1] (zMX D cA ws sz)) (va_Qi post (fun u => zB D (va_A ws sz) (w1 u)) (va_A ws sz)) (zXC px wx D (va_A ws sz)) 2 19 (va_A ws sz)) (hpx : ∀ E u, px E u → zexAS K E) : Met l yL_tape wsL_tape ({ frames := 7, cells := 2, slots := 19, locals := 118 }) (va_Pc [.ref a0, .int v0, .int v1, .ref o] (zMW D cA ((o, zOut cA z) :: ws) sz)) (va_Qi (zwP post px K) (fun u => zB D (va_A ((o, zOut cA z) :: ws) sz) (zwW cA o z w1 wx u)) (va_A ((o, zOut cA z) :: ws) sz)) 2 19 (va_A ((o, zOut cA z) :: ws) sz) := by
  refine zOpenH (cc := cL_tape) (maxL := 5) (ret := (some .int)) (own := RL) (by decide) rfl rfl (Nat.le_of_ble_eq_true rfl) ?_
  intro p e s m below meth c ls hx hb hr hml hts hown hlocks htab ⟨⟨⟨hZ, hP, hD0, hsz⟩, hX⟩, hN⟩ hl
  subst hsz
  have hD := hD0.self (sz := s.heap.size)
  generalize hAe : va_A ((o, zOut cA z) :: ws) s.heap.size = A at hD hX ⊢
  have hA : ∀ q : Nat, s.heap.size ≤ q → A q := fun q h => by rw [← hAe]; exact Or.inr h
  have hS : va_S A s.heap s.heap [] := va_S.rf
  have hl : lv_has ls 5 [(0, .ref a0), (1, .int (v0)), (2, .int (v1)), (3, .ref o)] := hl
  refine lv_aload_n hx hb dL_tape_0 rfl (lv_at hl 3 rfl) ?_
  refine lv_iconst (v := nI (0)) hx hb dL_tape_1 (by decide) ?_
  refine lv_aload_n hx hb dL_tape_2 rfl (lv_at hl 0 rfl) ?_
  refine lv_iload_n hx hb dL_tape_3 rfl (lv_at hl 1 rfl) ?_
  refine lv_iload_n hx hb dL_tape_4 rfl (lv_at hl 2 rfl) ?_
  refine zq_T_i (n := 2) (mc := 2) (ms := 19) (As := [.int v0, .int v1]) (rest := [.int (nI (0)), .ref o]) hx hb hml hts hown hZ hX hP hD hS hA (hC _) gL_tape_X4_tape rfl rfl ⟨rfl, rfl⟩ ⟨by decide +kernel, (Nat.le_of_ble_eq_true rfl), (Nat.le_of_ble_eq_true rfl)⟩ hq rfl hl.1 rfl (Nat.le_of_ble_eq_true rfl) ⟨(Nat.le_of_ble_eq_true rfl), (Nat.le_of_ble_eq_true rfl)⟩ rfl dL_tape_5 (fun E9 ce9 q9 u9 H locs hpx9 hP hD hS hz hq1 hq2 hq3 => ?_) (fun r9 u9 H locs hp9 hP hD hS hz => ?_)
  · rcases hpx E9 u9 hpx9 with ⟨hK, rfl⟩ | ⟨hK, rfl⟩
    · refine vx_catch (own := RL) (name := eA) hown [] ⟨0, 10, 13, 13⟩ [⟨0, 10, 17, 15⟩] (by rw [htab]; rfl) (fun _ h => absurd h List.not_mem_nil) rfl (by decide) (hts (.classLink RL 13 eA) (by decide +kernel)) (va_Nw.use rfl (hZ.2 _ (zcast _ (Or.inr (Or.inr rfl))))) hq1 hq2 hq3 ?_
      refine lv_astore (lv' := [(4, .ref q9), (0, .ref a0), (1, .int (v0)), (2, .int (v1)), (3, .ref o)]) hx hb dL_tape_13 hl (by decide) rfl (fun ls hl => ?_)
      refine lv_iconst (v := nI (1)) hx hb dL_tape_15 (by decide) ?_
      exact zr_qi (S := Sum ((Int32 × (Nat → Int64)) × S) SX) (post := zwP post px K) (w1 := zwW cA o z w1 wx) (Sum.inr u9) hx hb hr hlocks ⟨by rw [hK], by omega, _, hpx9⟩ hP hD hS rfl dL_tape_16
    · refine vx_catch (own := RL) (name := eS) hown [⟨0, 10, 13, 13⟩] ⟨0, 10, 17, 15⟩ [] (by rw [htab]; rfl) (fun x9 h => by rw [List.mem_singleton.mp h]; exact Or.inr ⟨by decide, _, hts (.classLink RL 13 eA) (by decide +kernel), hN.1⟩) rfl (by decide) (hts (.classLink RL 15 eS) (by decide +kernel)) (va_Nw.use rfl (hZ.2 _ (zcast _ (Or.inr (Or.inl rfl))))) hq1 hq2 hq3 ?_
      refine lv_astore (lv' := [(4, .ref q9), (0, .ref a0), (1, .int (v0)), (2, .int (v1)), (3, .ref o)]) hx hb dL_tape_17 hl (by decide) rfl (fun ls hl => ?_)
      refine lv_iconst (v := nI (2)) hx hb dL_tape_19 (by decide) ?_
      exact zr_qi (S := Sum ((Int32 × (Nat → Int64)) × S) SX) (post := zwP post px K) (w1 := zwW cA o z w1 wx) (Sum.inr u9) hx hb hr hlocks ⟨by rw [hK], by omega, _, hpx9⟩ hP hD hS rfl dL_tape_20
  refine lv_i2l (v := (r9).toInt64) hx hb dL_tape_8 rfl ?_
  refine va_last hx hb hZ.1 hP hD hS 0 4 rfl rfl (vp_in_nI (show 0 < 1 by omega) (by omega)) dL_tape_9 (fun H locs hP hD hS => ?_)
  rw [nI_clamp (show 0 < 2 ^ 31 by omega)] at hP hD
  refine lv_goto (tgt := 21) hx hb dL_tape_10 (by decide) ?_
  refine lv_iconst (v := nI (0)) hx hb dL_tape_21 (by decide) ?_
  exact zr_qi (S := Sum ((Int32 × (Nat → Int64)) × S) SX) (post := zwP post px K) (w1 := zwW cA o z w1 wx) (Sum.inl ((r9, vp_updL z 0 r9.toInt64), u9)) hx hb hr hlocks ⟨rfl, if_pos rfl, hp9⟩ hP hD hS rfl dL_tape_22

set_option maxHeartbeats 4000000 in
set_option maxRecDepth 100000 in
theorem c_L_carry (l : Launch) (D : va_G) (cA : Nat → ClassId) (sz : Nat) (ws : va_W) (o : Nat) (z : Nat → Int64) (a0 : Nat) (fs : List Value) (hq : ws[22]? = some (a0, .inr (4, fs))) {S SX : Type} (post : Int32 → S → Prop) (w1 : S → va_W) (px : String → SX → Prop) (wx : SX → va_W) (K : Nat) (v0 v1 : Int32) (hC : ∀ sz, vx_Met l yX4_carry wsX4_carry ({ frames := 7, cells := 2, slots := 12, locals := 118 }) (va_Pc [.ref a0, .int v0, .int v1] (zMX D cA ws sz)) (va_Qi post (fun u => zB D (va_A ws sz) (w1 u)) (va_A ws sz)) (zXC px wx D (va_A ws sz)) 2 12 (va_A ws sz)) (hpx : ∀ E u, px E u → zexIS K E) : Met l yL_carry wsL_carry ({ frames := 8, cells := 2, slots := 12, locals := 142 }) (va_Pc [.ref a0, .int v0, .int v1, .ref o] (zMW D cA ((o, zOut cA z) :: ws) sz)) (va_Qi (zwP post px K) (fun u => zB D (va_A ((o, zOut cA z) :: ws) sz) (zwW cA o z w1 wx u)) (va_A ((o, zOut cA z) :: ws) sz)) 2 12 (va_A ((o, zOut cA z) :: ws) sz) := by
  refine zOpenH (cc := cL_carry) (maxL := 5) (ret := (some .int)) (own := RL) (by decide) rfl rfl (Nat.le_of_ble_eq_true rfl) ?_
  intro p e s m below meth c ls hx hb hr hml hts hown hlocks htab ⟨⟨⟨hZ, hP, hD0, hsz⟩, hX⟩, hN⟩ hl
  subst hsz
  have hD := hD0.self (sz := s.heap.size)
  generalize hAe : va_A ((o, zOut cA z) :: ws) s.heap.size = A at hD hX ⊢
  have hA : ∀ q : Nat, s.heap.size ≤ q → A q := fun q h => by rw [← hAe]; exact Or.inr h
  have hS : va_S A s.heap s.heap [] := va_S.rf
  have hl : lv_has ls 5 [(0, .ref a0), (1, .int (v0)), (2, .int (v1)), (3, .ref o)] := hl
  refine lv_aload_n hx hb dL_carry_0 rfl (lv_at hl 3 rfl) ?_
  refine lv_iconst (v := nI (0)) hx hb dL_carry_1 (by decide) ?_
  refine lv_aload_n hx hb dL_carry_2 rfl (lv_at hl 0 rfl) ?_
  refine lv_iload_n hx hb dL_carry_3 rfl (lv_at hl 1 rfl) ?_
  refine lv_iload_n hx hb dL_carry_4 rfl (lv_at hl 2 rfl) ?_
  refine zq_T_i (n := 2) (mc := 2) (ms := 12) (As := [.int v0, .int v1]) (rest := [.int (nI (0)), .ref o]) hx hb hml hts hown hZ hX hP hD hS hA (hC _) gL_carry_X4_carry rfl rfl ⟨rfl, rfl⟩ ⟨by decide +kernel, (Nat.le_of_ble_eq_true rfl), (Nat.le_of_ble_eq_true rfl)⟩ hq rfl hl.1 rfl (Nat.le_of_ble_eq_true rfl) ⟨(Nat.le_of_ble_eq_true rfl), (Nat.le_of_ble_eq_true rfl)⟩ rfl dL_carry_5 (fun E9 ce9 q9 u9 H locs hpx9 hP hD hS hz hq1 hq2 hq3 => ?_) (fun r9 u9 H locs hp9 hP hD hS hz => ?_)
  · rcases hpx E9 u9 hpx9 with ⟨hK, rfl⟩ | ⟨hK, rfl⟩
    · refine vx_catch (own := RL) (name := eI) hown [] ⟨0, 10, 13, 20⟩ [⟨0, 10, 17, 15⟩] (by rw [htab]; rfl) (fun _ h => absurd h List.not_mem_nil) rfl (by decide) (hts (.classLink RL 20 eI) (by decide +kernel)) (va_Nw.use rfl (hZ.2 _ (zcast _ (Or.inl rfl)))) hq1 hq2 hq3 ?_
      refine lv_astore (lv' := [(4, .ref q9), (0, .ref a0), (1, .int (v0)), (2, .int (v1)), (3, .ref o)]) hx hb dL_carry_13 hl (by decide) rfl (fun ls hl => ?_)
      refine lv_iconst (v := nI (1)) hx hb dL_carry_15 (by decide) ?_
      exact zr_qi (S := Sum ((Int32 × (Nat → Int64)) × S) SX) (post := zwP post px K) (w1 := zwW cA o z w1 wx) (Sum.inr u9) hx hb hr hlocks ⟨by rw [hK], by omega, _, hpx9⟩ hP hD hS rfl dL_carry_16
    · refine vx_catch (own := RL) (name := eS) hown [⟨0, 10, 13, 20⟩] ⟨0, 10, 17, 15⟩ [] (by rw [htab]; rfl) (fun x9 h => by rw [List.mem_singleton.mp h]; exact Or.inr ⟨by decide, _, hts (.classLink RL 20 eI) (by decide +kernel), hN.2.1⟩) rfl (by decide) (hts (.classLink RL 15 eS) (by decide +kernel)) (va_Nw.use rfl (hZ.2 _ (zcast _ (Or.inr (Or.inl rfl))))) hq1 hq2 hq3 ?_
      refine lv_astore (lv' := [(4, .ref q9), (0, .ref a0), (1, .int (v0)), (2, .int (v1)), (3, .ref o)]) hx hb dL_carry_17 hl (by decide) rfl (fun ls hl => ?_)
      refine lv_iconst (v := nI (2)) hx hb dL_carry_19 (by decide) ?_
      exact zr_qi (S := Sum ((Int32 × (Nat → Int64)) × S) SX) (post := zwP post px K) (w1 := zwW cA o z w1 wx) (Sum.inr u9) hx hb hr hlocks ⟨by rw [hK], by omega, _, hpx9⟩ hP hD hS rfl dL_carry_20
  refine lv_i2l (v := (r9).toInt64) hx hb dL_carry_8 rfl ?_
  refine va_last hx hb hZ.1 hP hD hS 0 4 rfl rfl (vp_in_nI (show 0 < 1 by omega) (by omega)) dL_carry_9 (fun H locs hP hD hS => ?_)
  rw [nI_clamp (show 0 < 2 ^ 31 by omega)] at hP hD
  refine lv_goto (tgt := 21) hx hb dL_carry_10 (by decide) ?_
  refine lv_iconst (v := nI (0)) hx hb dL_carry_21 (by decide) ?_
  exact zr_qi (S := Sum ((Int32 × (Nat → Int64)) × S) SX) (post := zwP post px K) (w1 := zwW cA o z w1 wx) (Sum.inl ((r9, vp_updL z 0 r9.toInt64), u9)) hx hb hr hlocks ⟨rfl, if_pos rfl, hp9⟩ hP hD hS rfl dL_carry_22

set_option maxHeartbeats 4000000 in
set_option maxRecDepth 100000 in
theorem c_L_placeOf (l : Launch) (D : va_G) (cA : Nat → ClassId) (sz : Nat) (ws : va_W) (o : Nat) (z : Nat → Int64) (a0 : Nat) (fs : List Value) (hq : ws[22]? = some (a0, .inr (4, fs))) {S SX : Type} (post : Int32 → S → Prop) (w1 : S → va_W) (px : String → SX → Prop) (wx : SX → va_W) (K : Nat) (v0 : Int32) (hC : ∀ sz, vx_Met l yX4_placeOf wsX4_placeOf ({ frames := 7, cells := 1, slots := 6, locals := 118 }) (va_Pc [.ref a0, .int v0] (zMX D cA ws sz)) (va_Qi post (fun u => zB D (va_A ws sz) (w1 u)) (va_A ws sz)) (zXC px wx D (va_A ws sz)) 1 6 (va_A ws sz)) (hpx : ∀ E u, px E u → zex1 K E) : Met l yL_placeOf wsL_placeOf ({ frames := 8, cells := 1, slots := 6, locals := 140 }) (va_Pc [.ref a0, .int v0, .ref o] (zMW D cA ((o, zOut cA z) :: ws) sz)) (va_Qi (zwP post px K) (fun u => zB D (va_A ((o, zOut cA z) :: ws) sz) (zwW cA o z w1 wx u)) (va_A ((o, zOut cA z) :: ws) sz)) 1 6 (va_A ((o, zOut cA z) :: ws) sz) := by
  refine zOpenH (cc := cL_placeOf) (maxL := 4) (ret := (some .int)) (own := RL) (by decide) rfl rfl (Nat.le_of_ble_eq_true rfl) ?_
  intro p e s m below meth c ls hx hb hr hml hts hown hlocks htab ⟨⟨⟨hZ, hP, hD0, hsz⟩, hX⟩, hN⟩ hl
  subst hsz
  have hD := hD0.self (sz := s.heap.size)
  generalize hAe : va_A ((o, zOut cA z) :: ws) s.heap.size = A at hD hX ⊢
  have hA : ∀ q : Nat, s.heap.size ≤ q → A q := fun q h => by rw [← hAe]; exact Or.inr h
  have hS : va_S A s.heap s.heap [] := va_S.rf
  have hl : lv_has ls 4 [(0, .ref a0), (1, .int (v0)), (2, .ref o)] := hl
  refine lv_aload_n hx hb dL_placeOf_0 rfl (lv_at hl 2 rfl) ?_
  refine lv_iconst (v := nI (0)) hx hb dL_placeOf_1 (by decide) ?_
  refine lv_aload_n hx hb dL_placeOf_2 rfl (lv_at hl 0 rfl) ?_
  refine lv_iload_n hx hb dL_placeOf_3 rfl (lv_at hl 1 rfl) ?_
  refine zq_T_i (n := 1) (mc := 1) (ms := 6) (As := [.int v0]) (rest := [.int (nI (0)), .ref o]) hx hb hml hts hown hZ hX hP hD hS hA (hC _) gL_placeOf_X4_placeOf rfl rfl ⟨rfl, rfl⟩ ⟨by decide +kernel, (Nat.le_of_ble_eq_true rfl), (Nat.le_of_ble_eq_true rfl)⟩ hq rfl hl.1 rfl (Nat.le_of_ble_eq_true rfl) ⟨(Nat.le_of_ble_eq_true rfl), (Nat.le_of_ble_eq_true rfl)⟩ rfl dL_placeOf_4 (fun E9 ce9 q9 u9 H locs hpx9 hP hD hS hz hq1 hq2 hq3 => ?_) (fun r9 u9 H locs hp9 hP hD hS hz => ?_)
  · obtain ⟨hK, rfl⟩ := hpx E9 u9 hpx9
    refine vx_catch (own := RL) (name := eI) hown [] ⟨0, 9, 12, 20⟩ [] (by rw [htab]; rfl) (fun _ h => absurd h List.not_mem_nil) rfl (by decide) (hts (.classLink RL 20 eI) (by decide +kernel)) (va_Nw.use rfl (hZ.2 _ (zcast _ (Or.inl rfl)))) hq1 hq2 hq3 ?_
    refine lv_astore_n (lv' := [(3, .ref q9), (0, .ref a0), (1, .int (v0)), (2, .ref o)]) hx hb dL_placeOf_12 rfl hl (by decide) rfl (fun ls hl => ?_)
    refine lv_iconst (v := nI (1)) hx hb dL_placeOf_13 (by decide) ?_
    exact zr_qi (S := Sum ((Int32 × (Nat → Int64)) × S) SX) (post := zwP post px K) (w1 := zwW cA o z w1 wx) (Sum.inr u9) hx hb hr hlocks ⟨by rw [hK], by omega, _, hpx9⟩ hP hD hS rfl dL_placeOf_14
  refine lv_i2l (v := (r9).toInt64) hx hb dL_placeOf_7 rfl ?_
  refine va_last hx hb hZ.1 hP hD hS 0 4 rfl rfl (vp_in_nI (show 0 < 1 by omega) (by omega)) dL_placeOf_8 (fun H locs hP hD hS => ?_)
  rw [nI_clamp (show 0 < 2 ^ 31 by omega)] at hP hD
  refine lv_goto (tgt := 15) hx hb dL_placeOf_9 (by decide) ?_
  refine lv_iconst (v := nI (0)) hx hb dL_placeOf_15 (by decide) ?_
  exact zr_qi (S := Sum ((Int32 × (Nat → Int64)) × S) SX) (post := zwP post px K) (w1 := zwW cA o z w1 wx) (Sum.inl ((r9, vp_updL z 0 r9.toInt64), u9)) hx hb hr hlocks ⟨rfl, if_pos rfl, hp9⟩ hP hD hS rfl dL_placeOf_16

set_option maxHeartbeats 4000000 in
set_option maxRecDepth 100000 in
theorem c_L_files (l : Launch) (D : va_G) (cA : Nat → ClassId) (sz : Nat) (ws : va_W) (o : Nat) (z : Nat → Int64) (a0 : Nat) (fs : List Value) (hq : ws[22]? = some (a0, .inr (4, fs))) {S SX : Type} (post : Int32 → S → Prop) (w1 : S → va_W) (px : String → SX → Prop) (wx : SX → va_W) (K : Nat) (v0 : Int32) (hC : ∀ sz, vx_Met l yX4_files wsX4_files ({ frames := 7, cells := 1, slots := 6, locals := 118 }) (va_Pc [.ref a0, .int v0] (zMX D cA ws sz)) (va_Qi post (fun u => zB D (va_A ws sz) (w1 u)) (va_A ws sz)) (zXC px wx D (va_A ws sz)) 1 6 (va_A ws sz)) (hpx : ∀ E u, px E u → zex1 K E) : Met l yL_files wsL_files ({ frames := 8, cells := 1, slots := 6, locals := 139 }) (va_Pc [.ref a0, .int v0, .ref o] (zMW D cA ((o, zOut cA z) :: ws) sz)) (va_Qi (zwP post px K) (fun u => zB D (va_A ((o, zOut cA z) :: ws) sz) (zwW cA o z w1 wx u)) (va_A ((o, zOut cA z) :: ws) sz)) 1 6 (va_A ((o, zOut cA z) :: ws) sz) := by
  refine zOpenH (cc := cL_files) (maxL := 4) (ret := (some .int)) (own := RL) (by decide) rfl rfl (Nat.le_of_ble_eq_true rfl) ?_
  intro p e s m below meth c ls hx hb hr hml hts hown hlocks htab ⟨⟨⟨hZ, hP, hD0, hsz⟩, hX⟩, hN⟩ hl
  subst hsz
  have hD := hD0.self (sz := s.heap.size)
  generalize hAe : va_A ((o, zOut cA z) :: ws) s.heap.size = A at hD hX ⊢
  have hA : ∀ q : Nat, s.heap.size ≤ q → A q := fun q h => by rw [← hAe]; exact Or.inr h
  have hS : va_S A s.heap s.heap [] := va_S.rf
  have hl : lv_has ls 4 [(0, .ref a0), (1, .int (v0)), (2, .ref o)] := hl
  refine lv_aload_n hx hb dL_files_0 rfl (lv_at hl 2 rfl) ?_
  refine lv_iconst (v := nI (0)) hx hb dL_files_1 (by decide) ?_
  refine lv_aload_n hx hb dL_files_2 rfl (lv_at hl 0 rfl) ?_
  refine lv_iload_n hx hb dL_files_3 rfl (lv_at hl 1 rfl) ?_
  refine zq_T_i (n := 1) (mc := 1) (ms := 6) (As := [.int v0]) (rest := [.int (nI (0)), .ref o]) hx hb hml hts hown hZ hX hP hD hS hA (hC _) gL_files_X4_files rfl rfl ⟨rfl, rfl⟩ ⟨by decide +kernel, (Nat.le_of_ble_eq_true rfl), (Nat.le_of_ble_eq_true rfl)⟩ hq rfl hl.1 rfl (Nat.le_of_ble_eq_true rfl) ⟨(Nat.le_of_ble_eq_true rfl), (Nat.le_of_ble_eq_true rfl)⟩ rfl dL_files_4 (fun E9 ce9 q9 u9 H locs hpx9 hP hD hS hz hq1 hq2 hq3 => ?_) (fun r9 u9 H locs hp9 hP hD hS hz => ?_)
  · obtain ⟨hK, rfl⟩ := hpx E9 u9 hpx9
    refine vx_catch (own := RL) (name := eI) hown [] ⟨0, 9, 12, 20⟩ [] (by rw [htab]; rfl) (fun _ h => absurd h List.not_mem_nil) rfl (by decide) (hts (.classLink RL 20 eI) (by decide +kernel)) (va_Nw.use rfl (hZ.2 _ (zcast _ (Or.inl rfl)))) hq1 hq2 hq3 ?_
    refine lv_astore_n (lv' := [(3, .ref q9), (0, .ref a0), (1, .int (v0)), (2, .ref o)]) hx hb dL_files_12 rfl hl (by decide) rfl (fun ls hl => ?_)
    refine lv_iconst (v := nI (1)) hx hb dL_files_13 (by decide) ?_
    exact zr_qi (S := Sum ((Int32 × (Nat → Int64)) × S) SX) (post := zwP post px K) (w1 := zwW cA o z w1 wx) (Sum.inr u9) hx hb hr hlocks ⟨by rw [hK], by omega, _, hpx9⟩ hP hD hS rfl dL_files_14
  refine lv_i2l (v := (r9).toInt64) hx hb dL_files_7 rfl ?_
  refine va_last hx hb hZ.1 hP hD hS 0 4 rfl rfl (vp_in_nI (show 0 < 1 by omega) (by omega)) dL_files_8 (fun H locs hP hD hS => ?_)
  rw [nI_clamp (show 0 < 2 ^ 31 by omega)] at hP hD
  refine lv_goto (tgt := 15) hx hb dL_files_9 (by decide) ?_
  refine lv_iconst (v := nI (0)) hx hb dL_files_15 (by decide) ?_
  exact zr_qi (S := Sum ((Int32 × (Nat → Int64)) × S) SX) (post := zwP post px K) (w1 := zwW cA o z w1 wx) (Sum.inl ((r9, vp_updL z 0 r9.toInt64), u9)) hx hb hr hlocks ⟨rfl, if_pos rfl, hp9⟩ hP hD hS rfl dL_files_16

set_option maxHeartbeats 4000000 in
set_option maxRecDepth 100000 in
theorem c_L_start (l : Launch) (D : va_G) (cA : Nat → ClassId) (sz : Nat) (ws : va_W) (o : Nat) (z : Nat → Int64) (a0 : Nat) (fs : List Value) (hq : ws[22]? = some (a0, .inr (4, fs))) {S SX : Type} (post : Int32 → S → Prop) (w1 : S → va_W) (px : String → SX → Prop) (wx : SX → va_W) (K : Nat) (v0 v1 : Int32) (hC : ∀ sz, vx_Met l yX4_start wsX4_start ({ frames := 7, cells := 2, slots := 12, locals := 118 }) (va_Pc [.ref a0, .int v0, .int v1] (zMX D cA ws sz)) (va_Qi post (fun u => zB D (va_A ws sz) (w1 u)) (va_A ws sz)) (zXC px wx D (va_A ws sz)) 2 12 (va_A ws sz)) (hpx : ∀ E u, px E u → zex1 K E) : Met l yL_start wsL_start ({ frames := 8, cells := 2, slots := 12, locals := 141 }) (va_Pc [.ref a0, .int v0, .int v1, .ref o] (zMW D cA ((o, zOut cA z) :: ws) sz)) (va_Qi (zwP post px K) (fun u => zB D (va_A ((o, zOut cA z) :: ws) sz) (zwW cA o z w1 wx u)) (va_A ((o, zOut cA z) :: ws) sz)) 2 12 (va_A ((o, zOut cA z) :: ws) sz) := by
  refine zOpenH (cc := cL_start) (maxL := 5) (ret := (some .int)) (own := RL) (by decide) rfl rfl (Nat.le_of_ble_eq_true rfl) ?_
  intro p e s m below meth c ls hx hb hr hml hts hown hlocks htab ⟨⟨⟨hZ, hP, hD0, hsz⟩, hX⟩, hN⟩ hl
  subst hsz
  have hD := hD0.self (sz := s.heap.size)
  generalize hAe : va_A ((o, zOut cA z) :: ws) s.heap.size = A at hD hX ⊢
  have hA : ∀ q : Nat, s.heap.size ≤ q → A q := fun q h => by rw [← hAe]; exact Or.inr h
  have hS : va_S A s.heap s.heap [] := va_S.rf
  have hl : lv_has ls 5 [(0, .ref a0), (1, .int (v0)), (2, .int (v1)), (3, .ref o)] := hl
  refine lv_aload_n hx hb dL_start_0 rfl (lv_at hl 3 rfl) ?_
  refine lv_iconst (v := nI (0)) hx hb dL_start_1 (by decide) ?_
  refine lv_aload_n hx hb dL_start_2 rfl (lv_at hl 0 rfl) ?_
  refine lv_iload_n hx hb dL_start_3 rfl (lv_at hl 1 rfl) ?_
  refine lv_iload_n hx hb dL_start_4 rfl (lv_at hl 2 rfl) ?_
  refine zq_T_i (n := 2) (mc := 2) (ms := 12) (As := [.int v0, .int v1]) (rest := [.int (nI (0)), .ref o]) hx hb hml hts hown hZ hX hP hD hS hA (hC _) gL_start_X4_start rfl rfl ⟨rfl, rfl⟩ ⟨by decide +kernel, (Nat.le_of_ble_eq_true rfl), (Nat.le_of_ble_eq_true rfl)⟩ hq rfl hl.1 rfl (Nat.le_of_ble_eq_true rfl) ⟨(Nat.le_of_ble_eq_true rfl), (Nat.le_of_ble_eq_true rfl)⟩ rfl dL_start_5 (fun E9 ce9 q9 u9 H locs hpx9 hP hD hS hz hq1 hq2 hq3 => ?_) (fun r9 u9 H locs hp9 hP hD hS hz => ?_)
  · obtain ⟨hK, rfl⟩ := hpx E9 u9 hpx9
    refine vx_catch (own := RL) (name := eI) hown [] ⟨0, 10, 13, 20⟩ [] (by rw [htab]; rfl) (fun _ h => absurd h List.not_mem_nil) rfl (by decide) (hts (.classLink RL 20 eI) (by decide +kernel)) (va_Nw.use rfl (hZ.2 _ (zcast _ (Or.inl rfl)))) hq1 hq2 hq3 ?_
    refine lv_astore (lv' := [(4, .ref q9), (0, .ref a0), (1, .int (v0)), (2, .int (v1)), (3, .ref o)]) hx hb dL_start_13 hl (by decide) rfl (fun ls hl => ?_)
    refine lv_iconst (v := nI (1)) hx hb dL_start_15 (by decide) ?_
    exact zr_qi (S := Sum ((Int32 × (Nat → Int64)) × S) SX) (post := zwP post px K) (w1 := zwW cA o z w1 wx) (Sum.inr u9) hx hb hr hlocks ⟨by rw [hK], by omega, _, hpx9⟩ hP hD hS rfl dL_start_16
  refine lv_i2l (v := (r9).toInt64) hx hb dL_start_8 rfl ?_
  refine va_last hx hb hZ.1 hP hD hS 0 4 rfl rfl (vp_in_nI (show 0 < 1 by omega) (by omega)) dL_start_9 (fun H locs hP hD hS => ?_)
  rw [nI_clamp (show 0 < 2 ^ 31 by omega)] at hP hD
  refine lv_goto (tgt := 17) hx hb dL_start_10 (by decide) ?_
  refine lv_iconst (v := nI (0)) hx hb dL_start_17 (by decide) ?_
  exact zr_qi (S := Sum ((Int32 × (Nat → Int64)) × S) SX) (post := zwP post px K) (w1 := zwW cA o z w1 wx) (Sum.inl ((r9, vp_updL z 0 r9.toInt64), u9)) hx hb hr hlocks ⟨rfl, if_pos rfl, hp9⟩ hP hD hS rfl dL_start_18

set_option maxHeartbeats 4000000 in
set_option maxRecDepth 100000 in
theorem c_L_along (l : Launch) (D : va_G) (cA : Nat → ClassId) (sz : Nat) (ws : va_W) (o : Nat) (z : Nat → Int64) (a0 : Nat) (fs : List Value) (hq : ws[22]? = some (a0, .inr (4, fs))) {S SX : Type} (post : Int32 → S → Prop) (w1 : S → va_W) (px : String → SX → Prop) (wx : SX → va_W) (K : Nat) (v0 v1 : Int32) (hC : ∀ sz, vx_Met l yX4_along wsX4_along ({ frames := 7, cells := 2, slots := 12, locals := 118 }) (va_Pc [.ref a0, .int v0, .int v1] (zMX D cA ws sz)) (va_Qi post (fun u => zB D (va_A ws sz) (w1 u)) (va_A ws sz)) (zXC px wx D (va_A ws sz)) 2 12 (va_A ws sz)) (hpx : ∀ E u, px E u → zex1 K E) : Met l yL_along wsL_along ({ frames := 8, cells := 2, slots := 12, locals := 141 }) (va_Pc [.ref a0, .int v0, .int v1, .ref o] (zMW D cA ((o, zOut cA z) :: ws) sz)) (va_Qi (zwP post px K) (fun u => zB D (va_A ((o, zOut cA z) :: ws) sz) (zwW cA o z w1 wx u)) (va_A ((o, zOut cA z) :: ws) sz)) 2 12 (va_A ((o, zOut cA z) :: ws) sz) := by
  refine zOpenH (cc := cL_along) (maxL := 5) (ret := (some .int)) (own := RL) (by decide) rfl rfl (Nat.le_of_ble_eq_true rfl) ?_
  intro p e s m below meth c ls hx hb hr hml hts hown hlocks htab ⟨⟨⟨hZ, hP, hD0, hsz⟩, hX⟩, hN⟩ hl
  subst hsz
  have hD := hD0.self (sz := s.heap.size)
  generalize hAe : va_A ((o, zOut cA z) :: ws) s.heap.size = A at hD hX ⊢
  have hA : ∀ q : Nat, s.heap.size ≤ q → A q := fun q h => by rw [← hAe]; exact Or.inr h
  have hS : va_S A s.heap s.heap [] := va_S.rf
  have hl : lv_has ls 5 [(0, .ref a0), (1, .int (v0)), (2, .int (v1)), (3, .ref o)] := hl
  refine lv_aload_n hx hb dL_along_0 rfl (lv_at hl 3 rfl) ?_
  refine lv_iconst (v := nI (0)) hx hb dL_along_1 (by decide) ?_
  refine lv_aload_n hx hb dL_along_2 rfl (lv_at hl 0 rfl) ?_
  refine lv_iload_n hx hb dL_along_3 rfl (lv_at hl 1 rfl) ?_
  refine lv_iload_n hx hb dL_along_4 rfl (lv_at hl 2 rfl) ?_
  refine zq_T_i (n := 2) (mc := 2) (ms := 12) (As := [.int v0, .int v1]) (rest := [.int (nI (0)), .ref o]) hx hb hml hts hown hZ hX hP hD hS hA (hC _) gL_along_X4_along rfl rfl ⟨rfl, rfl⟩ ⟨by decide +kernel, (Nat.le_of_ble_eq_true rfl), (Nat.le_of_ble_eq_true rfl)⟩ hq rfl hl.1 rfl (Nat.le_of_ble_eq_true rfl) ⟨(Nat.le_of_ble_eq_true rfl), (Nat.le_of_ble_eq_true rfl)⟩ rfl dL_along_5 (fun E9 ce9 q9 u9 H locs hpx9 hP hD hS hz hq1 hq2 hq3 => ?_) (fun r9 u9 H locs hp9 hP hD hS hz => ?_)
  · obtain ⟨hK, rfl⟩ := hpx E9 u9 hpx9
    refine vx_catch (own := RL) (name := eI) hown [] ⟨0, 10, 13, 20⟩ [] (by rw [htab]; rfl) (fun _ h => absurd h List.not_mem_nil) rfl (by decide) (hts (.classLink RL 20 eI) (by decide +kernel)) (va_Nw.use rfl (hZ.2 _ (zcast _ (Or.inl rfl)))) hq1 hq2 hq3 ?_
    refine lv_astore (lv' := [(4, .ref q9), (0, .ref a0), (1, .int (v0)), (2, .int (v1)), (3, .ref o)]) hx hb dL_along_13 hl (by decide) rfl (fun ls hl => ?_)
    refine lv_iconst (v := nI (1)) hx hb dL_along_15 (by decide) ?_
    exact zr_qi (S := Sum ((Int32 × (Nat → Int64)) × S) SX) (post := zwP post px K) (w1 := zwW cA o z w1 wx) (Sum.inr u9) hx hb hr hlocks ⟨by rw [hK], by omega, _, hpx9⟩ hP hD hS rfl dL_along_16
  refine lv_i2l (v := (r9).toInt64) hx hb dL_along_8 rfl ?_
  refine va_last hx hb hZ.1 hP hD hS 0 4 rfl rfl (vp_in_nI (show 0 < 1 by omega) (by omega)) dL_along_9 (fun H locs hP hD hS => ?_)
  rw [nI_clamp (show 0 < 2 ^ 31 by omega)] at hP hD
  refine lv_goto (tgt := 17) hx hb dL_along_10 (by decide) ?_
  refine lv_iconst (v := nI (0)) hx hb dL_along_17 (by decide) ?_
  exact zr_qi (S := Sum ((Int32 × (Nat → Int64)) × S) SX) (post := zwP post px K) (w1 := zwW cA o z w1 wx) (Sum.inl ((r9, vp_updL z 0 r9.toInt64), u9)) hx hb hr hlocks ⟨rfl, if_pos rfl, hp9⟩ hP hD hS rfl dL_along_18

set_option maxHeartbeats 4000000 in
set_option maxRecDepth 100000 in
theorem c_L_drive (l : Launch) (D : va_G) (cA : Nat → ClassId) (sz : Nat) (ws : va_W) (o : Nat) (z : Nat → Int64) (a0 : Nat) (fs : List Value) (hq : ws[22]? = some (a0, .inr (4, fs))) {S SX : Type} (post : Int32 → S → Prop) (w1 : S → va_W) (px : String → SX → Prop) (wx : SX → va_W) (K : Nat) (v0 : Int32) (hC : ∀ sz, vx_Met l yX4_drive wsX4_drive ({ frames := 6, cells := 1, slots := 7, locals := 96 }) (va_Pc [.ref a0, .int v0] (zMX D cA ws sz)) (va_Qi post (fun u => zB D (va_A ws sz) (w1 u)) (va_A ws sz)) (zXC px wx D (va_A ws sz)) 1 7 (va_A ws sz)) (hpx : ∀ E u, px E u → zexAS K E) : Met l yL_drive wsL_drive ({ frames := 7, cells := 1, slots := 7, locals := 117 }) (va_Pc [.ref a0, .int v0, .ref o] (zMW D cA ((o, zOut cA z) :: ws) sz)) (va_Qi (zwP post px K) (fun u => zB D (va_A ((o, zOut cA z) :: ws) sz) (zwW cA o z w1 wx u)) (va_A ((o, zOut cA z) :: ws) sz)) 1 7 (va_A ((o, zOut cA z) :: ws) sz) := by
  refine zOpenH (cc := cL_drive) (maxL := 4) (ret := (some .int)) (own := RL) (by decide) rfl rfl (Nat.le_of_ble_eq_true rfl) ?_
  intro p e s m below meth c ls hx hb hr hml hts hown hlocks htab ⟨⟨⟨hZ, hP, hD0, hsz⟩, hX⟩, hN⟩ hl
  subst hsz
  have hD := hD0.self (sz := s.heap.size)
  generalize hAe : va_A ((o, zOut cA z) :: ws) s.heap.size = A at hD hX ⊢
  have hA : ∀ q : Nat, s.heap.size ≤ q → A q := fun q h => by rw [← hAe]; exact Or.inr h
  have hS : va_S A s.heap s.heap [] := va_S.rf
  have hl : lv_has ls 4 [(0, .ref a0), (1, .int (v0)), (2, .ref o)] := hl
  refine lv_aload_n hx hb dL_drive_0 rfl (lv_at hl 2 rfl) ?_
  refine lv_iconst (v := nI (0)) hx hb dL_drive_1 (by decide) ?_
  refine lv_aload_n hx hb dL_drive_2 rfl (lv_at hl 0 rfl) ?_
  refine lv_iload_n hx hb dL_drive_3 rfl (lv_at hl 1 rfl) ?_
  refine zq_T_i (n := 1) (mc := 1) (ms := 7) (As := [.int v0]) (rest := [.int (nI (0)), .ref o]) hx hb hml hts hown hZ hX hP hD hS hA (hC _) gL_drive_X4_drive rfl rfl ⟨rfl, rfl⟩ ⟨by decide +kernel, (Nat.le_of_ble_eq_true rfl), (Nat.le_of_ble_eq_true rfl)⟩ hq rfl hl.1 rfl (Nat.le_of_ble_eq_true rfl) ⟨(Nat.le_of_ble_eq_true rfl), (Nat.le_of_ble_eq_true rfl)⟩ rfl dL_drive_4 (fun E9 ce9 q9 u9 H locs hpx9 hP hD hS hz hq1 hq2 hq3 => ?_) (fun r9 u9 H locs hp9 hP hD hS hz => ?_)
  · rcases hpx E9 u9 hpx9 with ⟨hK, rfl⟩ | ⟨hK, rfl⟩
    · refine vx_catch (own := RL) (name := eA) hown [] ⟨0, 9, 12, 13⟩ [⟨0, 9, 15, 15⟩] (by rw [htab]; rfl) (fun _ h => absurd h List.not_mem_nil) rfl (by decide) (hts (.classLink RL 13 eA) (by decide +kernel)) (va_Nw.use rfl (hZ.2 _ (zcast _ (Or.inr (Or.inr rfl))))) hq1 hq2 hq3 ?_
      refine lv_astore_n (lv' := [(3, .ref q9), (0, .ref a0), (1, .int (v0)), (2, .ref o)]) hx hb dL_drive_12 rfl hl (by decide) rfl (fun ls hl => ?_)
      refine lv_iconst (v := nI (1)) hx hb dL_drive_13 (by decide) ?_
      exact zr_qi (S := Sum ((Int32 × (Nat → Int64)) × S) SX) (post := zwP post px K) (w1 := zwW cA o z w1 wx) (Sum.inr u9) hx hb hr hlocks ⟨by rw [hK], by omega, _, hpx9⟩ hP hD hS rfl dL_drive_14
    · refine vx_catch (own := RL) (name := eS) hown [⟨0, 9, 12, 13⟩] ⟨0, 9, 15, 15⟩ [] (by rw [htab]; rfl) (fun x9 h => by rw [List.mem_singleton.mp h]; exact Or.inr ⟨by decide, _, hts (.classLink RL 13 eA) (by decide +kernel), hN.1⟩) rfl (by decide) (hts (.classLink RL 15 eS) (by decide +kernel)) (va_Nw.use rfl (hZ.2 _ (zcast _ (Or.inr (Or.inl rfl))))) hq1 hq2 hq3 ?_
      refine lv_astore_n (lv' := [(3, .ref q9), (0, .ref a0), (1, .int (v0)), (2, .ref o)]) hx hb dL_drive_15 rfl hl (by decide) rfl (fun ls hl => ?_)
      refine lv_iconst (v := nI (2)) hx hb dL_drive_16 (by decide) ?_
      exact zr_qi (S := Sum ((Int32 × (Nat → Int64)) × S) SX) (post := zwP post px K) (w1 := zwW cA o z w1 wx) (Sum.inr u9) hx hb hr hlocks ⟨by rw [hK], by omega, _, hpx9⟩ hP hD hS rfl dL_drive_17
  refine lv_i2l (v := (r9).toInt64) hx hb dL_drive_7 rfl ?_
  refine va_last hx hb hZ.1 hP hD hS 0 4 rfl rfl (vp_in_nI (show 0 < 1 by omega) (by omega)) dL_drive_8 (fun H locs hP hD hS => ?_)
  rw [nI_clamp (show 0 < 2 ^ 31 by omega)] at hP hD
  refine lv_goto (tgt := 18) hx hb dL_drive_9 (by decide) ?_
  refine lv_iconst (v := nI (0)) hx hb dL_drive_18 (by decide) ?_
  exact zr_qi (S := Sum ((Int32 × (Nat → Int64)) × S) SX) (post := zwP post px K) (w1 := zwW cA o z w1 wx) (Sum.inl ((r9, vp_updL z 0 r9.toInt64), u9)) hx hb hr hlocks ⟨rfl, if_pos rfl, hp9⟩ hP hD hS rfl dL_drive_19

set_option maxHeartbeats 4000000 in
set_option maxRecDepth 100000 in
theorem c_L_mount (l : Launch) (D : va_G) (cA : Nat → ClassId) (sz : Nat) (ws : va_W) (o : Nat) (z : Nat → Int64) (a0 : Nat) (fs : List Value) (hq : ws[22]? = some (a0, .inr (4, fs))) {S SX : Type} (post : Int32 → S → Prop) (w1 : S → va_W) (px : String → SX → Prop) (wx : SX → va_W) (K : Nat) (v0 v1 : Int32) (hC : ∀ sz, vx_Met l yX4_mount wsX4_mount ({ frames := 7, cells := 3, slots := 18, locals := 118 }) (va_Pc [.ref a0, .int v0, .int v1] (zMX D cA ws sz)) (va_Qi post (fun u => zB D (va_A ws sz) (w1 u)) (va_A ws sz)) (zXC px wx D (va_A ws sz)) 3 18 (va_A ws sz)) (hpx : ∀ E u, px E u → zexIS K E) : Met l yL_mount wsL_mount ({ frames := 8, cells := 3, slots := 18, locals := 142 }) (va_Pc [.ref a0, .int v0, .int v1, .ref o] (zMW D cA ((o, zOut cA z) :: ws) sz)) (va_Qi (zwP post px K) (fun u => zB D (va_A ((o, zOut cA z) :: ws) sz) (zwW cA o z w1 wx u)) (va_A ((o, zOut cA z) :: ws) sz)) 3 18 (va_A ((o, zOut cA z) :: ws) sz) := by
  refine zOpenH (cc := cL_mount) (maxL := 5) (ret := (some .int)) (own := RL) (by decide) rfl rfl (Nat.le_of_ble_eq_true rfl) ?_
  intro p e s m below meth c ls hx hb hr hml hts hown hlocks htab ⟨⟨⟨hZ, hP, hD0, hsz⟩, hX⟩, hN⟩ hl
  subst hsz
  have hD := hD0.self (sz := s.heap.size)
  generalize hAe : va_A ((o, zOut cA z) :: ws) s.heap.size = A at hD hX ⊢
  have hA : ∀ q : Nat, s.heap.size ≤ q → A q := fun q h => by rw [← hAe]; exact Or.inr h
  have hS : va_S A s.heap s.heap [] := va_S.rf
  have hl : lv_has ls 5 [(0, .ref a0), (1, .int (v0)), (2, .int (v1)), (3, .ref o)] := hl
  refine lv_aload_n hx hb dL_mount_0 rfl (lv_at hl 3 rfl) ?_
  refine lv_iconst (v := nI (0)) hx hb dL_mount_1 (by decide) ?_
  refine lv_aload_n hx hb dL_mount_2 rfl (lv_at hl 0 rfl) ?_
  refine lv_iload_n hx hb dL_mount_3 rfl (lv_at hl 1 rfl) ?_
  refine lv_iload_n hx hb dL_mount_4 rfl (lv_at hl 2 rfl) ?_
  refine zq_T_i (n := 2) (mc := 3) (ms := 18) (As := [.int v0, .int v1]) (rest := [.int (nI (0)), .ref o]) hx hb hml hts hown hZ hX hP hD hS hA (hC _) gL_mount_X4_mount rfl rfl ⟨rfl, rfl⟩ ⟨by decide +kernel, (Nat.le_of_ble_eq_true rfl), (Nat.le_of_ble_eq_true rfl)⟩ hq rfl hl.1 rfl (Nat.le_of_ble_eq_true rfl) ⟨(Nat.le_of_ble_eq_true rfl), (Nat.le_of_ble_eq_true rfl)⟩ rfl dL_mount_5 (fun E9 ce9 q9 u9 H locs hpx9 hP hD hS hz hq1 hq2 hq3 => ?_) (fun r9 u9 H locs hp9 hP hD hS hz => ?_)
  · rcases hpx E9 u9 hpx9 with ⟨hK, rfl⟩ | ⟨hK, rfl⟩
    · refine vx_catch (own := RL) (name := eI) hown [] ⟨0, 10, 13, 20⟩ [⟨0, 10, 17, 15⟩] (by rw [htab]; rfl) (fun _ h => absurd h List.not_mem_nil) rfl (by decide) (hts (.classLink RL 20 eI) (by decide +kernel)) (va_Nw.use rfl (hZ.2 _ (zcast _ (Or.inl rfl)))) hq1 hq2 hq3 ?_
      refine lv_astore (lv' := [(4, .ref q9), (0, .ref a0), (1, .int (v0)), (2, .int (v1)), (3, .ref o)]) hx hb dL_mount_13 hl (by decide) rfl (fun ls hl => ?_)
      refine lv_iconst (v := nI (1)) hx hb dL_mount_15 (by decide) ?_
      exact zr_qi (S := Sum ((Int32 × (Nat → Int64)) × S) SX) (post := zwP post px K) (w1 := zwW cA o z w1 wx) (Sum.inr u9) hx hb hr hlocks ⟨by rw [hK], by omega, _, hpx9⟩ hP hD hS rfl dL_mount_16
    · refine vx_catch (own := RL) (name := eS) hown [⟨0, 10, 13, 20⟩] ⟨0, 10, 17, 15⟩ [] (by rw [htab]; rfl) (fun x9 h => by rw [List.mem_singleton.mp h]; exact Or.inr ⟨by decide, _, hts (.classLink RL 20 eI) (by decide +kernel), hN.2.1⟩) rfl (by decide) (hts (.classLink RL 15 eS) (by decide +kernel)) (va_Nw.use rfl (hZ.2 _ (zcast _ (Or.inr (Or.inl rfl))))) hq1 hq2 hq3 ?_
      refine lv_astore (lv' := [(4, .ref q9), (0, .ref a0), (1, .int (v0)), (2, .int (v1)), (3, .ref o)]) hx hb dL_mount_17 hl (by decide) rfl (fun ls hl => ?_)
      refine lv_iconst (v := nI (2)) hx hb dL_mount_19 (by decide) ?_
      exact zr_qi (S := Sum ((Int32 × (Nat → Int64)) × S) SX) (post := zwP post px K) (w1 := zwW cA o z w1 wx) (Sum.inr u9) hx hb hr hlocks ⟨by rw [hK], by omega, _, hpx9⟩ hP hD hS rfl dL_mount_20
  refine lv_i2l (v := (r9).toInt64) hx hb dL_mount_8 rfl ?_
  refine va_last hx hb hZ.1 hP hD hS 0 4 rfl rfl (vp_in_nI (show 0 < 1 by omega) (by omega)) dL_mount_9 (fun H locs hP hD hS => ?_)
  rw [nI_clamp (show 0 < 2 ^ 31 by omega)] at hP hD
  refine lv_goto (tgt := 21) hx hb dL_mount_10 (by decide) ?_
  refine lv_iconst (v := nI (0)) hx hb dL_mount_21 (by decide) ?_
  exact zr_qi (S := Sum ((Int32 × (Nat → Int64)) × S) SX) (post := zwP post px K) (w1 := zwW cA o z w1 wx) (Sum.inl ((r9, vp_updL z 0 r9.toInt64), u9)) hx hb hr hlocks ⟨rfl, if_pos rfl, hp9⟩ hP hD hS rfl dL_mount_22

set_option maxHeartbeats 4000000 in
set_option maxRecDepth 100000 in
theorem c_L_unmount (l : Launch) (D : va_G) (cA : Nat → ClassId) (sz : Nat) (ws : va_W) (o : Nat) (z : Nat → Int64) (a0 : Nat) (fs : List Value) (hq : ws[22]? = some (a0, .inr (4, fs))) {S SX : Type} (post : Int32 → S → Prop) (w1 : S → va_W) (px : String → SX → Prop) (wx : SX → va_W) (K : Nat) (v0 : Int32) (hC : ∀ sz, vx_Met l yX4_unmount wsX4_unmount ({ frames := 7, cells := 2, slots := 12, locals := 118 }) (va_Pc [.ref a0, .int v0] (zMX D cA ws sz)) (va_Qi post (fun u => zB D (va_A ws sz) (w1 u)) (va_A ws sz)) (zXC px wx D (va_A ws sz)) 2 12 (va_A ws sz)) (hpx : ∀ E u, px E u → zexIS K E) : Met l yL_unmount wsL_unmount ({ frames := 8, cells := 2, slots := 12, locals := 142 }) (va_Pc [.ref a0, .int v0, .ref o] (zMW D cA ((o, zOut cA z) :: ws) sz)) (va_Qi (zwP post px K) (fun u => zB D (va_A ((o, zOut cA z) :: ws) sz) (zwW cA o z w1 wx u)) (va_A ((o, zOut cA z) :: ws) sz)) 2 12 (va_A ((o, zOut cA z) :: ws) sz) := by
  refine zOpenH (cc := cL_unmount) (maxL := 4) (ret := (some .int)) (own := RL) (by decide) rfl rfl (Nat.le_of_ble_eq_true rfl) ?_
  intro p e s m below meth c ls hx hb hr hml hts hown hlocks htab ⟨⟨⟨hZ, hP, hD0, hsz⟩, hX⟩, hN⟩ hl
  subst hsz
  have hD := hD0.self (sz := s.heap.size)
  generalize hAe : va_A ((o, zOut cA z) :: ws) s.heap.size = A at hD hX ⊢
  have hA : ∀ q : Nat, s.heap.size ≤ q → A q := fun q h => by rw [← hAe]; exact Or.inr h
  have hS : va_S A s.heap s.heap [] := va_S.rf
  have hl : lv_has ls 4 [(0, .ref a0), (1, .int (v0)), (2, .ref o)] := hl
  refine lv_aload_n hx hb dL_unmount_0 rfl (lv_at hl 2 rfl) ?_
  refine lv_iconst (v := nI (0)) hx hb dL_unmount_1 (by decide) ?_
  refine lv_aload_n hx hb dL_unmount_2 rfl (lv_at hl 0 rfl) ?_
  refine lv_iload_n hx hb dL_unmount_3 rfl (lv_at hl 1 rfl) ?_
  refine zq_T_i (n := 1) (mc := 2) (ms := 12) (As := [.int v0]) (rest := [.int (nI (0)), .ref o]) hx hb hml hts hown hZ hX hP hD hS hA (hC _) gL_unmount_X4_unmount rfl rfl ⟨rfl, rfl⟩ ⟨by decide +kernel, (Nat.le_of_ble_eq_true rfl), (Nat.le_of_ble_eq_true rfl)⟩ hq rfl hl.1 rfl (Nat.le_of_ble_eq_true rfl) ⟨(Nat.le_of_ble_eq_true rfl), (Nat.le_of_ble_eq_true rfl)⟩ rfl dL_unmount_4 (fun E9 ce9 q9 u9 H locs hpx9 hP hD hS hz hq1 hq2 hq3 => ?_) (fun r9 u9 H locs hp9 hP hD hS hz => ?_)
  · rcases hpx E9 u9 hpx9 with ⟨hK, rfl⟩ | ⟨hK, rfl⟩
    · refine vx_catch (own := RL) (name := eI) hown [] ⟨0, 9, 12, 20⟩ [⟨0, 9, 15, 15⟩] (by rw [htab]; rfl) (fun _ h => absurd h List.not_mem_nil) rfl (by decide) (hts (.classLink RL 20 eI) (by decide +kernel)) (va_Nw.use rfl (hZ.2 _ (zcast _ (Or.inl rfl)))) hq1 hq2 hq3 ?_
      refine lv_astore_n (lv' := [(3, .ref q9), (0, .ref a0), (1, .int (v0)), (2, .ref o)]) hx hb dL_unmount_12 rfl hl (by decide) rfl (fun ls hl => ?_)
      refine lv_iconst (v := nI (1)) hx hb dL_unmount_13 (by decide) ?_
      exact zr_qi (S := Sum ((Int32 × (Nat → Int64)) × S) SX) (post := zwP post px K) (w1 := zwW cA o z w1 wx) (Sum.inr u9) hx hb hr hlocks ⟨by rw [hK], by omega, _, hpx9⟩ hP hD hS rfl dL_unmount_14
    · refine vx_catch (own := RL) (name := eS) hown [⟨0, 9, 12, 20⟩] ⟨0, 9, 15, 15⟩ [] (by rw [htab]; rfl) (fun x9 h => by rw [List.mem_singleton.mp h]; exact Or.inr ⟨by decide, _, hts (.classLink RL 20 eI) (by decide +kernel), hN.2.1⟩) rfl (by decide) (hts (.classLink RL 15 eS) (by decide +kernel)) (va_Nw.use rfl (hZ.2 _ (zcast _ (Or.inr (Or.inl rfl))))) hq1 hq2 hq3 ?_
      refine lv_astore_n (lv' := [(3, .ref q9), (0, .ref a0), (1, .int (v0)), (2, .ref o)]) hx hb dL_unmount_15 rfl hl (by decide) rfl (fun ls hl => ?_)
      refine lv_iconst (v := nI (2)) hx hb dL_unmount_16 (by decide) ?_
      exact zr_qi (S := Sum ((Int32 × (Nat → Int64)) × S) SX) (post := zwP post px K) (w1 := zwW cA o z w1 wx) (Sum.inr u9) hx hb hr hlocks ⟨by rw [hK], by omega, _, hpx9⟩ hP hD hS rfl dL_unmount_17
  refine lv_i2l (v := (r9).toInt64) hx hb dL_unmount_7 rfl ?_
  refine va_last hx hb hZ.1 hP hD hS 0 4 rfl rfl (vp_in_nI (show 0 < 1 by omega) (by omega)) dL_unmount_8 (fun H locs hP hD hS => ?_)
  rw [nI_clamp (show 0 < 2 ^ 31 by omega)] at hP hD
  refine lv_goto (tgt := 18) hx hb dL_unmount_9 (by decide) ?_
  refine lv_iconst (v := nI (0)) hx hb dL_unmount_18 (by decide) ?_
  exact zr_qi (S := Sum ((Int32 × (Nat → Int64)) × S) SX) (post := zwP post px K) (w1 := zwW cA o z w1 wx) (Sum.inl ((r9, vp_updL z 0 r9.toInt64), u9)) hx hb hr hlocks ⟨rfl, if_pos rfl, hp9⟩ hP hD hS rfl dL_unmount_19

set_option maxHeartbeats 4000000 in
set_option maxRecDepth 100000 in
theorem c_L_write (l : Launch) (D : va_G) (cA : Nat → ClassId) (sz : Nat) (ws : va_W) (o : Nat) (z : Nat → Int64) (a0 : Nat) (fs : List Value) (hq : ws[22]? = some (a0, .inr (4, fs))) {S SX : Type} (post : Int32 → S → Prop) (w1 : S → va_W) (px : String → SX → Prop) (wx : SX → va_W) (K : Nat) (v0 v1 : Int32) (hC : ∀ sz, vx_Met l yX4_write wsX4_write ({ frames := 7, cells := 4, slots := 24, locals := 118 }) (va_Pc [.ref a0, .int v0, .int v1] (zMX D cA ws sz)) (va_Qi post (fun u => zB D (va_A ws sz) (w1 u)) (va_A ws sz)) (zXC px wx D (va_A ws sz)) 4 24 (va_A ws sz)) (hpx : ∀ E u, px E u → zexIAS K E) : Met l yL_write wsL_write ({ frames := 8, cells := 4, slots := 24, locals := 143 }) (va_Pc [.ref a0, .int v0, .int v1, .ref o] (zMW D cA ((o, zOut cA z) :: ws) sz)) (va_Qi (zwP post px K) (fun u => zB D (va_A ((o, zOut cA z) :: ws) sz) (zwW cA o z w1 wx u)) (va_A ((o, zOut cA z) :: ws) sz)) 4 24 (va_A ((o, zOut cA z) :: ws) sz) := by
  refine zOpenH (cc := cL_write) (maxL := 5) (ret := (some .int)) (own := RL) (by decide) rfl rfl (Nat.le_of_ble_eq_true rfl) ?_
  intro p e s m below meth c ls hx hb hr hml hts hown hlocks htab ⟨⟨⟨hZ, hP, hD0, hsz⟩, hX⟩, hN⟩ hl
  subst hsz
  have hD := hD0.self (sz := s.heap.size)
  generalize hAe : va_A ((o, zOut cA z) :: ws) s.heap.size = A at hD hX ⊢
  have hA : ∀ q : Nat, s.heap.size ≤ q → A q := fun q h => by rw [← hAe]; exact Or.inr h
  have hS : va_S A s.heap s.heap [] := va_S.rf
  have hl : lv_has ls 5 [(0, .ref a0), (1, .int (v0)), (2, .int (v1)), (3, .ref o)] := hl
  refine lv_aload_n hx hb dL_write_0 rfl (lv_at hl 3 rfl) ?_
  refine lv_iconst (v := nI (0)) hx hb dL_write_1 (by decide) ?_
  refine lv_aload_n hx hb dL_write_2 rfl (lv_at hl 0 rfl) ?_
  refine lv_iload_n hx hb dL_write_3 rfl (lv_at hl 1 rfl) ?_
  refine lv_iload_n hx hb dL_write_4 rfl (lv_at hl 2 rfl) ?_
  refine zq_T_i (n := 2) (mc := 4) (ms := 24) (As := [.int v0, .int v1]) (rest := [.int (nI (0)), .ref o]) hx hb hml hts hown hZ hX hP hD hS hA (hC _) gL_write_X4_write rfl rfl ⟨rfl, rfl⟩ ⟨by decide +kernel, (Nat.le_of_ble_eq_true rfl), (Nat.le_of_ble_eq_true rfl)⟩ hq rfl hl.1 rfl (Nat.le_of_ble_eq_true rfl) ⟨(Nat.le_of_ble_eq_true rfl), (Nat.le_of_ble_eq_true rfl)⟩ rfl dL_write_5 (fun E9 ce9 q9 u9 H locs hpx9 hP hD hS hz hq1 hq2 hq3 => ?_) (fun r9 u9 H locs hp9 hP hD hS hz => ?_)
  · rcases hpx E9 u9 hpx9 with ⟨hK, rfl⟩ | ⟨hK, rfl⟩ | ⟨hK, rfl⟩
    · refine vx_catch (own := RL) (name := eI) hown [] ⟨0, 10, 13, 20⟩ [⟨0, 10, 17, 13⟩, ⟨0, 10, 21, 15⟩] (by rw [htab]; rfl) (fun _ h => absurd h List.not_mem_nil) rfl (by decide) (hts (.classLink RL 20 eI) (by decide +kernel)) (va_Nw.use rfl (hZ.2 _ (zcast _ (Or.inl rfl)))) hq1 hq2 hq3 ?_
      refine lv_astore (lv' := [(4, .ref q9), (0, .ref a0), (1, .int (v0)), (2, .int (v1)), (3, .ref o)]) hx hb dL_write_13 hl (by decide) rfl (fun ls hl => ?_)
      refine lv_iconst (v := nI (1)) hx hb dL_write_15 (by decide) ?_
      exact zr_qi (S := Sum ((Int32 × (Nat → Int64)) × S) SX) (post := zwP post px K) (w1 := zwW cA o z w1 wx) (Sum.inr u9) hx hb hr hlocks ⟨by rw [hK], by omega, _, hpx9⟩ hP hD hS rfl dL_write_16
    · refine vx_catch (own := RL) (name := eA) hown [⟨0, 10, 13, 20⟩] ⟨0, 10, 17, 13⟩ [⟨0, 10, 21, 15⟩] (by rw [htab]; rfl) (fun x9 h => by rw [List.mem_singleton.mp h]; exact Or.inr ⟨by decide, _, hts (.classLink RL 20 eI) (by decide +kernel), hN.2.2⟩) rfl (by decide) (hts (.classLink RL 13 eA) (by decide +kernel)) (va_Nw.use rfl (hZ.2 _ (zcast _ (Or.inr (Or.inr rfl))))) hq1 hq2 hq3 ?_
      refine lv_astore (lv' := [(4, .ref q9), (0, .ref a0), (1, .int (v0)), (2, .int (v1)), (3, .ref o)]) hx hb dL_write_17 hl (by decide) rfl (fun ls hl => ?_)
      refine lv_iconst (v := nI (2)) hx hb dL_write_19 (by decide) ?_
      exact zr_qi (S := Sum ((Int32 × (Nat → Int64)) × S) SX) (post := zwP post px K) (w1 := zwW cA o z w1 wx) (Sum.inr u9) hx hb hr hlocks ⟨by rw [hK], by omega, _, hpx9⟩ hP hD hS rfl dL_write_20
    · refine vx_catch (own := RL) (name := eS) hown [⟨0, 10, 13, 20⟩, ⟨0, 10, 17, 13⟩] ⟨0, 10, 21, 15⟩ [] (by rw [htab]; rfl) (fun x9 h => (List.mem_cons.mp h).elim (fun h => by rw [h]; exact Or.inr ⟨by decide, _, hts (.classLink RL 20 eI) (by decide +kernel), hN.2.1⟩) (fun h => by rw [List.mem_singleton.mp h]; exact Or.inr ⟨by decide, _, hts (.classLink RL 13 eA) (by decide +kernel), hN.1⟩)) rfl (by decide) (hts (.classLink RL 15 eS) (by decide +kernel)) (va_Nw.use rfl (hZ.2 _ (zcast _ (Or.inr (Or.inl rfl))))) hq1 hq2 hq3 ?_
      refine lv_astore (lv' := [(4, .ref q9), (0, .ref a0), (1, .int (v0)), (2, .int (v1)), (3, .ref o)]) hx hb dL_write_21 hl (by decide) rfl (fun ls hl => ?_)
      refine lv_iconst (v := nI (3)) hx hb dL_write_23 (by decide) ?_
      exact zr_qi (S := Sum ((Int32 × (Nat → Int64)) × S) SX) (post := zwP post px K) (w1 := zwW cA o z w1 wx) (Sum.inr u9) hx hb hr hlocks ⟨by rw [hK], by omega, _, hpx9⟩ hP hD hS rfl dL_write_24
  refine lv_i2l (v := (r9).toInt64) hx hb dL_write_8 rfl ?_
  refine va_last hx hb hZ.1 hP hD hS 0 4 rfl rfl (vp_in_nI (show 0 < 1 by omega) (by omega)) dL_write_9 (fun H locs hP hD hS => ?_)
  rw [nI_clamp (show 0 < 2 ^ 31 by omega)] at hP hD
  refine lv_goto (tgt := 25) hx hb dL_write_10 (by decide) ?_
  refine lv_iconst (v := nI (0)) hx hb dL_write_25 (by decide) ?_
  exact zr_qi (S := Sum ((Int32 × (Nat → Int64)) × S) SX) (post := zwP post px K) (w1 := zwW cA o z w1 wx) (Sum.inl ((r9, vp_updL z 0 r9.toInt64), u9)) hx hb hr hlocks ⟨rfl, if_pos rfl, hp9⟩ hP hD hS rfl dL_write_26

set_option maxHeartbeats 4000000 in
set_option maxRecDepth 100000 in
theorem c_L_read (l : Launch) (D : va_G) (cA : Nat → ClassId) (sz : Nat) (ws : va_W) (o : Nat) (z : Nat → Int64) (a0 : Nat) (fs : List Value) (hq : ws[22]? = some (a0, .inr (4, fs))) {S SX : Type} (post : Int32 → S → Prop) (w1 : S → va_W) (px : String → SX → Prop) (wx : SX → va_W) (K : Nat) (v0 v1 : Int32) (hC : ∀ sz, vx_Met l yX4_read wsX4_read ({ frames := 7, cells := 4, slots := 24, locals := 118 }) (va_Pc [.ref a0, .int v0, .int v1] (zMX D cA ws sz)) (va_Qi post (fun u => zB D (va_A ws sz) (w1 u)) (va_A ws sz)) (zXC px wx D (va_A ws sz)) 4 24 (va_A ws sz)) (hpx : ∀ E u, px E u → zexIS K E) : Met l yL_read wsL_read ({ frames := 8, cells := 4, slots := 24, locals := 142 }) (va_Pc [.ref a0, .int v0, .int v1, .ref o] (zMW D cA ((o, zOut cA z) :: ws) sz)) (va_Qi (zwP post px K) (fun u => zB D (va_A ((o, zOut cA z) :: ws) sz) (zwW cA o z w1 wx u)) (va_A ((o, zOut cA z) :: ws) sz)) 4 24 (va_A ((o, zOut cA z) :: ws) sz) := by
  refine zOpenH (cc := cL_read) (maxL := 5) (ret := (some .int)) (own := RL) (by decide) rfl rfl (Nat.le_of_ble_eq_true rfl) ?_
  intro p e s m below meth c ls hx hb hr hml hts hown hlocks htab ⟨⟨⟨hZ, hP, hD0, hsz⟩, hX⟩, hN⟩ hl
  subst hsz
  have hD := hD0.self (sz := s.heap.size)
  generalize hAe : va_A ((o, zOut cA z) :: ws) s.heap.size = A at hD hX ⊢
  have hA : ∀ q : Nat, s.heap.size ≤ q → A q := fun q h => by rw [← hAe]; exact Or.inr h
  have hS : va_S A s.heap s.heap [] := va_S.rf
  have hl : lv_has ls 5 [(0, .ref a0), (1, .int (v0)), (2, .int (v1)), (3, .ref o)] := hl
  refine lv_aload_n hx hb dL_read_0 rfl (lv_at hl 3 rfl) ?_
  refine lv_iconst (v := nI (0)) hx hb dL_read_1 (by decide) ?_
  refine lv_aload_n hx hb dL_read_2 rfl (lv_at hl 0 rfl) ?_
  refine lv_iload_n hx hb dL_read_3 rfl (lv_at hl 1 rfl) ?_
  refine lv_iload_n hx hb dL_read_4 rfl (lv_at hl 2 rfl) ?_
  refine zq_T_i (n := 2) (mc := 4) (ms := 24) (As := [.int v0, .int v1]) (rest := [.int (nI (0)), .ref o]) hx hb hml hts hown hZ hX hP hD hS hA (hC _) gL_read_X4_read rfl rfl ⟨rfl, rfl⟩ ⟨by decide +kernel, (Nat.le_of_ble_eq_true rfl), (Nat.le_of_ble_eq_true rfl)⟩ hq rfl hl.1 rfl (Nat.le_of_ble_eq_true rfl) ⟨(Nat.le_of_ble_eq_true rfl), (Nat.le_of_ble_eq_true rfl)⟩ rfl dL_read_5 (fun E9 ce9 q9 u9 H locs hpx9 hP hD hS hz hq1 hq2 hq3 => ?_) (fun r9 u9 H locs hp9 hP hD hS hz => ?_)
  · rcases hpx E9 u9 hpx9 with ⟨hK, rfl⟩ | ⟨hK, rfl⟩
    · refine vx_catch (own := RL) (name := eI) hown [] ⟨0, 10, 13, 20⟩ [⟨0, 10, 17, 15⟩] (by rw [htab]; rfl) (fun _ h => absurd h List.not_mem_nil) rfl (by decide) (hts (.classLink RL 20 eI) (by decide +kernel)) (va_Nw.use rfl (hZ.2 _ (zcast _ (Or.inl rfl)))) hq1 hq2 hq3 ?_
      refine lv_astore (lv' := [(4, .ref q9), (0, .ref a0), (1, .int (v0)), (2, .int (v1)), (3, .ref o)]) hx hb dL_read_13 hl (by decide) rfl (fun ls hl => ?_)
      refine lv_iconst (v := nI (1)) hx hb dL_read_15 (by decide) ?_
      exact zr_qi (S := Sum ((Int32 × (Nat → Int64)) × S) SX) (post := zwP post px K) (w1 := zwW cA o z w1 wx) (Sum.inr u9) hx hb hr hlocks ⟨by rw [hK], by omega, _, hpx9⟩ hP hD hS rfl dL_read_16
    · refine vx_catch (own := RL) (name := eS) hown [⟨0, 10, 13, 20⟩] ⟨0, 10, 17, 15⟩ [] (by rw [htab]; rfl) (fun x9 h => by rw [List.mem_singleton.mp h]; exact Or.inr ⟨by decide, _, hts (.classLink RL 20 eI) (by decide +kernel), hN.2.1⟩) rfl (by decide) (hts (.classLink RL 15 eS) (by decide +kernel)) (va_Nw.use rfl (hZ.2 _ (zcast _ (Or.inr (Or.inl rfl))))) hq1 hq2 hq3 ?_
      refine lv_astore (lv' := [(4, .ref q9), (0, .ref a0), (1, .int (v0)), (2, .int (v1)), (3, .ref o)]) hx hb dL_read_17 hl (by decide) rfl (fun ls hl => ?_)
      refine lv_iconst (v := nI (2)) hx hb dL_read_19 (by decide) ?_
      exact zr_qi (S := Sum ((Int32 × (Nat → Int64)) × S) SX) (post := zwP post px K) (w1 := zwW cA o z w1 wx) (Sum.inr u9) hx hb hr hlocks ⟨by rw [hK], by omega, _, hpx9⟩ hP hD hS rfl dL_read_20
  refine lv_i2l (v := (r9).toInt64) hx hb dL_read_8 rfl ?_
  refine va_last hx hb hZ.1 hP hD hS 0 4 rfl rfl (vp_in_nI (show 0 < 1 by omega) (by omega)) dL_read_9 (fun H locs hP hD hS => ?_)
  rw [nI_clamp (show 0 < 2 ^ 31 by omega)] at hP hD
  refine lv_goto (tgt := 21) hx hb dL_read_10 (by decide) ?_
  refine lv_iconst (v := nI (0)) hx hb dL_read_21 (by decide) ?_
  exact zr_qi (S := Sum ((Int32 × (Nat → Int64)) × S) SX) (post := zwP post px K) (w1 := zwW cA o z w1 wx) (Sum.inl ((r9, vp_updL z 0 r9.toInt64), u9)) hx hb hr hlocks ⟨rfl, if_pos rfl, hp9⟩ hP hD hS rfl dL_read_22
