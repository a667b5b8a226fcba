set_option maxHeartbeats 4000000 in
set_option maxRecDepth 100000 in
theorem c_L_told_0 (l : Launch) (D : va_G) (cA : Nat → ClassId) (sz : Nat) (ws : va_W) (a0 : Nat) (fs : List Value) (hq : ws[0]? = some (a0, .inr (4, fs))) {S SX : Type} (post : Int32 → S → Prop) (w1 : S → va_W) (px : String → SX → Prop) (wx : SX → va_W) (K : Nat) (v0 v1 : Int32) (hC : ∀ sz, vx_Met l yX4_placeOf wsX4_placeOf ({ frames := 7, cells := 1, slots := 6, locals := 118 }) (va_Pc [.ref a0, .int v0] (zMX D cA ws sz)) (va_Qi post (fun u => zB D (va_A ws sz) (w1 u)) (va_A ws sz)) (zXC px wx D (va_A ws sz)) 1 6 (va_A ws sz)) (hpx : ∀ E u, px E u → zex1 K E) : Met l yL_told wsL_told ({ frames := 8, cells := 1, slots := 6, locals := 141 }) (va_Pc [.ref a0, .int (nI (0)), .int v0, .int v1] (zMW D cA ws sz)) (va_Qi (zwP post px K) (fun u => zB D (va_A ws sz) (zwW w1 wx u)) (va_A ws sz)) 1 6 (va_A ws sz) := by
  refine zOpenH (cc := cL_told) (maxL := 5) (ret := (some .int)) (own := RL) (by decide) rfl rfl (Nat.le_of_ble_eq_true rfl) ?_
  intro p e s m below meth c ls hx hb hr hml hts hown hlocks htab ⟨⟨⟨hZ, hP, hD0, hsz⟩, hX⟩, hN⟩ hl
  subst hsz
  have hD := hD0.self (sz := s.heap.size)
  generalize hAe : va_A ws s.heap.size = A at hD hX ⊢
  have hA : ∀ q : Nat, s.heap.size ≤ q → A q := fun q h => by rw [← hAe]; exact Or.inr h
  have hS : va_S A s.heap s.heap [] := va_S.rf
  have hl : lv_has ls 5 [(0, .ref a0), (1, .int (nI (0))), (2, .int (v0)), (3, .int (v1))] := hl
  refine lv_iload_n hx hb dL_told_0 rfl (lv_at hl 1 rfl) ?_
  refine zf_ne (tgt := 12) hx hb (by omega) dL_told_1 (by decide) (fun c_1 => False.elim (by omega)) (fun c_1 => ?_)
  refine lv_aload_n hx hb dL_told_4 rfl (lv_at hl 0 rfl) ?_
  refine lv_iload_n hx hb dL_told_5 rfl (lv_at hl 2 rfl) ?_
  refine ze_T_i (n := 1) (mc := 1) (ms := 6) (As := [.int v0]) (rest := []) hx hb hml hts hown hZ hX hP hD hS hA (hC _) gL_told_X4_placeOf rfl rfl ⟨rfl, rfl⟩ ⟨by decide +kernel, (Nat.le_of_ble_eq_true rfl), (Nat.le_of_ble_eq_true rfl)⟩ hq rfl hl.1 rfl (Nat.le_of_ble_eq_true rfl) ⟨(Nat.le_of_ble_eq_true rfl), (Nat.le_of_ble_eq_true rfl)⟩ rfl dL_told_6 (fun E9 ce9 q9 u9 H locs hpx9 hP hD hS hz hq1 hq2 hq3 => ?_) (fun r9 u9 H locs hp9 hP hD hS hz => ?_)
  · obtain ⟨hK, rfl⟩ := hpx E9 u9 hpx9
    refine vx_catch (own := RL) (name := eI) hown [] ⟨0, 84, 85, 42⟩ [] (by rw [htab]; rfl) (fun _ h => absurd h List.not_mem_nil) rfl (by decide) (hts (.classLink RL 42 eI) (by decide +kernel)) (va_Nw.use rfl (hZ.2 _ (zcast _ (Or.inl rfl)))) hq1 hq2 hq3 ?_
    refine lv_astore (lv' := [(4, .ref q9), (0, .ref a0), (1, .int (nI (0))), (2, .int (v0)), (3, .int (v1))]) hx hb dL_told_85 hl (by decide) rfl (fun ls hl => ?_)
    refine lv_bipush (v := (-101)) hx hb dL_told_87 (by decide) ?_
    exact zr_qi (S := Sum S SX) (post := zwP post px K) (w1 := zwW w1 wx) (Sum.inr u9) hx hb hr hlocks ⟨by rw [hK]; rfl, by omega, _, hpx9⟩ hP hD hS rfl dL_told_89
  refine lv_goto (tgt := 84) hx hb dL_told_9 (by decide) ?_
  exact zr_qi (S := Sum S SX) (post := zwP post px K) (w1 := zwW w1 wx) (Sum.inl u9) hx hb hr hlocks hp9 hP hD hS rfl dL_told_84

set_option maxHeartbeats 4000000 in
set_option maxRecDepth 100000 in
theorem c_L_told_1 (l : Launch) (D : va_G) (cA : Nat → ClassId) (sz : Nat) (ws : va_W) (a0 : Nat) (fs : List Value) (hq : ws[0]? = some (a0, .inr (4, fs))) {S SX : Type} (post : Int32 → S → Prop) (w1 : S → va_W) (px : String → SX → Prop) (wx : SX → va_W) (K : Nat) (v0 v1 : Int32) (hC : ∀ sz, vx_Met l yX4_files wsX4_files ({ frames := 7, cells := 1, slots := 6, locals := 118 }) (va_Pc [.ref a0, .int v0] (zMX D cA ws sz)) (va_Qi post (fun u => zB D (va_A ws sz) (w1 u)) (va_A ws sz)) (zXC px wx D (va_A ws sz)) 1 6 (va_A ws sz)) (hpx : ∀ E u, px E u → zex1 K E) : Met l yL_told wsL_told ({ frames := 8, cells := 1, slots := 6, locals := 141 }) (va_Pc [.ref a0, .int (nI (1)), .int v0, .int v1] (zMW D cA ws sz)) (va_Qi (zwP post px K) (fun u => zB D (va_A ws sz) (zwW w1 wx u)) (va_A ws sz)) 1 6 (va_A ws sz) := by
  refine zOpenH (cc := cL_told) (maxL := 5) (ret := (some .int)) (own := RL) (by decide) rfl rfl (Nat.le_of_ble_eq_true rfl) ?_
  intro p e s m below meth c ls hx hb hr hml hts hown hlocks htab ⟨⟨⟨hZ, hP, hD0, hsz⟩, hX⟩, hN⟩ hl
  subst hsz
  have hD := hD0.self (sz := s.heap.size)
  generalize hAe : va_A ws s.heap.size = A at hD hX ⊢
  have hA : ∀ q : Nat, s.heap.size ≤ q → A q := fun q h => by rw [← hAe]; exact Or.inr h
  have hS : va_S A s.heap s.heap [] := va_S.rf
  have hl : lv_has ls 5 [(0, .ref a0), (1, .int (nI (1))), (2, .int (v0)), (3, .int (v1))] := hl
  refine lv_iload_n hx hb dL_told_0 rfl (lv_at hl 1 rfl) ?_
  refine zf_ne (tgt := 12) hx hb (by omega) dL_told_1 (by decide) (fun c_1 => ?_) (fun c_1 => False.elim (by omega))
  refine lv_iload_n hx hb dL_told_12 rfl (lv_at hl 1 rfl) ?_
  refine lv_iconst (v := nI (1)) hx hb dL_told_13 (by decide) ?_
  refine zc_ne (tgt := 25) hx hb (by omega) (by omega) dL_told_14 (by decide) (fun c_2 => False.elim (by omega)) (fun c_2 => ?_)
  refine lv_aload_n hx hb dL_told_17 rfl (lv_at hl 0 rfl) ?_
  refine lv_iload_n hx hb dL_told_18 rfl (lv_at hl 2 rfl) ?_
  refine ze_T_i (n := 1) (mc := 1) (ms := 6) (As := [.int v0]) (rest := []) hx hb hml hts hown hZ hX hP hD hS hA (hC _) gL_told_X4_files rfl rfl ⟨rfl, rfl⟩ ⟨by decide +kernel, (Nat.le_of_ble_eq_true rfl), (Nat.le_of_ble_eq_true rfl)⟩ hq rfl hl.1 rfl (Nat.le_of_ble_eq_true rfl) ⟨(Nat.le_of_ble_eq_true rfl), (Nat.le_of_ble_eq_true rfl)⟩ rfl dL_told_19 (fun E9 ce9 q9 u9 H locs hpx9 hP hD hS hz hq1 hq2 hq3 => ?_) (fun r9 u9 H locs hp9 hP hD hS hz => ?_)
  · obtain ⟨hK, rfl⟩ := hpx E9 u9 hpx9
    refine vx_catch (own := RL) (name := eI) hown [] ⟨0, 84, 85, 42⟩ [] (by rw [htab]; rfl) (fun _ h => absurd h List.not_mem_nil) rfl (by decide) (hts (.classLink RL 42 eI) (by decide +kernel)) (va_Nw.use rfl (hZ.2 _ (zcast _ (Or.inl rfl)))) hq1 hq2 hq3 ?_
    refine lv_astore (lv' := [(4, .ref q9), (0, .ref a0), (1, .int (nI (1))), (2, .int (v0)), (3, .int (v1))]) hx hb dL_told_85 hl (by decide) rfl (fun ls hl => ?_)
    refine lv_bipush (v := (-101)) hx hb dL_told_87 (by decide) ?_
    exact zr_qi (S := Sum S SX) (post := zwP post px K) (w1 := zwW w1 wx) (Sum.inr u9) hx hb hr hlocks ⟨by rw [hK]; rfl, by omega, _, hpx9⟩ hP hD hS rfl dL_told_89
  refine lv_goto (tgt := 84) hx hb dL_told_22 (by decide) ?_
  exact zr_qi (S := Sum S SX) (post := zwP post px K) (w1 := zwW w1 wx) (Sum.inl u9) hx hb hr hlocks hp9 hP hD hS rfl dL_told_84

set_option maxHeartbeats 4000000 in
set_option maxRecDepth 100000 in
theorem c_L_told_2 (l : Launch) (D : va_G) (cA : Nat → ClassId) (sz : Nat) (ws : va_W) (a0 : Nat) (fs : List Value) (hq : ws[0]? = some (a0, .inr (4, fs))) {S SX : Type} (post : Int32 → S → Prop) (w1 : S → va_W) (px : String → SX → Prop) (wx : SX → va_W) (K : Nat) (v0 v1 : Int32) (hC : ∀ sz, vx_Met l yX4_start wsX4_start ({ frames := 7, cells := 2, slots := 12, locals := 118 }) (va_Pc [.ref a0, .int v0, .int v1] (zMX D cA ws sz)) (va_Qi post (fun u => zB D (va_A ws sz) (w1 u)) (va_A ws sz)) (zXC px wx D (va_A ws sz)) 2 12 (va_A ws sz)) (hpx : ∀ E u, px E u → zex1 K E) : Met l yL_told wsL_told ({ frames := 8, cells := 2, slots := 12, locals := 141 }) (va_Pc [.ref a0, .int (nI (2)), .int v0, .int v1] (zMW D cA ws sz)) (va_Qi (zwP post px K) (fun u => zB D (va_A ws sz) (zwW w1 wx u)) (va_A ws sz)) 2 12 (va_A ws sz) := by
  refine zOpenH (cc := cL_told) (maxL := 5) (ret := (some .int)) (own := RL) (by decide) rfl rfl (Nat.le_of_ble_eq_true rfl) ?_
  intro p e s m below meth c ls hx hb hr hml hts hown hlocks htab ⟨⟨⟨hZ, hP, hD0, hsz⟩, hX⟩, hN⟩ hl
  subst hsz
  have hD := hD0.self (sz := s.heap.size)
  generalize hAe : va_A ws s.heap.size = A at hD hX ⊢
  have hA : ∀ q : Nat, s.heap.size ≤ q → A q := fun q h => by rw [← hAe]; exact Or.inr h
  have hS : va_S A s.heap s.heap [] := va_S.rf
  have hl : lv_has ls 5 [(0, .ref a0), (1, .int (nI (2))), (2, .int (v0)), (3, .int (v1))] := hl
  refine lv_iload_n hx hb dL_told_0 rfl (lv_at hl 1 rfl) ?_
  refine zf_ne (tgt := 12) hx hb (by omega) dL_told_1 (by decide) (fun c_1 => ?_) (fun c_1 => False.elim (by omega))
  refine lv_iload_n hx hb dL_told_12 rfl (lv_at hl 1 rfl) ?_
  refine lv_iconst (v := nI (1)) hx hb dL_told_13 (by decide) ?_
  refine zc_ne (tgt := 25) hx hb (by omega) (by omega) dL_told_14 (by decide) (fun c_2 => ?_) (fun c_2 => False.elim (by omega))
  refine lv_iload_n hx hb dL_told_25 rfl (lv_at hl 1 rfl) ?_
  refine lv_iconst (v := nI (2)) hx hb dL_told_26 (by decide) ?_
  refine zc_ne (tgt := 39) hx hb (by omega) (by omega) dL_told_27 (by decide) (fun c_3 => False.elim (by omega)) (fun c_3 => ?_)
  refine lv_aload_n hx hb dL_told_30 rfl (lv_at hl 0 rfl) ?_
  refine lv_iload_n hx hb dL_told_31 rfl (lv_at hl 2 rfl) ?_
  refine lv_iload_n hx hb dL_told_32 rfl (lv_at hl 3 rfl) ?_
  refine ze_T_i (n := 2) (mc := 2) (ms := 12) (As := [.int v0, .int v1]) (rest := []) hx hb hml hts hown hZ hX hP hD hS hA (hC _) gL_told_X4_start rfl rfl ⟨rfl, rfl⟩ ⟨by decide +kernel, (Nat.le_of_ble_eq_true rfl), (Nat.le_of_ble_eq_true rfl)⟩ hq rfl hl.1 rfl (Nat.le_of_ble_eq_true rfl) ⟨(Nat.le_of_ble_eq_true rfl), (Nat.le_of_ble_eq_true rfl)⟩ rfl dL_told_33 (fun E9 ce9 q9 u9 H locs hpx9 hP hD hS hz hq1 hq2 hq3 => ?_) (fun r9 u9 H locs hp9 hP hD hS hz => ?_)
  · obtain ⟨hK, rfl⟩ := hpx E9 u9 hpx9
    refine vx_catch (own := RL) (name := eI) hown [] ⟨0, 84, 85, 42⟩ [] (by rw [htab]; rfl) (fun _ h => absurd h List.not_mem_nil) rfl (by decide) (hts (.classLink RL 42 eI) (by decide +kernel)) (va_Nw.use rfl (hZ.2 _ (zcast _ (Or.inl rfl)))) hq1 hq2 hq3 ?_
    refine lv_astore (lv' := [(4, .ref q9), (0, .ref a0), (1, .int (nI (2))), (2, .int (v0)), (3, .int (v1))]) hx hb dL_told_85 hl (by decide) rfl (fun ls hl => ?_)
    refine lv_bipush (v := (-101)) hx hb dL_told_87 (by decide) ?_
    exact zr_qi (S := Sum S SX) (post := zwP post px K) (w1 := zwW w1 wx) (Sum.inr u9) hx hb hr hlocks ⟨by rw [hK]; rfl, by omega, _, hpx9⟩ hP hD hS rfl dL_told_89
  refine lv_goto (tgt := 84) hx hb dL_told_36 (by decide) ?_
  exact zr_qi (S := Sum S SX) (post := zwP post px K) (w1 := zwW w1 wx) (Sum.inl u9) hx hb hr hlocks hp9 hP hD hS rfl dL_told_84

set_option maxHeartbeats 4000000 in
set_option maxRecDepth 100000 in
theorem c_L_told_3 (l : Launch) (D : va_G) (cA : Nat → ClassId) (sz : Nat) (ws : va_W) (a0 : Nat) (fs : List Value) (hq : ws[0]? = some (a0, .inr (4, fs))) {S SX : Type} (post : Int32 → S → Prop) (w1 : S → va_W) (px : String → SX → Prop) (wx : SX → va_W) (K : Nat) (v0 v1 : Int32) (hC : ∀ sz, vx_Met l yX4_along wsX4_along ({ frames := 7, cells := 2, slots := 12, locals := 118 }) (va_Pc [.ref a0, .int v0, .int v1] (zMX D cA ws sz)) (va_Qi post (fun u => zB D (va_A ws sz) (w1 u)) (va_A ws sz)) (zXC px wx D (va_A ws sz)) 2 12 (va_A ws sz)) (hpx : ∀ E u, px E u → zex1 K E) : Met l yL_told wsL_told ({ frames := 8, cells := 2, slots := 12, locals := 141 }) (va_Pc [.ref a0, .int (nI (3)), .int v0, .int v1] (zMW D cA ws sz)) (va_Qi (zwP post px K) (fun u => zB D (va_A ws sz) (zwW w1 wx u)) (va_A ws sz)) 2 12 (va_A ws sz) := by
  refine zOpenH (cc := cL_told) (maxL := 5) (ret := (some .int)) (own := RL) (by decide) rfl rfl (Nat.le_of_ble_eq_true rfl) ?_
  intro p e s m below meth c ls hx hb hr hml hts hown hlocks htab ⟨⟨⟨hZ, hP, hD0, hsz⟩, hX⟩, hN⟩ hl
  subst hsz
  have hD := hD0.self (sz := s.heap.size)
  generalize hAe : va_A ws s.heap.size = A at hD hX ⊢
  have hA : ∀ q : Nat, s.heap.size ≤ q → A q := fun q h => by rw [← hAe]; exact Or.inr h
  have hS : va_S A s.heap s.heap [] := va_S.rf
  have hl : lv_has ls 5 [(0, .ref a0), (1, .int (nI (3))), (2, .int (v0)), (3, .int (v1))] := hl
  refine lv_iload_n hx hb dL_told_0 rfl (lv_at hl 1 rfl) ?_
  refine zf_ne (tgt := 12) hx hb (by omega) dL_told_1 (by decide) (fun c_1 => ?_) (fun c_1 => False.elim (by omega))
  refine lv_iload_n hx hb dL_told_12 rfl (lv_at hl 1 rfl) ?_
  refine lv_iconst (v := nI (1)) hx hb dL_told_13 (by decide) ?_
  refine zc_ne (tgt := 25) hx hb (by omega) (by omega) dL_told_14 (by decide) (fun c_2 => ?_) (fun c_2 => False.elim (by omega))
  refine lv_iload_n hx hb dL_told_25 rfl (lv_at hl 1 rfl) ?_
  refine lv_iconst (v := nI (2)) hx hb dL_told_26 (by decide) ?_
  refine zc_ne (tgt := 39) hx hb (by omega) (by omega) dL_told_27 (by decide) (fun c_3 => ?_) (fun c_3 => False.elim (by omega))
  refine lv_iload_n hx hb dL_told_39 rfl (lv_at hl 1 rfl) ?_
  refine lv_iconst (v := nI (3)) hx hb dL_told_40 (by decide) ?_
  refine zc_ne (tgt := 53) hx hb (by omega) (by omega) dL_told_41 (by decide) (fun c_4 => False.elim (by omega)) (fun c_4 => ?_)
  refine lv_aload_n hx hb dL_told_44 rfl (lv_at hl 0 rfl) ?_
  refine lv_iload_n hx hb dL_told_45 rfl (lv_at hl 2 rfl) ?_
  refine lv_iload_n hx hb dL_told_46 rfl (lv_at hl 3 rfl) ?_
  refine ze_T_i (n := 2) (mc := 2) (ms := 12) (As := [.int v0, .int v1]) (rest := []) hx hb hml hts hown hZ hX hP hD hS hA (hC _) gL_told_X4_along rfl rfl ⟨rfl, rfl⟩ ⟨by decide +kernel, (Nat.le_of_ble_eq_true rfl), (Nat.le_of_ble_eq_true rfl)⟩ hq rfl hl.1 rfl (Nat.le_of_ble_eq_true rfl) ⟨(Nat.le_of_ble_eq_true rfl), (Nat.le_of_ble_eq_true rfl)⟩ rfl dL_told_47 (fun E9 ce9 q9 u9 H locs hpx9 hP hD hS hz hq1 hq2 hq3 => ?_) (fun r9 u9 H locs hp9 hP hD hS hz => ?_)
  · obtain ⟨hK, rfl⟩ := hpx E9 u9 hpx9
    refine vx_catch (own := RL) (name := eI) hown [] ⟨0, 84, 85, 42⟩ [] (by rw [htab]; rfl) (fun _ h => absurd h List.not_mem_nil) rfl (by decide) (hts (.classLink RL 42 eI) (by decide +kernel)) (va_Nw.use rfl (hZ.2 _ (zcast _ (Or.inl rfl)))) hq1 hq2 hq3 ?_
    refine lv_astore (lv' := [(4, .ref q9), (0, .ref a0), (1, .int (nI (3))), (2, .int (v0)), (3, .int (v1))]) hx hb dL_told_85 hl (by decide) rfl (fun ls hl => ?_)
    refine lv_bipush (v := (-101)) hx hb dL_told_87 (by decide) ?_
    exact zr_qi (S := Sum S SX) (post := zwP post px K) (w1 := zwW w1 wx) (Sum.inr u9) hx hb hr hlocks ⟨by rw [hK]; rfl, by omega, _, hpx9⟩ hP hD hS rfl dL_told_89
  refine lv_goto (tgt := 84) hx hb dL_told_50 (by decide) ?_
  exact zr_qi (S := Sum S SX) (post := zwP post px K) (w1 := zwW w1 wx) (Sum.inl u9) hx hb hr hlocks hp9 hP hD hS rfl dL_told_84

set_option maxHeartbeats 4000000 in
set_option maxRecDepth 100000 in
theorem c_L_told_4 (l : Launch) (D : va_G) (cA : Nat → ClassId) (sz : Nat) (ws : va_W) (a0 : Nat) (fs : List Value) (hq : ws[0]? = some (a0, .inr (4, fs))) {S SX : Type} (post : Int32 → S → Prop) (w1 : S → va_W) (px : String → SX → Prop) (wx : SX → va_W) (K : Nat) (v0 v1 : Int32) (hC : ∀ sz, vx_Met l yX4_waiting wsX4_waiting ({ frames := 7, cells := 1, slots := 6, locals := 118 }) (va_Pc [.ref a0, .int v0] (zMX D cA ws sz)) (va_Qi post (fun u => zB D (va_A ws sz) (w1 u)) (va_A ws sz)) (zXC px wx D (va_A ws sz)) 1 6 (va_A ws sz)) (hpx : ∀ E u, px E u → zex1 K E) : Met l yL_told wsL_told ({ frames := 8, cells := 1, slots := 6, locals := 141 }) (va_Pc [.ref a0, .int (nI (4)), .int v0, .int v1] (zMW D cA ws sz)) (va_Qi (zwP post px K) (fun u => zB D (va_A ws sz) (zwW w1 wx u)) (va_A ws sz)) 1 6 (va_A ws sz) := by
  refine zOpenH (cc := cL_told) (maxL := 5) (ret := (some .int)) (own := RL) (by decide) rfl rfl (Nat.le_of_ble_eq_true rfl) ?_
  intro p e s m below meth c ls hx hb hr hml hts hown hlocks htab ⟨⟨⟨hZ, hP, hD0, hsz⟩, hX⟩, hN⟩ hl
  subst hsz
  have hD := hD0.self (sz := s.heap.size)
  generalize hAe : va_A ws s.heap.size = A at hD hX ⊢
  have hA : ∀ q : Nat, s.heap.size ≤ q → A q := fun q h => by rw [← hAe]; exact Or.inr h
  have hS : va_S A s.heap s.heap [] := va_S.rf
  have hl : lv_has ls 5 [(0, .ref a0), (1, .int (nI (4))), (2, .int (v0)), (3, .int (v1))] := hl
  refine lv_iload_n hx hb dL_told_0 rfl (lv_at hl 1 rfl) ?_
  refine zf_ne (tgt := 12) hx hb (by omega) dL_told_1 (by decide) (fun c_1 => ?_) (fun c_1 => False.elim (by omega))
  refine lv_iload_n hx hb dL_told_12 rfl (lv_at hl 1 rfl) ?_
  refine lv_iconst (v := nI (1)) hx hb dL_told_13 (by decide) ?_
  refine zc_ne (tgt := 25) hx hb (by omega) (by omega) dL_told_14 (by decide) (fun c_2 => ?_) (fun c_2 => False.elim (by omega))
  refine lv_iload_n hx hb dL_told_25 rfl (lv_at hl 1 rfl) ?_
  refine lv_iconst (v := nI (2)) hx hb dL_told_26 (by decide) ?_
  refine zc_ne (tgt := 39) hx hb (by omega) (by omega) dL_told_27 (by decide) (fun c_3 => ?_) (fun c_3 => False.elim (by omega))
  refine lv_iload_n hx hb dL_told_39 rfl (lv_at hl 1 rfl) ?_
  refine lv_iconst (v := nI (3)) hx hb dL_told_40 (by decide) ?_
  refine zc_ne (tgt := 53) hx hb (by omega) (by omega) dL_told_41 (by decide) (fun c_4 => ?_) (fun c_4 => False.elim (by omega))
  refine lv_iload_n hx hb dL_told_53 rfl (lv_at hl 1 rfl) ?_
  refine lv_iconst (v := nI (4)) hx hb dL_told_54 (by decide) ?_
  refine zc_ne (tgt := 66) hx hb (by omega) (by omega) dL_told_55 (by decide) (fun c_5 => False.elim (by omega)) (fun c_5 => ?_)
  refine lv_aload_n hx hb dL_told_58 rfl (lv_at hl 0 rfl) ?_
  refine lv_iload_n hx hb dL_told_59 rfl (lv_at hl 2 rfl) ?_
  refine ze_T_i (n := 1) (mc := 1) (ms := 6) (As := [.int v0]) (rest := []) hx hb hml hts hown hZ hX hP hD hS hA (hC _) gL_told_X4_waiting rfl rfl ⟨rfl, rfl⟩ ⟨by decide +kernel, (Nat.le_of_ble_eq_true rfl), (Nat.le_of_ble_eq_true rfl)⟩ hq rfl hl.1 rfl (Nat.le_of_ble_eq_true rfl) ⟨(Nat.le_of_ble_eq_true rfl), (Nat.le_of_ble_eq_true rfl)⟩ rfl dL_told_60 (fun E9 ce9 q9 u9 H locs hpx9 hP hD hS hz hq1 hq2 hq3 => ?_) (fun r9 u9 H locs hp9 hP hD hS hz => ?_)
  · obtain ⟨hK, rfl⟩ := hpx E9 u9 hpx9
    refine vx_catch (own := RL) (name := eI) hown [] ⟨0, 84, 85, 42⟩ [] (by rw [htab]; rfl) (fun _ h => absurd h List.not_mem_nil) rfl (by decide) (hts (.classLink RL 42 eI) (by decide +kernel)) (va_Nw.use rfl (hZ.2 _ (zcast _ (Or.inl rfl)))) hq1 hq2 hq3 ?_
    refine lv_astore (lv' := [(4, .ref q9), (0, .ref a0), (1, .int (nI (4))), (2, .int (v0)), (3, .int (v1))]) hx hb dL_told_85 hl (by decide) rfl (fun ls hl => ?_)
    refine lv_bipush (v := (-101)) hx hb dL_told_87 (by decide) ?_
    exact zr_qi (S := Sum S SX) (post := zwP post px K) (w1 := zwW w1 wx) (Sum.inr u9) hx hb hr hlocks ⟨by rw [hK]; rfl, by omega, _, hpx9⟩ hP hD hS rfl dL_told_89
  refine lv_goto (tgt := 84) hx hb dL_told_63 (by decide) ?_
  exact zr_qi (S := Sum S SX) (post := zwP post px K) (w1 := zwW w1 wx) (Sum.inl u9) hx hb hr hlocks hp9 hP hD hS rfl dL_told_84

set_option maxHeartbeats 4000000 in
set_option maxRecDepth 100000 in
theorem c_L_told_5 (l : Launch) (D : va_G) (cA : Nat → ClassId) (sz : Nat) (ws : va_W) (a0 : Nat) (fs : List Value) (hq : ws[0]? = some (a0, .inr (4, fs))) {S SX : Type} (post : Int32 → S → Prop) (w1 : S → va_W) (px : String → SX → Prop) (wx : SX → va_W) (K : Nat) (v0 v1 : Int32) (hC : ∀ sz, vx_Met l yX4_clock wsX4_clock ({ frames := 7, cells := 1, slots := 6, locals := 118 }) (va_Pc [.ref a0, .int v0] (zMX D cA ws sz)) (va_Qi post (fun u => zB D (va_A ws sz) (w1 u)) (va_A ws sz)) (zXC px wx D (va_A ws sz)) 1 6 (va_A ws sz)) (hpx : ∀ E u, px E u → zex1 K E) : Met l yL_told wsL_told ({ frames := 8, cells := 1, slots := 6, locals := 141 }) (va_Pc [.ref a0, .int (nI (5)), .int v0, .int v1] (zMW D cA ws sz)) (va_Qi (zwP post px K) (fun u => zB D (va_A ws sz) (zwW w1 wx u)) (va_A ws sz)) 1 6 (va_A ws sz) := by
  refine zOpenH (cc := cL_told) (maxL := 5) (ret := (some .int)) (own := RL) (by decide) rfl rfl (Nat.le_of_ble_eq_true rfl) ?_
  intro p e s m below meth c ls hx hb hr hml hts hown hlocks htab ⟨⟨⟨hZ, hP, hD0, hsz⟩, hX⟩, hN⟩ hl
  subst hsz
  have hD := hD0.self (sz := s.heap.size)
  generalize hAe : va_A ws s.heap.size = A at hD hX ⊢
  have hA : ∀ q : Nat, s.heap.size ≤ q → A q := fun q h => by rw [← hAe]; exact Or.inr h
  have hS : va_S A s.heap s.heap [] := va_S.rf
  have hl : lv_has ls 5 [(0, .ref a0), (1, .int (nI (5))), (2, .int (v0)), (3, .int (v1))] := hl
  refine lv_iload_n hx hb dL_told_0 rfl (lv_at hl 1 rfl) ?_
  refine zf_ne (tgt := 12) hx hb (by omega) dL_told_1 (by decide) (fun c_1 => ?_) (fun c_1 => False.elim (by omega))
  refine lv_iload_n hx hb dL_told_12 rfl (lv_at hl 1 rfl) ?_
  refine lv_iconst (v := nI (1)) hx hb dL_told_13 (by decide) ?_
  refine zc_ne (tgt := 25) hx hb (by omega) (by omega) dL_told_14 (by decide) (fun c_2 => ?_) (fun c_2 => False.elim (by omega))
  refine lv_iload_n hx hb dL_told_25 rfl (lv_at hl 1 rfl) ?_
  refine lv_iconst (v := nI (2)) hx hb dL_told_26 (by decide) ?_
  refine zc_ne (tgt := 39) hx hb (by omega) (by omega) dL_told_27 (by decide) (fun c_3 => ?_) (fun c_3 => False.elim (by omega))
  refine lv_iload_n hx hb dL_told_39 rfl (lv_at hl 1 rfl) ?_
  refine lv_iconst (v := nI (3)) hx hb dL_told_40 (by decide) ?_
  refine zc_ne (tgt := 53) hx hb (by omega) (by omega) dL_told_41 (by decide) (fun c_4 => ?_) (fun c_4 => False.elim (by omega))
  refine lv_iload_n hx hb dL_told_53 rfl (lv_at hl 1 rfl) ?_
  refine lv_iconst (v := nI (4)) hx hb dL_told_54 (by decide) ?_
  refine zc_ne (tgt := 66) hx hb (by omega) (by omega) dL_told_55 (by decide) (fun c_5 => ?_) (fun c_5 => False.elim (by omega))
  refine lv_iload_n hx hb dL_told_66 rfl (lv_at hl 1 rfl) ?_
  refine lv_iconst (v := nI (5)) hx hb dL_told_67 (by decide) ?_
  refine zc_ne (tgt := 79) hx hb (by omega) (by omega) dL_told_68 (by decide) (fun c_6 => False.elim (by omega)) (fun c_6 => ?_)
  refine lv_aload_n hx hb dL_told_71 rfl (lv_at hl 0 rfl) ?_
  refine lv_iload_n hx hb dL_told_72 rfl (lv_at hl 2 rfl) ?_
  refine ze_T_i (n := 1) (mc := 1) (ms := 6) (As := [.int v0]) (rest := []) hx hb hml hts hown hZ hX hP hD hS hA (hC _) gL_told_X4_clock rfl rfl ⟨rfl, rfl⟩ ⟨by decide +kernel, (Nat.le_of_ble_eq_true rfl), (Nat.le_of_ble_eq_true rfl)⟩ hq rfl hl.1 rfl (Nat.le_of_ble_eq_true rfl) ⟨(Nat.le_of_ble_eq_true rfl), (Nat.le_of_ble_eq_true rfl)⟩ rfl dL_told_73 (fun E9 ce9 q9 u9 H locs hpx9 hP hD hS hz hq1 hq2 hq3 => ?_) (fun r9 u9 H locs hp9 hP hD hS hz => ?_)
  · obtain ⟨hK, rfl⟩ := hpx E9 u9 hpx9
    refine vx_catch (own := RL) (name := eI) hown [] ⟨0, 84, 85, 42⟩ [] (by rw [htab]; rfl) (fun _ h => absurd h List.not_mem_nil) rfl (by decide) (hts (.classLink RL 42 eI) (by decide +kernel)) (va_Nw.use rfl (hZ.2 _ (zcast _ (Or.inl rfl)))) hq1 hq2 hq3 ?_
    refine lv_astore (lv' := [(4, .ref q9), (0, .ref a0), (1, .int (nI (5))), (2, .int (v0)), (3, .int (v1))]) hx hb dL_told_85 hl (by decide) rfl (fun ls hl => ?_)
    refine lv_bipush (v := (-101)) hx hb dL_told_87 (by decide) ?_
    exact zr_qi (S := Sum S SX) (post := zwP post px K) (w1 := zwW w1 wx) (Sum.inr u9) hx hb hr hlocks ⟨by rw [hK]; rfl, by omega, _, hpx9⟩ hP hD hS rfl dL_told_89
  refine lv_goto (tgt := 84) hx hb dL_told_76 (by decide) ?_
  exact zr_qi (S := Sum S SX) (post := zwP post px K) (w1 := zwW w1 wx) (Sum.inl u9) hx hb hr hlocks hp9 hP hD hS rfl dL_told_84

set_option maxHeartbeats 4000000 in
set_option maxRecDepth 100000 in
theorem c_L_told_6 (l : Launch) (D : va_G) (cA : Nat → ClassId) (sz : Nat) (ws : va_W) (a0 : Nat) (fs : List Value) (hq : ws[0]? = some (a0, .inr (4, fs))) {S SX : Type} (post : Int32 → S → Prop) (w1 : S → va_W) (px : String → SX → Prop) (wx : SX → va_W) (K : Nat) (v0 v1 : Int32) (hC : ∀ sz, vx_Met l yX4_stands wsX4_stands ({ frames := 7, cells := 1, slots := 6, locals := 118 }) (va_Pc [.ref a0, .int v0] (zMX D cA ws sz)) (va_Qi post (fun u => zB D (va_A ws sz) (w1 u)) (va_A ws sz)) (zXC px wx D (va_A ws sz)) 1 6 (va_A ws sz)) (hpx : ∀ E u, px E u → zex1 K E) : Met l yL_told wsL_told ({ frames := 8, cells := 1, slots := 6, locals := 141 }) (va_Pc [.ref a0, .int (nI (6)), .int v0, .int v1] (zMW D cA ws sz)) (va_Qi (zwP post px K) (fun u => zB D (va_A ws sz) (zwW w1 wx u)) (va_A ws sz)) 1 6 (va_A ws sz) := by
  refine zOpenH (cc := cL_told) (maxL := 5) (ret := (some .int)) (own := RL) (by decide) rfl rfl (Nat.le_of_ble_eq_true rfl) ?_
  intro p e s m below meth c ls hx hb hr hml hts hown hlocks htab ⟨⟨⟨hZ, hP, hD0, hsz⟩, hX⟩, hN⟩ hl
  subst hsz
  have hD := hD0.self (sz := s.heap.size)
  generalize hAe : va_A ws s.heap.size = A at hD hX ⊢
  have hA : ∀ q : Nat, s.heap.size ≤ q → A q := fun q h => by rw [← hAe]; exact Or.inr h
  have hS : va_S A s.heap s.heap [] := va_S.rf
  have hl : lv_has ls 5 [(0, .ref a0), (1, .int (nI (6))), (2, .int (v0)), (3, .int (v1))] := hl
  refine lv_iload_n hx hb dL_told_0 rfl (lv_at hl 1 rfl) ?_
  refine zf_ne (tgt := 12) hx hb (by omega) dL_told_1 (by decide) (fun c_1 => ?_) (fun c_1 => False.elim (by omega))
  refine lv_iload_n hx hb dL_told_12 rfl (lv_at hl 1 rfl) ?_
  refine lv_iconst (v := nI (1)) hx hb dL_told_13 (by decide) ?_
  refine zc_ne (tgt := 25) hx hb (by omega) (by omega) dL_told_14 (by decide) (fun c_2 => ?_) (fun c_2 => False.elim (by omega))
  refine lv_iload_n hx hb dL_told_25 rfl (lv_at hl 1 rfl) ?_
  refine lv_iconst (v := nI (2)) hx hb dL_told_26 (by decide) ?_
  refine zc_ne (tgt := 39) hx hb (by omega) (by omega) dL_told_27 (by decide) (fun c_3 => ?_) (fun c_3 => False.elim (by omega))
  refine lv_iload_n hx hb dL_told_39 rfl (lv_at hl 1 rfl) ?_
  refine lv_iconst (v := nI (3)) hx hb dL_told_40 (by decide) ?_
  refine zc_ne (tgt := 53) hx hb (by omega) (by omega) dL_told_41 (by decide) (fun c_4 => ?_) (fun c_4 => False.elim (by omega))
  refine lv_iload_n hx hb dL_told_53 rfl (lv_at hl 1 rfl) ?_
  refine lv_iconst (v := nI (4)) hx hb dL_told_54 (by decide) ?_
  refine zc_ne (tgt := 66) hx hb (by omega) (by omega) dL_told_55 (by decide) (fun c_5 => ?_) (fun c_5 => False.elim (by omega))
  refine lv_iload_n hx hb dL_told_66 rfl (lv_at hl 1 rfl) ?_
  refine lv_iconst (v := nI (5)) hx hb dL_told_67 (by decide) ?_
  refine zc_ne (tgt := 79) hx hb (by omega) (by omega) dL_told_68 (by decide) (fun c_6 => ?_) (fun c_6 => False.elim (by omega))
  refine lv_aload_n hx hb dL_told_79 rfl (lv_at hl 0 rfl) ?_
  refine lv_iload_n hx hb dL_told_80 rfl (lv_at hl 2 rfl) ?_
  refine ze_T_i (n := 1) (mc := 1) (ms := 6) (As := [.int v0]) (rest := []) hx hb hml hts hown hZ hX hP hD hS hA (hC _) gL_told_X4_stands rfl rfl ⟨rfl, rfl⟩ ⟨by decide +kernel, (Nat.le_of_ble_eq_true rfl), (Nat.le_of_ble_eq_true rfl)⟩ hq rfl hl.1 rfl (Nat.le_of_ble_eq_true rfl) ⟨(Nat.le_of_ble_eq_true rfl), (Nat.le_of_ble_eq_true rfl)⟩ rfl dL_told_81 (fun E9 ce9 q9 u9 H locs hpx9 hP hD hS hz hq1 hq2 hq3 => ?_) (fun r9 u9 H locs hp9 hP hD hS hz => ?_)
  · obtain ⟨hK, rfl⟩ := hpx E9 u9 hpx9
    refine vx_catch (own := RL) (name := eI) hown [] ⟨0, 84, 85, 42⟩ [] (by rw [htab]; rfl) (fun _ h => absurd h List.not_mem_nil) rfl (by decide) (hts (.classLink RL 42 eI) (by decide +kernel)) (va_Nw.use rfl (hZ.2 _ (zcast _ (Or.inl rfl)))) hq1 hq2 hq3 ?_
    refine lv_astore (lv' := [(4, .ref q9), (0, .ref a0), (1, .int (nI (6))), (2, .int (v0)), (3, .int (v1))]) hx hb dL_told_85 hl (by decide) rfl (fun ls hl => ?_)
    refine lv_bipush (v := (-101)) hx hb dL_told_87 (by decide) ?_
    exact zr_qi (S := Sum S SX) (post := zwP post px K) (w1 := zwW w1 wx) (Sum.inr u9) hx hb hr hlocks ⟨by rw [hK]; rfl, by omega, _, hpx9⟩ hP hD hS rfl dL_told_89
  exact zr_qi (S := Sum S SX) (post := zwP post px K) (w1 := zwW w1 wx) (Sum.inl u9) hx hb hr hlocks hp9 hP hD hS rfl dL_told_84

set_option maxHeartbeats 4000000 in
set_option maxRecDepth 100000 in
theorem c_L_taped (l : Launch) (D : va_G) (cA : Nat → ClassId) (sz : Nat) (ws : va_W) (a0 : Nat) (fs : List Value) (hq : ws[0]? = some (a0, .inr (4, fs))) {S SX : Type} (post : Int32 → S → Prop) (w1 : S → va_W) (px : String → SX → Prop) (wx : SX → va_W) (K : Nat) (v0 v1 : Int32) (hC : ∀ sz, vx_Met l yX4_tape wsX4_tape ({ frames := 6, cells := 2, slots := 19, locals := 96 }) (va_Pc [.ref a0, .int v0, .int v1] (zMX D cA ws sz)) (va_Qi post (fun u => zB D (va_A ws sz) (w1 u)) (va_A ws sz)) (zXC px wx D (va_A ws sz)) 2 19 (va_A ws sz)) (hpx : ∀ E u, px E u → zexA K E) : Met l yL_taped wsL_taped ({ frames := 7, cells := 2, slots := 19, locals := 118 }) (va_Pc [.ref a0, .int v0, .int v1] (zMW D cA ws sz)) (va_Qi (zwP post px K) (fun u => zB D (va_A ws sz) (zwW w1 wx u)) (va_A ws sz)) 2 19 (va_A ws sz) := by
  refine zOpenH (cc := cL_taped) (maxL := 4) (ret := (some .int)) (own := RL) (by decide) rfl rfl (Nat.le_of_ble_eq_true rfl) ?_
  intro p e s m below meth c ls hx hb hr hml hts hown hlocks htab ⟨⟨⟨hZ, hP, hD0, hsz⟩, hX⟩, hN⟩ hl
  subst hsz
  have hD := hD0.self (sz := s.heap.size)
  generalize hAe : va_A ws s.heap.size = A at hD hX ⊢
  have hA : ∀ q : Nat, s.heap.size ≤ q → A q := fun q h => by rw [← hAe]; exact Or.inr h
  have hS : va_S A s.heap s.heap [] := va_S.rf
  have hl : lv_has ls 4 [(0, .ref a0), (1, .int (v0)), (2, .int (v1))] := hl
  refine lv_aload_n hx hb dL_taped_0 rfl (lv_at hl 0 rfl) ?_
  refine lv_iload_n hx hb dL_taped_1 rfl (lv_at hl 1 rfl) ?_
  refine lv_iload_n hx hb dL_taped_2 rfl (lv_at hl 2 rfl) ?_
  refine ze_T_i (n := 2) (mc := 2) (ms := 19) (As := [.int v0, .int v1]) (rest := []) hx hb hml hts hown hZ hX hP hD hS hA (hC _) gL_taped_X4_tape rfl rfl ⟨rfl, rfl⟩ ⟨by decide +kernel, (Nat.le_of_ble_eq_true rfl), (Nat.le_of_ble_eq_true rfl)⟩ hq rfl hl.1 rfl (Nat.le_of_ble_eq_true rfl) ⟨(Nat.le_of_ble_eq_true rfl), (Nat.le_of_ble_eq_true rfl)⟩ rfl dL_taped_3 (fun E9 ce9 q9 u9 H locs hpx9 hP hD hS hz hq1 hq2 hq3 => ?_) (fun r9 u9 H locs hp9 hP hD hS hz => ?_)
  · obtain ⟨hK, rfl⟩ := hpx E9 u9 hpx9
    refine vx_catch (own := RL) (name := eA) hown [] ⟨0, 6, 7, 36⟩ [] (by rw [htab]; rfl) (fun _ h => absurd h List.not_mem_nil) rfl (by decide) (hts (.classLink RL 36 eA) (by decide +kernel)) (va_Nw.use rfl (hZ.2 _ (zcast _ (Or.inr (Or.inr rfl))))) hq1 hq2 hq3 ?_
    refine lv_astore_n (lv' := [(3, .ref q9), (0, .ref a0), (1, .int (v0)), (2, .int (v1))]) hx hb dL_taped_7 rfl hl (by decide) rfl (fun ls hl => ?_)
    refine lv_bipush (v := (-101)) hx hb dL_taped_8 (by decide) ?_
    exact zr_qi (S := Sum S SX) (post := zwP post px K) (w1 := zwW w1 wx) (Sum.inr u9) hx hb hr hlocks ⟨by rw [hK]; rfl, by omega, _, hpx9⟩ hP hD hS rfl dL_taped_10
  exact zr_qi (S := Sum S SX) (post := zwP post px K) (w1 := zwW w1 wx) (Sum.inl u9) hx hb hr hlocks hp9 hP hD hS rfl dL_taped_6

set_option maxHeartbeats 4000000 in
set_option maxRecDepth 100000 in
theorem c_L_put (l : Launch) (D : va_G) (cA : Nat → ClassId) (sz : Nat) (ws : va_W) (a0 : Nat) (fs : List Value) (hq : ws[0]? = some (a0, .inr (4, fs))) {S SX : Type} (post : Int32 → S → Prop) (w1 : S → va_W) (px : String → SX → Prop) (wx : SX → va_W) (K : Nat) (v0 v1 v2 : Int32) (hC : ∀ sz, vx_Met l yX4_job wsX4_job ({ frames := 7, cells := 3, slots := 18, locals := 118 }) (va_Pc [.ref a0, .int v0, .int v1, .int v2] (zMX D cA ws sz)) (va_Qi post (fun u => zB D (va_A ws sz) (w1 u)) (va_A ws sz)) (zXC px wx D (va_A ws sz)) 3 18 (va_A ws sz)) (hpx : ∀ E u, px E u → zexIAS K E) : Met l yL_put wsL_put ({ frames := 8, cells := 3, slots := 18, locals := 142 }) (va_Pc [.ref a0, .int v0, .int v1, .int v2] (zMW D cA ws sz)) (va_Qi (zwP post px K) (fun u => zB D (va_A ws sz) (zwW w1 wx u)) (va_A ws sz)) 3 18 (va_A ws sz) := by
  refine zOpenH (cc := cL_put) (maxL := 5) (ret := (some .int)) (own := RL) (by decide) rfl rfl (Nat.le_of_ble_eq_true rfl) ?_
  intro p e s m below meth c ls hx hb hr hml hts hown hlocks htab ⟨⟨⟨hZ, hP, hD0, hsz⟩, hX⟩, hN⟩ hl
  subst hsz
  have hD := hD0.self (sz := s.heap.size)
  generalize hAe : va_A ws s.heap.size = A at hD hX ⊢
  have hA : ∀ q : Nat, s.heap.size ≤ q → A q := fun q h => by rw [← hAe]; exact Or.inr h
  have hS : va_S A s.heap s.heap [] := va_S.rf
  have hl : lv_has ls 5 [(0, .ref a0), (1, .int (v0)), (2, .int (v1)), (3, .int (v2))] := hl
  refine lv_aload_n hx hb dL_put_0 rfl (lv_at hl 0 rfl) ?_
  refine lv_iload_n hx hb dL_put_1 rfl (lv_at hl 1 rfl) ?_
  refine lv_iload_n hx hb dL_put_2 rfl (lv_at hl 2 rfl) ?_
  refine lv_iload_n hx hb dL_put_3 rfl (lv_at hl 3 rfl) ?_
  refine ze_T_i (n := 3) (mc := 3) (ms := 18) (As := [.int v0, .int v1, .int v2]) (rest := []) hx hb hml hts hown hZ hX hP hD hS hA (hC _) gL_put_X4_job rfl rfl ⟨rfl, rfl⟩ ⟨by decide +kernel, (Nat.le_of_ble_eq_true rfl), (Nat.le_of_ble_eq_true rfl)⟩ hq rfl hl.1 rfl (Nat.le_of_ble_eq_true rfl) ⟨(Nat.le_of_ble_eq_true rfl), (Nat.le_of_ble_eq_true rfl)⟩ rfl dL_put_4 (fun E9 ce9 q9 u9 H locs hpx9 hP hD hS hz hq1 hq2 hq3 => ?_) (fun r9 u9 H locs hp9 hP hD hS hz => ?_)
  · rcases hpx E9 u9 hpx9 with ⟨hK, rfl⟩ | ⟨hK, rfl⟩ | ⟨hK, rfl⟩
    · refine vx_catch (own := RL) (name := eI) hown [] ⟨0, 7, 8, 42⟩ [⟨0, 7, 13, 36⟩, ⟨0, 7, 18, 44⟩] (by rw [htab]; rfl) (fun _ h => absurd h List.not_mem_nil) rfl (by decide) (hts (.classLink RL 42 eI) (by decide +kernel)) (va_Nw.use rfl (hZ.2 _ (zcast _ (Or.inl rfl)))) hq1 hq2 hq3 ?_
      refine lv_astore (lv' := [(4, .ref q9), (0, .ref a0), (1, .int (v0)), (2, .int (v1)), (3, .int (v2))]) hx hb dL_put_8 hl (by decide) rfl (fun ls hl => ?_)
      refine lv_bipush (v := (-101)) hx hb dL_put_10 (by decide) ?_
      exact zr_qi (S := Sum S SX) (post := zwP post px K) (w1 := zwW w1 wx) (Sum.inr u9) hx hb hr hlocks ⟨by rw [hK]; rfl, by omega, _, hpx9⟩ hP hD hS rfl dL_put_12
    · refine vx_catch (own := RL) (name := eA) hown [⟨0, 7, 8, 42⟩] ⟨0, 7, 13, 36⟩ [⟨0, 7, 18, 44⟩] (by rw [htab]; rfl) (fun x9 h => by rw [List.mem_singleton.mp h]; exact Or.inr ⟨by decide, _, hts (.classLink RL 42 eI) (by decide +kernel), hN.2.2⟩) rfl (by decide) (hts (.classLink RL 36 eA) (by decide +kernel)) (va_Nw.use rfl (hZ.2 _ (zcast _ (Or.inr (Or.inr rfl))))) hq1 hq2 hq3 ?_
      refine lv_astore (lv' := [(4, .ref q9), (0, .ref a0), (1, .int (v0)), (2, .int (v1)), (3, .int (v2))]) hx hb dL_put_13 hl (by decide) rfl (fun ls hl => ?_)
      refine lv_bipush (v := (-102)) hx hb dL_put_15 (by decide) ?_
      exact zr_qi (S := Sum S SX) (post := zwP post px K) (w1 := zwW w1 wx) (Sum.inr u9) hx hb hr hlocks ⟨by rw [hK]; rfl, by omega, _, hpx9⟩ hP hD hS rfl dL_put_17
    · refine vx_catch (own := RL) (name := eS) hown [⟨0, 7, 8, 42⟩, ⟨0, 7, 13, 36⟩] ⟨0, 7, 18, 44⟩ [] (by rw [htab]; rfl) (fun x9 h => (List.mem_cons.mp h).elim (fun h => by rw [h]; exact Or.inr ⟨by decide, _, hts (.classLink RL 42 eI) (by decide +kernel), hN.2.1⟩) (fun h => by rw [List.mem_singleton.mp h]; exact Or.inr ⟨by decide, _, hts (.classLink RL 36 eA) (by decide +kernel), hN.1⟩)) rfl (by decide) (hts (.classLink RL 44 eS) (by decide +kernel)) (va_Nw.use rfl (hZ.2 _ (zcast _ (Or.inr (Or.inl rfl))))) hq1 hq2 hq3 ?_
      refine lv_astore (lv' := [(4, .ref q9), (0, .ref a0), (1, .int (v0)), (2, .int (v1)), (3, .int (v2))]) hx hb dL_put_18 hl (by decide) rfl (fun ls hl => ?_)
      refine lv_bipush (v := (-103)) hx hb dL_put_20 (by decide) ?_
      exact zr_qi (S := Sum S SX) (post := zwP post px K) (w1 := zwW w1 wx) (Sum.inr u9) hx hb hr hlocks ⟨by rw [hK]; rfl, by omega, _, hpx9⟩ hP hD hS rfl dL_put_22
  exact zr_qi (S := Sum S SX) (post := zwP post px K) (w1 := zwW w1 wx) (Sum.inl u9) hx hb hr hlocks hp9 hP hD hS rfl dL_put_7

set_option maxHeartbeats 4000000 in
set_option maxRecDepth 100000 in
theorem c_L_added (l : Launch) (D : va_G) (cA : Nat → ClassId) (sz : Nat) (ws : va_W) (a0 : Nat) (fs : List Value) (hq : ws[0]? = some (a0, .inr (4, fs))) {S SX : Type} (post : Int32 → S → Prop) (w1 : S → va_W) (px : String → SX → Prop) (wx : SX → va_W) (K : Nat) (v0 : Int32) (hC : ∀ sz, vx_Met l yX4_drive wsX4_drive ({ frames := 6, cells := 1, slots := 7, locals := 96 }) (va_Pc [.ref a0, .int v0] (zMX D cA ws sz)) (va_Qi post (fun u => zB D (va_A ws sz) (w1 u)) (va_A ws sz)) (zXC px wx D (va_A ws sz)) 1 7 (va_A ws sz)) (hpx : ∀ E u, px E u → zexA K E) : Met l yL_added wsL_added ({ frames := 7, cells := 1, slots := 7, locals := 117 }) (va_Pc [.ref a0, .int v0] (zMW D cA ws sz)) (va_Qi (zwP post px K) (fun u => zB D (va_A ws sz) (zwW w1 wx u)) (va_A ws sz)) 1 7 (va_A ws sz) := by
  refine zOpenH (cc := cL_added) (maxL := 3) (ret := (some .int)) (own := RL) (by decide) rfl rfl (Nat.le_of_ble_eq_true rfl) ?_
  intro p e s m below meth c ls hx hb hr hml hts hown hlocks htab ⟨⟨⟨hZ, hP, hD0, hsz⟩, hX⟩, hN⟩ hl
  subst hsz
  have hD := hD0.self (sz := s.heap.size)
  generalize hAe : va_A ws s.heap.size = A at hD hX ⊢
  have hA : ∀ q : Nat, s.heap.size ≤ q → A q := fun q h => by rw [← hAe]; exact Or.inr h
  have hS : va_S A s.heap s.heap [] := va_S.rf
  have hl : lv_has ls 3 [(0, .ref a0), (1, .int (v0))] := hl
  refine lv_aload_n hx hb dL_added_0 rfl (lv_at hl 0 rfl) ?_
  refine lv_iload_n hx hb dL_added_1 rfl (lv_at hl 1 rfl) ?_
  refine ze_T_i (n := 1) (mc := 1) (ms := 7) (As := [.int v0]) (rest := []) hx hb hml hts hown hZ hX hP hD hS hA (hC _) gL_added_X4_drive rfl rfl ⟨rfl, rfl⟩ ⟨by decide +kernel, (Nat.le_of_ble_eq_true rfl), (Nat.le_of_ble_eq_true rfl)⟩ hq rfl hl.1 rfl (Nat.le_of_ble_eq_true rfl) ⟨(Nat.le_of_ble_eq_true rfl), (Nat.le_of_ble_eq_true rfl)⟩ rfl dL_added_2 (fun E9 ce9 q9 u9 H locs hpx9 hP hD hS hz hq1 hq2 hq3 => ?_) (fun r9 u9 H locs hp9 hP hD hS hz => ?_)
  · obtain ⟨hK, rfl⟩ := hpx E9 u9 hpx9
    refine vx_catch (own := RL) (name := eA) hown [] ⟨0, 5, 6, 36⟩ [] (by rw [htab]; rfl) (fun _ h => absurd h List.not_mem_nil) rfl (by decide) (hts (.classLink RL 36 eA) (by decide +kernel)) (va_Nw.use rfl (hZ.2 _ (zcast _ (Or.inr (Or.inr rfl))))) hq1 hq2 hq3 ?_
    refine lv_astore_n (lv' := [(2, .ref q9), (0, .ref a0), (1, .int (v0))]) hx hb dL_added_6 rfl hl (by decide) rfl (fun ls hl => ?_)
    refine lv_bipush (v := (-101)) hx hb dL_added_7 (by decide) ?_
    exact zr_qi (S := Sum S SX) (post := zwP post px K) (w1 := zwW w1 wx) (Sum.inr u9) hx hb hr hlocks ⟨by rw [hK]; rfl, by omega, _, hpx9⟩ hP hD hS rfl dL_added_9
  exact zr_qi (S := Sum S SX) (post := zwP post px K) (w1 := zwW w1 wx) (Sum.inl u9) hx hb hr hlocks hp9 hP hD hS rfl dL_added_5

set_option maxHeartbeats 4000000 in
set_option maxRecDepth 100000 in
theorem c_L_written (l : Launch) (D : va_G) (cA : Nat → ClassId) (sz : Nat) (ws : va_W) (a0 : Nat) (fs : List Value) (hq : ws[0]? = some (a0, .inr (4, fs))) {S SX : Type} (post : Int32 → S → Prop) (w1 : S → va_W) (px : String → SX → Prop) (wx : SX → va_W) (K : Nat) (v0 v1 : Int32) (hC : ∀ sz, vx_Met l yX4_write wsX4_write ({ frames := 7, cells := 4, slots := 24, locals := 118 }) (va_Pc [.ref a0, .int v0, .int v1] (zMX D cA ws sz)) (va_Qi post (fun u => zB D (va_A ws sz) (w1 u)) (va_A ws sz)) (zXC px wx D (va_A ws sz)) 4 24 (va_A ws sz)) (hpx : ∀ E u, px E u → zexIAS K E) : Met l yL_written wsL_written ({ frames := 8, cells := 4, slots := 24, locals := 143 }) (va_Pc [.ref a0, .int v0, .int v1] (zMW D cA ws sz)) (va_Qi (zwP post px K) (fun u => zB D (va_A ws sz) (zwW w1 wx u)) (va_A ws sz)) 4 24 (va_A ws sz) := by
  refine zOpenH (cc := cL_written) (maxL := 4) (ret := (some .int)) (own := RL) (by decide) rfl rfl (Nat.le_of_ble_eq_true rfl) ?_
  intro p e s m below meth c ls hx hb hr hml hts hown hlocks htab ⟨⟨⟨hZ, hP, hD0, hsz⟩, hX⟩, hN⟩ hl
  subst hsz
  have hD := hD0.self (sz := s.heap.size)
  generalize hAe : va_A ws s.heap.size = A at hD hX ⊢
  have hA : ∀ q : Nat, s.heap.size ≤ q → A q := fun q h => by rw [← hAe]; exact Or.inr h
  have hS : va_S A s.heap s.heap [] := va_S.rf
  have hl : lv_has ls 4 [(0, .ref a0), (1, .int (v0)), (2, .int (v1))] := hl
  refine lv_aload_n hx hb dL_written_0 rfl (lv_at hl 0 rfl) ?_
  refine lv_iload_n hx hb dL_written_1 rfl (lv_at hl 1 rfl) ?_
  refine lv_iload_n hx hb dL_written_2 rfl (lv_at hl 2 rfl) ?_
  refine ze_T_i (n := 2) (mc := 4) (ms := 24) (As := [.int v0, .int v1]) (rest := []) hx hb hml hts hown hZ hX hP hD hS hA (hC _) gL_written_X4_write rfl rfl ⟨rfl, rfl⟩ ⟨by decide +kernel, (Nat.le_of_ble_eq_true rfl), (Nat.le_of_ble_eq_true rfl)⟩ hq rfl hl.1 rfl (Nat.le_of_ble_eq_true rfl) ⟨(Nat.le_of_ble_eq_true rfl), (Nat.le_of_ble_eq_true rfl)⟩ rfl dL_written_3 (fun E9 ce9 q9 u9 H locs hpx9 hP hD hS hz hq1 hq2 hq3 => ?_) (fun r9 u9 H locs hp9 hP hD hS hz => ?_)
  · rcases hpx E9 u9 hpx9 with ⟨hK, rfl⟩ | ⟨hK, rfl⟩ | ⟨hK, rfl⟩
    · refine vx_catch (own := RL) (name := eI) hown [] ⟨0, 6, 7, 42⟩ [⟨0, 6, 11, 36⟩, ⟨0, 6, 15, 44⟩] (by rw [htab]; rfl) (fun _ h => absurd h List.not_mem_nil) rfl (by decide) (hts (.classLink RL 42 eI) (by decide +kernel)) (va_Nw.use rfl (hZ.2 _ (zcast _ (Or.inl rfl)))) hq1 hq2 hq3 ?_
      refine lv_astore_n (lv' := [(3, .ref q9), (0, .ref a0), (1, .int (v0)), (2, .int (v1))]) hx hb dL_written_7 rfl hl (by decide) rfl (fun ls hl => ?_)
      refine lv_bipush (v := (-101)) hx hb dL_written_8 (by decide) ?_
      exact zr_qi (S := Sum S SX) (post := zwP post px K) (w1 := zwW w1 wx) (Sum.inr u9) hx hb hr hlocks ⟨by rw [hK]; rfl, by omega, _, hpx9⟩ hP hD hS rfl dL_written_10
    · refine vx_catch (own := RL) (name := eA) hown [⟨0, 6, 7, 42⟩] ⟨0, 6, 11, 36⟩ [⟨0, 6, 15, 44⟩] (by rw [htab]; rfl) (fun x9 h => by rw [List.mem_singleton.mp h]; exact Or.inr ⟨by decide, _, hts (.classLink RL 42 eI) (by decide +kernel), hN.2.2⟩) rfl (by decide) (hts (.classLink RL 36 eA) (by decide +kernel)) (va_Nw.use rfl (hZ.2 _ (zcast _ (Or.inr (Or.inr rfl))))) hq1 hq2 hq3 ?_
      refine lv_astore_n (lv' := [(3, .ref q9), (0, .ref a0), (1, .int (v0)), (2, .int (v1))]) hx hb dL_written_11 rfl hl (by decide) rfl (fun ls hl => ?_)
      refine lv_bipush (v := (-102)) hx hb dL_written_12 (by decide) ?_
      exact zr_qi (S := Sum S SX) (post := zwP post px K) (w1 := zwW w1 wx) (Sum.inr u9) hx hb hr hlocks ⟨by rw [hK]; rfl, by omega, _, hpx9⟩ hP hD hS rfl dL_written_14
    · refine vx_catch (own := RL) (name := eS) hown [⟨0, 6, 7, 42⟩, ⟨0, 6, 11, 36⟩] ⟨0, 6, 15, 44⟩ [] (by rw [htab]; rfl) (fun x9 h => (List.mem_cons.mp h).elim (fun h => by rw [h]; exact Or.inr ⟨by decide, _, hts (.classLink RL 42 eI) (by decide +kernel), hN.2.1⟩) (fun h => by rw [List.mem_singleton.mp h]; exact Or.inr ⟨by decide, _, hts (.classLink RL 36 eA) (by decide +kernel), hN.1⟩)) rfl (by decide) (hts (.classLink RL 44 eS) (by decide +kernel)) (va_Nw.use rfl (hZ.2 _ (zcast _ (Or.inr (Or.inl rfl))))) hq1 hq2 hq3 ?_
      refine lv_astore_n (lv' := [(3, .ref q9), (0, .ref a0), (1, .int (v0)), (2, .int (v1))]) hx hb dL_written_15 rfl hl (by decide) rfl (fun ls hl => ?_)
      refine lv_bipush (v := (-103)) hx hb dL_written_16 (by decide) ?_
      exact zr_qi (S := Sum S SX) (post := zwP post px K) (w1 := zwW w1 wx) (Sum.inr u9) hx hb hr hlocks ⟨by rw [hK]; rfl, by omega, _, hpx9⟩ hP hD hS rfl dL_written_18
  exact zr_qi (S := Sum S SX) (post := zwP post px K) (w1 := zwW w1 wx) (Sum.inl u9) hx hb hr hlocks hp9 hP hD hS rfl dL_written_6
