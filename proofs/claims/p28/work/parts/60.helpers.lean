set_option maxHeartbeats 4000000 in
set_option maxRecDepth 100000 in
theorem c_L_two_0 (l : Launch) (D : va_G) (cA : Nat → ClassId) (sz : Nat) (ws : va_W) (a0 : Nat) (fs : List Value) (hq : ws[0]? = some (a0, .inr (4, fs))) {S SX : Type} (post : Int32 → S → Prop) (w1 : S → va_W) (px : String → SX → Prop) (wx : SX → va_W) (K : Nat) (v0 v1 : Int32) (hC : ∀ sz, vx_Met l yX4_carry wsX4_carry ({ frames := 7, cells := 2, slots := 12, locals := 118 }) (va_Pc [.ref a0, .int v0, .int v1] (zMX D cA ws sz)) (va_Qi post (fun u => zB D (va_A ws sz) (w1 u)) (va_A ws sz)) (zXC px wx D (va_A ws sz)) 2 12 (va_A ws sz)) (hpx : ∀ E u, px E u → zexIS K E) : Met l yL_two wsL_two ({ frames := 9, cells := 2, slots := 12, locals := 164 }) (va_Pc [.ref a0, .int (nI (0)), .int v0, .int v1] (zMW D cA ws sz)) (va_Qi (zwP post px K) (fun u => zB D (va_A ws sz) (zwW w1 wx u)) (va_A ws sz)) 2 12 (va_A ws sz) := by
  refine zOpenH (cc := cL_two) (maxL := 5) (ret := (some .int)) (own := RL) (by decide) rfl rfl (Nat.le_of_ble_eq_true rfl) ?_
  intro p e s m below meth c ls hx hb hr hml hts hown hlocks htab ⟨⟨⟨hZ, hP, hD0, hsz⟩, hX⟩, hN⟩ hl
  subst hsz
  have hD := hD0.self (sz := s.heap.size)
  generalize hAe : va_A ws s.heap.size = A at hD hX ⊢
  have hA : ∀ q : Nat, s.heap.size ≤ q → A q := fun q h => by rw [← hAe]; exact Or.inr h
  have hS : va_S A s.heap s.heap [] := va_S.rf
  have hl : lv_has ls 5 [(0, .ref a0), (1, .int (nI (0))), (2, .int (v0)), (3, .int (v1))] := hl
  refine lv_iload_n hx hb dL_two_0 rfl (lv_at hl 1 rfl) ?_
  refine zf_ne (tgt := 13) hx hb (by omega) dL_two_1 (by decide) (fun c_1 => False.elim (by omega)) (fun c_1 => ?_)
  refine lv_aload_n hx hb dL_two_4 rfl (lv_at hl 0 rfl) ?_
  refine lv_iload_n hx hb dL_two_5 rfl (lv_at hl 2 rfl) ?_
  refine lv_iload_n hx hb dL_two_6 rfl (lv_at hl 3 rfl) ?_
  refine ze_T_i (n := 2) (mc := 2) (ms := 12) (As := [.int v0, .int v1]) (rest := []) hx hb hml hts hown hZ hX hP hD hS hA (hC _) gL_two_X4_carry rfl rfl ⟨rfl, rfl⟩ ⟨by decide +kernel, (Nat.le_of_ble_eq_true rfl), (Nat.le_of_ble_eq_true rfl)⟩ hq rfl hl.1 rfl (Nat.le_of_ble_eq_true rfl) ⟨(Nat.le_of_ble_eq_true rfl), (Nat.le_of_ble_eq_true rfl)⟩ rfl dL_two_7 (fun E9 ce9 q9 u9 H locs hpx9 hP hD hS hz hq1 hq2 hq3 => ?_) (fun r9 u9 H locs hp9 hP hD hS hz => ?_)
  · rcases hpx E9 u9 hpx9 with ⟨hK, rfl⟩ | ⟨hK, rfl⟩
    · refine vx_catch (own := RL) (name := eI) hown [] ⟨0, 47, 48, 42⟩ [⟨0, 47, 53, 44⟩] (by rw [htab]; rfl) (fun _ h => absurd h List.not_mem_nil) rfl (by decide) (hts (.classLink RL 42 eI) (by decide +kernel)) (va_Nw.use rfl (hZ.2 _ (zcast _ (Or.inl rfl)))) hq1 hq2 hq3 ?_
      refine lv_astore (lv' := [(4, .ref q9), (0, .ref a0), (1, .int (nI (0))), (2, .int (v0)), (3, .int (v1))]) hx hb dL_two_48 hl (by decide) rfl (fun ls hl => ?_)
      refine lv_bipush (v := (-101)) hx hb dL_two_50 (by decide) ?_
      exact zr_qi (S := Sum S SX) (post := zwP post px K) (w1 := zwW w1 wx) (Sum.inr u9) hx hb hr hlocks ⟨by rw [hK]; rfl, by omega, _, hpx9⟩ hP hD hS rfl dL_two_52
    · refine vx_catch (own := RL) (name := eS) hown [⟨0, 47, 48, 42⟩] ⟨0, 47, 53, 44⟩ [] (by rw [htab]; rfl) (fun x9 h => by rw [List.mem_singleton.mp h]; exact Or.inr ⟨by decide, _, hts (.classLink RL 42 eI) (by decide +kernel), hN.2.1⟩) rfl (by decide) (hts (.classLink RL 44 eS) (by decide +kernel)) (va_Nw.use rfl (hZ.2 _ (zcast _ (Or.inr (Or.inl rfl))))) hq1 hq2 hq3 ?_
      refine lv_astore (lv' := [(4, .ref q9), (0, .ref a0), (1, .int (nI (0))), (2, .int (v0)), (3, .int (v1))]) hx hb dL_two_53 hl (by decide) rfl (fun ls hl => ?_)
      refine lv_bipush (v := (-102)) hx hb dL_two_55 (by decide) ?_
      exact zr_qi (S := Sum S SX) (post := zwP post px K) (w1 := zwW w1 wx) (Sum.inr u9) hx hb hr hlocks ⟨by rw [hK]; rfl, by omega, _, hpx9⟩ hP hD hS rfl dL_two_57
  refine lv_goto (tgt := 47) hx hb dL_two_10 (by decide) ?_
  exact zr_qi (S := Sum S SX) (post := zwP post px K) (w1 := zwW w1 wx) (Sum.inl u9) hx hb hr hlocks hp9 hP hD hS rfl dL_two_47

set_option maxHeartbeats 4000000 in
set_option maxRecDepth 100000 in
theorem c_L_two_1 (l : Launch) (D : va_G) (cA : Nat → ClassId) (sz : Nat) (ws : va_W) (a0 : Nat) (fs : List Value) (hq : ws[0]? = some (a0, .inr (4, fs))) {S SX : Type} (post : Int32 → S → Prop) (w1 : S → va_W) (px : String → SX → Prop) (wx : SX → va_W) (K : Nat) (v0 v1 : Int32) (hC : ∀ sz, vx_Met l yX4_mount wsX4_mount ({ frames := 7, cells := 3, slots := 18, locals := 118 }) (va_Pc [.ref a0, .int v0, .int v1] (zMX D cA ws sz)) (va_Qi post (fun u => zB D (va_A ws sz) (w1 u)) (va_A ws sz)) (zXC px wx D (va_A ws sz)) 3 18 (va_A ws sz)) (hpx : ∀ E u, px E u → zexIS K E) : Met l yL_two wsL_two ({ frames := 9, cells := 3, slots := 18, locals := 164 }) (va_Pc [.ref a0, .int (nI (1)), .int v0, .int v1] (zMW D cA ws sz)) (va_Qi (zwP post px K) (fun u => zB D (va_A ws sz) (zwW w1 wx u)) (va_A ws sz)) 3 18 (va_A ws sz) := by
  refine zOpenH (cc := cL_two) (maxL := 5) (ret := (some .int)) (own := RL) (by decide) rfl rfl (Nat.le_of_ble_eq_true rfl) ?_
  intro p e s m below meth c ls hx hb hr hml hts hown hlocks htab ⟨⟨⟨hZ, hP, hD0, hsz⟩, hX⟩, hN⟩ hl
  subst hsz
  have hD := hD0.self (sz := s.heap.size)
  generalize hAe : va_A ws s.heap.size = A at hD hX ⊢
  have hA : ∀ q : Nat, s.heap.size ≤ q → A q := fun q h => by rw [← hAe]; exact Or.inr h
  have hS : va_S A s.heap s.heap [] := va_S.rf
  have hl : lv_has ls 5 [(0, .ref a0), (1, .int (nI (1))), (2, .int (v0)), (3, .int (v1))] := hl
  refine lv_iload_n hx hb dL_two_0 rfl (lv_at hl 1 rfl) ?_
  refine zf_ne (tgt := 13) hx hb (by omega) dL_two_1 (by decide) (fun c_1 => ?_) (fun c_1 => False.elim (by omega))
  refine lv_iload_n hx hb dL_two_13 rfl (lv_at hl 1 rfl) ?_
  refine lv_iconst (v := nI (1)) hx hb dL_two_14 (by decide) ?_
  refine zc_ne (tgt := 27) hx hb (by omega) (by omega) dL_two_15 (by decide) (fun c_2 => False.elim (by omega)) (fun c_2 => ?_)
  refine lv_aload_n hx hb dL_two_18 rfl (lv_at hl 0 rfl) ?_
  refine lv_iload_n hx hb dL_two_19 rfl (lv_at hl 2 rfl) ?_
  refine lv_iload_n hx hb dL_two_20 rfl (lv_at hl 3 rfl) ?_
  refine ze_T_i (n := 2) (mc := 3) (ms := 18) (As := [.int v0, .int v1]) (rest := []) hx hb hml hts hown hZ hX hP hD hS hA (hC _) gL_two_X4_mount rfl rfl ⟨rfl, rfl⟩ ⟨by decide +kernel, (Nat.le_of_ble_eq_true rfl), (Nat.le_of_ble_eq_true rfl)⟩ hq rfl hl.1 rfl (Nat.le_of_ble_eq_true rfl) ⟨(Nat.le_of_ble_eq_true rfl), (Nat.le_of_ble_eq_true rfl)⟩ rfl dL_two_21 (fun E9 ce9 q9 u9 H locs hpx9 hP hD hS hz hq1 hq2 hq3 => ?_) (fun r9 u9 H locs hp9 hP hD hS hz => ?_)
  · rcases hpx E9 u9 hpx9 with ⟨hK, rfl⟩ | ⟨hK, rfl⟩
    · refine vx_catch (own := RL) (name := eI) hown [] ⟨0, 47, 48, 42⟩ [⟨0, 47, 53, 44⟩] (by rw [htab]; rfl) (fun _ h => absurd h List.not_mem_nil) rfl (by decide) (hts (.classLink RL 42 eI) (by decide +kernel)) (va_Nw.use rfl (hZ.2 _ (zcast _ (Or.inl rfl)))) hq1 hq2 hq3 ?_
      refine lv_astore (lv' := [(4, .ref q9), (0, .ref a0), (1, .int (nI (1))), (2, .int (v0)), (3, .int (v1))]) hx hb dL_two_48 hl (by decide) rfl (fun ls hl => ?_)
      refine lv_bipush (v := (-101)) hx hb dL_two_50 (by decide) ?_
      exact zr_qi (S := Sum S SX) (post := zwP post px K) (w1 := zwW w1 wx) (Sum.inr u9) hx hb hr hlocks ⟨by rw [hK]; rfl, by omega, _, hpx9⟩ hP hD hS rfl dL_two_52
    · refine vx_catch (own := RL) (name := eS) hown [⟨0, 47, 48, 42⟩] ⟨0, 47, 53, 44⟩ [] (by rw [htab]; rfl) (fun x9 h => by rw [List.mem_singleton.mp h]; exact Or.inr ⟨by decide, _, hts (.classLink RL 42 eI) (by decide +kernel), hN.2.1⟩) rfl (by decide) (hts (.classLink RL 44 eS) (by decide +kernel)) (va_Nw.use rfl (hZ.2 _ (zcast _ (Or.inr (Or.inl rfl))))) hq1 hq2 hq3 ?_
      refine lv_astore (lv' := [(4, .ref q9), (0, .ref a0), (1, .int (nI (1))), (2, .int (v0)), (3, .int (v1))]) hx hb dL_two_53 hl (by decide) rfl (fun ls hl => ?_)
      refine lv_bipush (v := (-102)) hx hb dL_two_55 (by decide) ?_
      exact zr_qi (S := Sum S SX) (post := zwP post px K) (w1 := zwW w1 wx) (Sum.inr u9) hx hb hr hlocks ⟨by rw [hK]; rfl, by omega, _, hpx9⟩ hP hD hS rfl dL_two_57
  refine lv_goto (tgt := 47) hx hb dL_two_24 (by decide) ?_
  exact zr_qi (S := Sum S SX) (post := zwP post px K) (w1 := zwW w1 wx) (Sum.inl u9) hx hb hr hlocks hp9 hP hD hS rfl dL_two_47

set_option maxHeartbeats 4000000 in
set_option maxRecDepth 100000 in
theorem c_L_two_2 (l : Launch) (D : va_G) (cA : Nat → ClassId) (sz : Nat) (ws : va_W) (a0 : Nat) (fs : List Value) (hq : ws[0]? = some (a0, .inr (4, fs))) {S SX : Type} (post : Int32 → S → Prop) (w1 : S → va_W) (px : String → SX → Prop) (wx : SX → va_W) (K : Nat) (v0 v1 : Int32) (hC : ∀ sz, vx_Met l yX4_read wsX4_read ({ frames := 7, cells := 4, slots := 24, locals := 118 }) (va_Pc [.ref a0, .int v0, .int v1] (zMX D cA ws sz)) (va_Qi post (fun u => zB D (va_A ws sz) (w1 u)) (va_A ws sz)) (zXC px wx D (va_A ws sz)) 4 24 (va_A ws sz)) (hpx : ∀ E u, px E u → zexIS K E) : Met l yL_two wsL_two ({ frames := 9, cells := 4, slots := 24, locals := 164 }) (va_Pc [.ref a0, .int (nI (2)), .int v0, .int v1] (zMW D cA ws sz)) (va_Qi (zwP post px K) (fun u => zB D (va_A ws sz) (zwW w1 wx u)) (va_A ws sz)) 4 24 (va_A ws sz) := by
  refine zOpenH (cc := cL_two) (maxL := 5) (ret := (some .int)) (own := RL) (by decide) rfl rfl (Nat.le_of_ble_eq_true rfl) ?_
  intro p e s m below meth c ls hx hb hr hml hts hown hlocks htab ⟨⟨⟨hZ, hP, hD0, hsz⟩, hX⟩, hN⟩ hl
  subst hsz
  have hD := hD0.self (sz := s.heap.size)
  generalize hAe : va_A ws s.heap.size = A at hD hX ⊢
  have hA : ∀ q : Nat, s.heap.size ≤ q → A q := fun q h => by rw [← hAe]; exact Or.inr h
  have hS : va_S A s.heap s.heap [] := va_S.rf
  have hl : lv_has ls 5 [(0, .ref a0), (1, .int (nI (2))), (2, .int (v0)), (3, .int (v1))] := hl
  refine lv_iload_n hx hb dL_two_0 rfl (lv_at hl 1 rfl) ?_
  refine zf_ne (tgt := 13) hx hb (by omega) dL_two_1 (by decide) (fun c_1 => ?_) (fun c_1 => False.elim (by omega))
  refine lv_iload_n hx hb dL_two_13 rfl (lv_at hl 1 rfl) ?_
  refine lv_iconst (v := nI (1)) hx hb dL_two_14 (by decide) ?_
  refine zc_ne (tgt := 27) hx hb (by omega) (by omega) dL_two_15 (by decide) (fun c_2 => ?_) (fun c_2 => False.elim (by omega))
  refine lv_iload_n hx hb dL_two_27 rfl (lv_at hl 1 rfl) ?_
  refine lv_iconst (v := nI (2)) hx hb dL_two_28 (by decide) ?_
  refine zc_ne (tgt := 41) hx hb (by omega) (by omega) dL_two_29 (by decide) (fun c_3 => False.elim (by omega)) (fun c_3 => ?_)
  refine lv_aload_n hx hb dL_two_32 rfl (lv_at hl 0 rfl) ?_
  refine lv_iload_n hx hb dL_two_33 rfl (lv_at hl 2 rfl) ?_
  refine lv_iload_n hx hb dL_two_34 rfl (lv_at hl 3 rfl) ?_
  refine ze_T_i (n := 2) (mc := 4) (ms := 24) (As := [.int v0, .int v1]) (rest := []) hx hb hml hts hown hZ hX hP hD hS hA (hC _) gL_two_X4_read rfl rfl ⟨rfl, rfl⟩ ⟨by decide +kernel, (Nat.le_of_ble_eq_true rfl), (Nat.le_of_ble_eq_true rfl)⟩ hq rfl hl.1 rfl (Nat.le_of_ble_eq_true rfl) ⟨(Nat.le_of_ble_eq_true rfl), (Nat.le_of_ble_eq_true rfl)⟩ rfl dL_two_35 (fun E9 ce9 q9 u9 H locs hpx9 hP hD hS hz hq1 hq2 hq3 => ?_) (fun r9 u9 H locs hp9 hP hD hS hz => ?_)
  · rcases hpx E9 u9 hpx9 with ⟨hK, rfl⟩ | ⟨hK, rfl⟩
    · refine vx_catch (own := RL) (name := eI) hown [] ⟨0, 47, 48, 42⟩ [⟨0, 47, 53, 44⟩] (by rw [htab]; rfl) (fun _ h => absurd h List.not_mem_nil) rfl (by decide) (hts (.classLink RL 42 eI) (by decide +kernel)) (va_Nw.use rfl (hZ.2 _ (zcast _ (Or.inl rfl)))) hq1 hq2 hq3 ?_
      refine lv_astore (lv' := [(4, .ref q9), (0, .ref a0), (1, .int (nI (2))), (2, .int (v0)), (3, .int (v1))]) hx hb dL_two_48 hl (by decide) rfl (fun ls hl => ?_)
      refine lv_bipush (v := (-101)) hx hb dL_two_50 (by decide) ?_
      exact zr_qi (S := Sum S SX) (post := zwP post px K) (w1 := zwW w1 wx) (Sum.inr u9) hx hb hr hlocks ⟨by rw [hK]; rfl, by omega, _, hpx9⟩ hP hD hS rfl dL_two_52
    · refine vx_catch (own := RL) (name := eS) hown [⟨0, 47, 48, 42⟩] ⟨0, 47, 53, 44⟩ [] (by rw [htab]; rfl) (fun x9 h => by rw [List.mem_singleton.mp h]; exact Or.inr ⟨by decide, _, hts (.classLink RL 42 eI) (by decide +kernel), hN.2.1⟩) rfl (by decide) (hts (.classLink RL 44 eS) (by decide +kernel)) (va_Nw.use rfl (hZ.2 _ (zcast _ (Or.inr (Or.inl rfl))))) hq1 hq2 hq3 ?_
      refine lv_astore (lv' := [(4, .ref q9), (0, .ref a0), (1, .int (nI (2))), (2, .int (v0)), (3, .int (v1))]) hx hb dL_two_53 hl (by decide) rfl (fun ls hl => ?_)
      refine lv_bipush (v := (-102)) hx hb dL_two_55 (by decide) ?_
      exact zr_qi (S := Sum S SX) (post := zwP post px K) (w1 := zwW w1 wx) (Sum.inr u9) hx hb hr hlocks ⟨by rw [hK]; rfl, by omega, _, hpx9⟩ hP hD hS rfl dL_two_57
  refine lv_goto (tgt := 47) hx hb dL_two_38 (by decide) ?_
  exact zr_qi (S := Sum S SX) (post := zwP post px K) (w1 := zwW w1 wx) (Sum.inl u9) hx hb hr hlocks hp9 hP hD hS rfl dL_two_47

set_option maxHeartbeats 4000000 in
set_option maxRecDepth 100000 in
theorem c_L_two_3 (l : Launch) (D : va_G) (cA : Nat → ClassId) (sz : Nat) (ws : va_W) (a0 : Nat) (fs : List Value) (hq : ws[0]? = some (a0, .inr (4, fs))) {S SX : Type} (post : Int32 → S → Prop) (w1 : S → va_W) (px : String → SX → Prop) (wx : SX → va_W) (K : Nat) (v0 v1 : Int32) (hC : ∀ sz, vx_Met l yX4_bestJob wsX4_bestJob ({ frames := 8, cells := 3, slots := 18, locals := 142 }) (va_Pc [.ref a0, .int v0, .int v1] (zMX D cA ws sz)) (va_Qi post (fun u => zB D (va_A ws sz) (w1 u)) (va_A ws sz)) (zXC px wx D (va_A ws sz)) 3 18 (va_A ws sz)) (hpx : ∀ E u, px E u → zexIS K E) : Met l yL_two wsL_two ({ frames := 9, cells := 3, slots := 18, locals := 164 }) (va_Pc [.ref a0, .int (nI (3)), .int v0, .int v1] (zMW D cA ws sz)) (va_Qi (zwP post px K) (fun u => zB D (va_A ws sz) (zwW w1 wx u)) (va_A ws sz)) 3 18 (va_A ws sz) := by
  refine zOpenH (cc := cL_two) (maxL := 5) (ret := (some .int)) (own := RL) (by decide) rfl rfl (Nat.le_of_ble_eq_true rfl) ?_
  intro p e s m below meth c ls hx hb hr hml hts hown hlocks htab ⟨⟨⟨hZ, hP, hD0, hsz⟩, hX⟩, hN⟩ hl
  subst hsz
  have hD := hD0.self (sz := s.heap.size)
  generalize hAe : va_A ws s.heap.size = A at hD hX ⊢
  have hA : ∀ q : Nat, s.heap.size ≤ q → A q := fun q h => by rw [← hAe]; exact Or.inr h
  have hS : va_S A s.heap s.heap [] := va_S.rf
  have hl : lv_has ls 5 [(0, .ref a0), (1, .int (nI (3))), (2, .int (v0)), (3, .int (v1))] := hl
  refine lv_iload_n hx hb dL_two_0 rfl (lv_at hl 1 rfl) ?_
  refine zf_ne (tgt := 13) hx hb (by omega) dL_two_1 (by decide) (fun c_1 => ?_) (fun c_1 => False.elim (by omega))
  refine lv_iload_n hx hb dL_two_13 rfl (lv_at hl 1 rfl) ?_
  refine lv_iconst (v := nI (1)) hx hb dL_two_14 (by decide) ?_
  refine zc_ne (tgt := 27) hx hb (by omega) (by omega) dL_two_15 (by decide) (fun c_2 => ?_) (fun c_2 => False.elim (by omega))
  refine lv_iload_n hx hb dL_two_27 rfl (lv_at hl 1 rfl) ?_
  refine lv_iconst (v := nI (2)) hx hb dL_two_28 (by decide) ?_
  refine zc_ne (tgt := 41) hx hb (by omega) (by omega) dL_two_29 (by decide) (fun c_3 => ?_) (fun c_3 => False.elim (by omega))
  refine lv_aload_n hx hb dL_two_41 rfl (lv_at hl 0 rfl) ?_
  refine lv_iload_n hx hb dL_two_42 rfl (lv_at hl 2 rfl) ?_
  refine lv_iload_n hx hb dL_two_43 rfl (lv_at hl 3 rfl) ?_
  refine ze_T_i (n := 2) (mc := 3) (ms := 18) (As := [.int v0, .int v1]) (rest := []) hx hb hml hts hown hZ hX hP hD hS hA (hC _) gL_two_X4_bestJob rfl rfl ⟨rfl, rfl⟩ ⟨by decide +kernel, (Nat.le_of_ble_eq_true rfl), (Nat.le_of_ble_eq_true rfl)⟩ hq rfl hl.1 rfl (Nat.le_of_ble_eq_true rfl) ⟨(Nat.le_of_ble_eq_true rfl), (Nat.le_of_ble_eq_true rfl)⟩ rfl dL_two_44 (fun E9 ce9 q9 u9 H locs hpx9 hP hD hS hz hq1 hq2 hq3 => ?_) (fun r9 u9 H locs hp9 hP hD hS hz => ?_)
  · rcases hpx E9 u9 hpx9 with ⟨hK, rfl⟩ | ⟨hK, rfl⟩
    · refine vx_catch (own := RL) (name := eI) hown [] ⟨0, 47, 48, 42⟩ [⟨0, 47, 53, 44⟩] (by rw [htab]; rfl) (fun _ h => absurd h List.not_mem_nil) rfl (by decide) (hts (.classLink RL 42 eI) (by decide +kernel)) (va_Nw.use rfl (hZ.2 _ (zcast _ (Or.inl rfl)))) hq1 hq2 hq3 ?_
      refine lv_astore (lv' := [(4, .ref q9), (0, .ref a0), (1, .int (nI (3))), (2, .int (v0)), (3, .int (v1))]) hx hb dL_two_48 hl (by decide) rfl (fun ls hl => ?_)
      refine lv_bipush (v := (-101)) hx hb dL_two_50 (by decide) ?_
      exact zr_qi (S := Sum S SX) (post := zwP post px K) (w1 := zwW w1 wx) (Sum.inr u9) hx hb hr hlocks ⟨by rw [hK]; rfl, by omega, _, hpx9⟩ hP hD hS rfl dL_two_52
    · refine vx_catch (own := RL) (name := eS) hown [⟨0, 47, 48, 42⟩] ⟨0, 47, 53, 44⟩ [] (by rw [htab]; rfl) (fun x9 h => by rw [List.mem_singleton.mp h]; exact Or.inr ⟨by decide, _, hts (.classLink RL 42 eI) (by decide +kernel), hN.2.1⟩) rfl (by decide) (hts (.classLink RL 44 eS) (by decide +kernel)) (va_Nw.use rfl (hZ.2 _ (zcast _ (Or.inr (Or.inl rfl))))) hq1 hq2 hq3 ?_
      refine lv_astore (lv' := [(4, .ref q9), (0, .ref a0), (1, .int (nI (3))), (2, .int (v0)), (3, .int (v1))]) hx hb dL_two_53 hl (by decide) rfl (fun ls hl => ?_)
      refine lv_bipush (v := (-102)) hx hb dL_two_55 (by decide) ?_
      exact zr_qi (S := Sum S SX) (post := zwP post px K) (w1 := zwW w1 wx) (Sum.inr u9) hx hb hr hlocks ⟨by rw [hK]; rfl, by omega, _, hpx9⟩ hP hD hS rfl dL_two_57
  exact zr_qi (S := Sum S SX) (post := zwP post px K) (w1 := zwW w1 wx) (Sum.inl u9) hx hb hr hlocks hp9 hP hD hS rfl dL_two_47

set_option maxHeartbeats 4000000 in
set_option maxRecDepth 100000 in
theorem c_L_one_0 (l : Launch) (D : va_G) (cA : Nat → ClassId) (sz : Nat) (ws : va_W) (a0 : Nat) (fs : List Value) (hq : ws[0]? = some (a0, .inr (4, fs))) {S SX : Type} (post : Int32 → S → Prop) (w1 : S → va_W) (px : String → SX → Prop) (wx : SX → va_W) (K : Nat) (v0 : Int32) (hC : ∀ sz, vx_Met l yX4_unmount wsX4_unmount ({ frames := 7, cells := 2, slots := 12, locals := 118 }) (va_Pc [.ref a0, .int v0] (zMX D cA ws sz)) (va_Qi post (fun u => zB D (va_A ws sz) (w1 u)) (va_A ws sz)) (zXC px wx D (va_A ws sz)) 2 12 (va_A ws sz)) (hpx : ∀ E u, px E u → zexIS K E) : Met l yL_one wsL_one ({ frames := 9, cells := 2, slots := 12, locals := 168 }) (va_Pc [.ref a0, .int (nI (0)), .int v0] (zMW D cA ws sz)) (va_Qi (zwP post px K) (fun u => zB D (va_A ws sz) (zwW w1 wx u)) (va_A ws sz)) 2 12 (va_A ws sz) := by
  refine zOpenH (cc := cL_one) (maxL := 4) (ret := (some .int)) (own := RL) (by decide) rfl rfl (Nat.le_of_ble_eq_true rfl) ?_
  intro p e s m below meth c ls hx hb hr hml hts hown hlocks htab ⟨⟨⟨hZ, hP, hD0, hsz⟩, hX⟩, hN⟩ hl
  subst hsz
  have hD := hD0.self (sz := s.heap.size)
  generalize hAe : va_A ws s.heap.size = A at hD hX ⊢
  have hA : ∀ q : Nat, s.heap.size ≤ q → A q := fun q h => by rw [← hAe]; exact Or.inr h
  have hS : va_S A s.heap s.heap [] := va_S.rf
  have hl : lv_has ls 4 [(0, .ref a0), (1, .int (nI (0))), (2, .int (v0))] := hl
  refine lv_iload_n hx hb dL_one_0 rfl (lv_at hl 1 rfl) ?_
  refine zf_ne (tgt := 12) hx hb (by omega) dL_one_1 (by decide) (fun c_1 => False.elim (by omega)) (fun c_1 => ?_)
  refine lv_aload_n hx hb dL_one_4 rfl (lv_at hl 0 rfl) ?_
  refine lv_iload_n hx hb dL_one_5 rfl (lv_at hl 2 rfl) ?_
  refine ze_T_i (n := 1) (mc := 2) (ms := 12) (As := [.int v0]) (rest := []) hx hb hml hts hown hZ hX hP hD hS hA (hC _) gL_one_X4_unmount rfl rfl ⟨rfl, rfl⟩ ⟨by decide +kernel, (Nat.le_of_ble_eq_true rfl), (Nat.le_of_ble_eq_true rfl)⟩ hq rfl hl.1 rfl (Nat.le_of_ble_eq_true rfl) ⟨(Nat.le_of_ble_eq_true rfl), (Nat.le_of_ble_eq_true rfl)⟩ rfl dL_one_6 (fun E9 ce9 q9 u9 H locs hpx9 hP hD hS hz hq1 hq2 hq3 => ?_) (fun r9 u9 H locs hp9 hP hD hS hz => ?_)
  · rcases hpx E9 u9 hpx9 with ⟨hK, rfl⟩ | ⟨hK, rfl⟩
    · refine vx_catch (own := RL) (name := eI) hown [] ⟨0, 82, 83, 42⟩ [⟨0, 82, 87, 44⟩] (by rw [htab]; rfl) (fun _ h => absurd h List.not_mem_nil) rfl (by decide) (hts (.classLink RL 42 eI) (by decide +kernel)) (va_Nw.use rfl (hZ.2 _ (zcast _ (Or.inl rfl)))) hq1 hq2 hq3 ?_
      refine lv_astore_n (lv' := [(3, .ref q9), (0, .ref a0), (1, .int (nI (0))), (2, .int (v0))]) hx hb dL_one_83 rfl hl (by decide) rfl (fun ls hl => ?_)
      refine lv_bipush (v := (-101)) hx hb dL_one_84 (by decide) ?_
      exact zr_qi (S := Sum S SX) (post := zwP post px K) (w1 := zwW w1 wx) (Sum.inr u9) hx hb hr hlocks ⟨by rw [hK]; rfl, by omega, _, hpx9⟩ hP hD hS rfl dL_one_86
    · refine vx_catch (own := RL) (name := eS) hown [⟨0, 82, 83, 42⟩] ⟨0, 82, 87, 44⟩ [] (by rw [htab]; rfl) (fun x9 h => by rw [List.mem_singleton.mp h]; exact Or.inr ⟨by decide, _, hts (.classLink RL 42 eI) (by decide +kernel), hN.2.1⟩) rfl (by decide) (hts (.classLink RL 44 eS) (by decide +kernel)) (va_Nw.use rfl (hZ.2 _ (zcast _ (Or.inr (Or.inl rfl))))) hq1 hq2 hq3 ?_
      refine lv_astore_n (lv' := [(3, .ref q9), (0, .ref a0), (1, .int (nI (0))), (2, .int (v0))]) hx hb dL_one_87 rfl hl (by decide) rfl (fun ls hl => ?_)
      refine lv_bipush (v := (-102)) hx hb dL_one_88 (by decide) ?_
      exact zr_qi (S := Sum S SX) (post := zwP post px K) (w1 := zwW w1 wx) (Sum.inr u9) hx hb hr hlocks ⟨by rw [hK]; rfl, by omega, _, hpx9⟩ hP hD hS rfl dL_one_90
  refine lv_goto (tgt := 82) hx hb dL_one_9 (by decide) ?_
  exact zr_qi (S := Sum S SX) (post := zwP post px K) (w1 := zwW w1 wx) (Sum.inl u9) hx hb hr hlocks hp9 hP hD hS rfl dL_one_82

set_option maxHeartbeats 4000000 in
set_option maxRecDepth 100000 in
theorem c_L_one_1 (l : Launch) (D : va_G) (cA : Nat → ClassId) (sz : Nat) (ws : va_W) (a0 : Nat) (fs : List Value) (hq : ws[0]? = some (a0, .inr (4, fs))) {S SX : Type} (post : Int32 → S → Prop) (w1 : S → va_W) (px : String → SX → Prop) (wx : SX → va_W) (K : Nat) (v0 : Int32) (hC : ∀ sz, vx_Met l yX4_clean wsX4_clean ({ frames := 7, cells := 2, slots := 12, locals := 118 }) (va_Pc [.ref a0, .int v0] (zMX D cA ws sz)) (va_Qi post (fun u => zB D (va_A ws sz) (w1 u)) (va_A ws sz)) (zXC px wx D (va_A ws sz)) 2 12 (va_A ws sz)) (hpx : ∀ E u, px E u → zexIS K E) : Met l yL_one wsL_one ({ frames := 9, cells := 2, slots := 12, locals := 168 }) (va_Pc [.ref a0, .int (nI (1)), .int v0] (zMW D cA ws sz)) (va_Qi (zwP post px K) (fun u => zB D (va_A ws sz) (zwW w1 wx u)) (va_A ws sz)) 2 12 (va_A ws sz) := by
  refine zOpenH (cc := cL_one) (maxL := 4) (ret := (some .int)) (own := RL) (by decide) rfl rfl (Nat.le_of_ble_eq_true rfl) ?_
  intro p e s m below meth c ls hx hb hr hml hts hown hlocks htab ⟨⟨⟨hZ, hP, hD0, hsz⟩, hX⟩, hN⟩ hl
  subst hsz
  have hD := hD0.self (sz := s.heap.size)
  generalize hAe : va_A ws s.heap.size = A at hD hX ⊢
  have hA : ∀ q : Nat, s.heap.size ≤ q → A q := fun q h => by rw [← hAe]; exact Or.inr h
  have hS : va_S A s.heap s.heap [] := va_S.rf
  have hl : lv_has ls 4 [(0, .ref a0), (1, .int (nI (1))), (2, .int (v0))] := hl
  refine lv_iload_n hx hb dL_one_0 rfl (lv_at hl 1 rfl) ?_
  refine zf_ne (tgt := 12) hx hb (by omega) dL_one_1 (by decide) (fun c_1 => ?_) (fun c_1 => False.elim (by omega))
  refine lv_iload_n hx hb dL_one_12 rfl (lv_at hl 1 rfl) ?_
  refine lv_iconst (v := nI (1)) hx hb dL_one_13 (by decide) ?_
  refine zc_ne (tgt := 25) hx hb (by omega) (by omega) dL_one_14 (by decide) (fun c_2 => False.elim (by omega)) (fun c_2 => ?_)
  refine lv_aload_n hx hb dL_one_17 rfl (lv_at hl 0 rfl) ?_
  refine lv_iload_n hx hb dL_one_18 rfl (lv_at hl 2 rfl) ?_
  refine ze_T_i (n := 1) (mc := 2) (ms := 12) (As := [.int v0]) (rest := []) hx hb hml hts hown hZ hX hP hD hS hA (hC _) gL_one_X4_clean rfl rfl ⟨rfl, rfl⟩ ⟨by decide +kernel, (Nat.le_of_ble_eq_true rfl), (Nat.le_of_ble_eq_true rfl)⟩ hq rfl hl.1 rfl (Nat.le_of_ble_eq_true rfl) ⟨(Nat.le_of_ble_eq_true rfl), (Nat.le_of_ble_eq_true rfl)⟩ rfl dL_one_19 (fun E9 ce9 q9 u9 H locs hpx9 hP hD hS hz hq1 hq2 hq3 => ?_) (fun r9 u9 H locs hp9 hP hD hS hz => ?_)
  · rcases hpx E9 u9 hpx9 with ⟨hK, rfl⟩ | ⟨hK, rfl⟩
    · refine vx_catch (own := RL) (name := eI) hown [] ⟨0, 82, 83, 42⟩ [⟨0, 82, 87, 44⟩] (by rw [htab]; rfl) (fun _ h => absurd h List.not_mem_nil) rfl (by decide) (hts (.classLink RL 42 eI) (by decide +kernel)) (va_Nw.use rfl (hZ.2 _ (zcast _ (Or.inl rfl)))) hq1 hq2 hq3 ?_
      refine lv_astore_n (lv' := [(3, .ref q9), (0, .ref a0), (1, .int (nI (1))), (2, .int (v0))]) hx hb dL_one_83 rfl hl (by decide) rfl (fun ls hl => ?_)
      refine lv_bipush (v := (-101)) hx hb dL_one_84 (by decide) ?_
      exact zr_qi (S := Sum S SX) (post := zwP post px K) (w1 := zwW w1 wx) (Sum.inr u9) hx hb hr hlocks ⟨by rw [hK]; rfl, by omega, _, hpx9⟩ hP hD hS rfl dL_one_86
    · refine vx_catch (own := RL) (name := eS) hown [⟨0, 82, 83, 42⟩] ⟨0, 82, 87, 44⟩ [] (by rw [htab]; rfl) (fun x9 h => by rw [List.mem_singleton.mp h]; exact Or.inr ⟨by decide, _, hts (.classLink RL 42 eI) (by decide +kernel), hN.2.1⟩) rfl (by decide) (hts (.classLink RL 44 eS) (by decide +kernel)) (va_Nw.use rfl (hZ.2 _ (zcast _ (Or.inr (Or.inl rfl))))) hq1 hq2 hq3 ?_
      refine lv_astore_n (lv' := [(3, .ref q9), (0, .ref a0), (1, .int (nI (1))), (2, .int (v0))]) hx hb dL_one_87 rfl hl (by decide) rfl (fun ls hl => ?_)
      refine lv_bipush (v := (-102)) hx hb dL_one_88 (by decide) ?_
      exact zr_qi (S := Sum S SX) (post := zwP post px K) (w1 := zwW w1 wx) (Sum.inr u9) hx hb hr hlocks ⟨by rw [hK]; rfl, by omega, _, hpx9⟩ hP hD hS rfl dL_one_90
  refine lv_goto (tgt := 82) hx hb dL_one_22 (by decide) ?_
  exact zr_qi (S := Sum S SX) (post := zwP post px K) (w1 := zwW w1 wx) (Sum.inl u9) hx hb hr hlocks hp9 hP hD hS rfl dL_one_82

set_option maxHeartbeats 4000000 in
set_option maxRecDepth 100000 in
theorem c_L_one_2 (l : Launch) (D : va_G) (cA : Nat → ClassId) (sz : Nat) (ws : va_W) (a0 : Nat) (fs : List Value) (hq : ws[0]? = some (a0, .inr (4, fs))) {S SX : Type} (post : Int32 → S → Prop) (w1 : S → va_W) (px : String → SX → Prop) (wx : SX → va_W) (K : Nat) (v0 : Int32) (hC : ∀ sz, vx_Met l yX4_work wsX4_work ({ frames := 8, cells := 4, slots := 24, locals := 142 }) (va_Pc [.ref a0, .int v0] (zMX D cA ws sz)) (va_Qi post (fun u => zB D (va_A ws sz) (w1 u)) (va_A ws sz)) (zXC px wx D (va_A ws sz)) 4 24 (va_A ws sz)) (hpx : ∀ E u, px E u → zexIS K E) : Met l yL_one wsL_one ({ frames := 9, cells := 4, slots := 24, locals := 168 }) (va_Pc [.ref a0, .int (nI (2)), .int v0] (zMW D cA ws sz)) (va_Qi (zwP post px K) (fun u => zB D (va_A ws sz) (zwW w1 wx u)) (va_A ws sz)) 4 24 (va_A ws sz) := by
  refine zOpenH (cc := cL_one) (maxL := 4) (ret := (some .int)) (own := RL) (by decide) rfl rfl (Nat.le_of_ble_eq_true rfl) ?_
  intro p e s m below meth c ls hx hb hr hml hts hown hlocks htab ⟨⟨⟨hZ, hP, hD0, hsz⟩, hX⟩, hN⟩ hl
  subst hsz
  have hD := hD0.self (sz := s.heap.size)
  generalize hAe : va_A ws s.heap.size = A at hD hX ⊢
  have hA : ∀ q : Nat, s.heap.size ≤ q → A q := fun q h => by rw [← hAe]; exact Or.inr h
  have hS : va_S A s.heap s.heap [] := va_S.rf
  have hl : lv_has ls 4 [(0, .ref a0), (1, .int (nI (2))), (2, .int (v0))] := hl
  refine lv_iload_n hx hb dL_one_0 rfl (lv_at hl 1 rfl) ?_
  refine zf_ne (tgt := 12) hx hb (by omega) dL_one_1 (by decide) (fun c_1 => ?_) (fun c_1 => False.elim (by omega))
  refine lv_iload_n hx hb dL_one_12 rfl (lv_at hl 1 rfl) ?_
  refine lv_iconst (v := nI (1)) hx hb dL_one_13 (by decide) ?_
  refine zc_ne (tgt := 25) hx hb (by omega) (by omega) dL_one_14 (by decide) (fun c_2 => ?_) (fun c_2 => False.elim (by omega))
  refine lv_iload_n hx hb dL_one_25 rfl (lv_at hl 1 rfl) ?_
  refine lv_iconst (v := nI (2)) hx hb dL_one_26 (by decide) ?_
  refine zc_ne (tgt := 38) hx hb (by omega) (by omega) dL_one_27 (by decide) (fun c_3 => False.elim (by omega)) (fun c_3 => ?_)
  refine lv_aload_n hx hb dL_one_30 rfl (lv_at hl 0 rfl) ?_
  refine lv_iload_n hx hb dL_one_31 rfl (lv_at hl 2 rfl) ?_
  refine ze_T_i (n := 1) (mc := 4) (ms := 24) (As := [.int v0]) (rest := []) hx hb hml hts hown hZ hX hP hD hS hA (hC _) gL_one_X4_work rfl rfl ⟨rfl, rfl⟩ ⟨by decide +kernel, (Nat.le_of_ble_eq_true rfl), (Nat.le_of_ble_eq_true rfl)⟩ hq rfl hl.1 rfl (Nat.le_of_ble_eq_true rfl) ⟨(Nat.le_of_ble_eq_true rfl), (Nat.le_of_ble_eq_true rfl)⟩ rfl dL_one_32 (fun E9 ce9 q9 u9 H locs hpx9 hP hD hS hz hq1 hq2 hq3 => ?_) (fun r9 u9 H locs hp9 hP hD hS hz => ?_)
  · rcases hpx E9 u9 hpx9 with ⟨hK, rfl⟩ | ⟨hK, rfl⟩
    · refine vx_catch (own := RL) (name := eI) hown [] ⟨0, 82, 83, 42⟩ [⟨0, 82, 87, 44⟩] (by rw [htab]; rfl) (fun _ h => absurd h List.not_mem_nil) rfl (by decide) (hts (.classLink RL 42 eI) (by decide +kernel)) (va_Nw.use rfl (hZ.2 _ (zcast _ (Or.inl rfl)))) hq1 hq2 hq3 ?_
      refine lv_astore_n (lv' := [(3, .ref q9), (0, .ref a0), (1, .int (nI (2))), (2, .int (v0))]) hx hb dL_one_83 rfl hl (by decide) rfl (fun ls hl => ?_)
      refine lv_bipush (v := (-101)) hx hb dL_one_84 (by decide) ?_
      exact zr_qi (S := Sum S SX) (post := zwP post px K) (w1 := zwW w1 wx) (Sum.inr u9) hx hb hr hlocks ⟨by rw [hK]; rfl, by omega, _, hpx9⟩ hP hD hS rfl dL_one_86
    · refine vx_catch (own := RL) (name := eS) hown [⟨0, 82, 83, 42⟩] ⟨0, 82, 87, 44⟩ [] (by rw [htab]; rfl) (fun x9 h => by rw [List.mem_singleton.mp h]; exact Or.inr ⟨by decide, _, hts (.classLink RL 42 eI) (by decide +kernel), hN.2.1⟩) rfl (by decide) (hts (.classLink RL 44 eS) (by decide +kernel)) (va_Nw.use rfl (hZ.2 _ (zcast _ (Or.inr (Or.inl rfl))))) hq1 hq2 hq3 ?_
      refine lv_astore_n (lv' := [(3, .ref q9), (0, .ref a0), (1, .int (nI (2))), (2, .int (v0))]) hx hb dL_one_87 rfl hl (by decide) rfl (fun ls hl => ?_)
      refine lv_bipush (v := (-102)) hx hb dL_one_88 (by decide) ?_
      exact zr_qi (S := Sum S SX) (post := zwP post px K) (w1 := zwW w1 wx) (Sum.inr u9) hx hb hr hlocks ⟨by rw [hK]; rfl, by omega, _, hpx9⟩ hP hD hS rfl dL_one_90
  refine lv_goto (tgt := 82) hx hb dL_one_35 (by decide) ?_
  exact zr_qi (S := Sum S SX) (post := zwP post px K) (w1 := zwW w1 wx) (Sum.inl u9) hx hb hr hlocks hp9 hP hD hS rfl dL_one_82

set_option maxHeartbeats 4000000 in
set_option maxRecDepth 100000 in
theorem c_L_one_3 (l : Launch) (D : va_G) (cA : Nat → ClassId) (sz : Nat) (ws : va_W) (a0 : Nat) (fs : List Value) (hq : ws[0]? = some (a0, .inr (4, fs))) {S SX : Type} (post : Int32 → S → Prop) (w1 : S → va_W) (px : String → SX → Prop) (wx : SX → va_W) (K : Nat) (v0 : Int32) (hC : ∀ sz, vx_Met l yX4_bestTime wsX4_bestTime ({ frames := 8, cells := 2, slots := 12, locals := 142 }) (va_Pc [.ref a0, .int v0] (zMX D cA ws sz)) (va_Qi post (fun u => zB D (va_A ws sz) (w1 u)) (va_A ws sz)) (zXC px wx D (va_A ws sz)) 2 12 (va_A ws sz)) (hpx : ∀ E u, px E u → zexIS K E) : Met l yL_one wsL_one ({ frames := 9, cells := 2, slots := 12, locals := 168 }) (va_Pc [.ref a0, .int (nI (3)), .int v0] (zMW D cA ws sz)) (va_Qi (zwP post px K) (fun u => zB D (va_A ws sz) (zwW w1 wx u)) (va_A ws sz)) 2 12 (va_A ws sz) := by
  refine zOpenH (cc := cL_one) (maxL := 4) (ret := (some .int)) (own := RL) (by decide) rfl rfl (Nat.le_of_ble_eq_true rfl) ?_
  intro p e s m below meth c ls hx hb hr hml hts hown hlocks htab ⟨⟨⟨hZ, hP, hD0, hsz⟩, hX⟩, hN⟩ hl
  subst hsz
  have hD := hD0.self (sz := s.heap.size)
  generalize hAe : va_A ws s.heap.size = A at hD hX ⊢
  have hA : ∀ q : Nat, s.heap.size ≤ q → A q := fun q h => by rw [← hAe]; exact Or.inr h
  have hS : va_S A s.heap s.heap [] := va_S.rf
  have hl : lv_has ls 4 [(0, .ref a0), (1, .int (nI (3))), (2, .int (v0))] := hl
  refine lv_iload_n hx hb dL_one_0 rfl (lv_at hl 1 rfl) ?_
  refine zf_ne (tgt := 12) hx hb (by omega) dL_one_1 (by decide) (fun c_1 => ?_) (fun c_1 => False.elim (by omega))
  refine lv_iload_n hx hb dL_one_12 rfl (lv_at hl 1 rfl) ?_
  refine lv_iconst (v := nI (1)) hx hb dL_one_13 (by decide) ?_
  refine zc_ne (tgt := 25) hx hb (by omega) (by omega) dL_one_14 (by decide) (fun c_2 => ?_) (fun c_2 => False.elim (by omega))
  refine lv_iload_n hx hb dL_one_25 rfl (lv_at hl 1 rfl) ?_
  refine lv_iconst (v := nI (2)) hx hb dL_one_26 (by decide) ?_
  refine zc_ne (tgt := 38) hx hb (by omega) (by omega) dL_one_27 (by decide) (fun c_3 => ?_) (fun c_3 => False.elim (by omega))
  refine lv_iload_n hx hb dL_one_38 rfl (lv_at hl 1 rfl) ?_
  refine lv_iconst (v := nI (3)) hx hb dL_one_39 (by decide) ?_
  refine zc_ne (tgt := 51) hx hb (by omega) (by omega) dL_one_40 (by decide) (fun c_4 => False.elim (by omega)) (fun c_4 => ?_)
  refine lv_aload_n hx hb dL_one_43 rfl (lv_at hl 0 rfl) ?_
  refine lv_iload_n hx hb dL_one_44 rfl (lv_at hl 2 rfl) ?_
  refine ze_T_i (n := 1) (mc := 2) (ms := 12) (As := [.int v0]) (rest := []) hx hb hml hts hown hZ hX hP hD hS hA (hC _) gL_one_X4_bestTime rfl rfl ⟨rfl, rfl⟩ ⟨by decide +kernel, (Nat.le_of_ble_eq_true rfl), (Nat.le_of_ble_eq_true rfl)⟩ hq rfl hl.1 rfl (Nat.le_of_ble_eq_true rfl) ⟨(Nat.le_of_ble_eq_true rfl), (Nat.le_of_ble_eq_true rfl)⟩ rfl dL_one_45 (fun E9 ce9 q9 u9 H locs hpx9 hP hD hS hz hq1 hq2 hq3 => ?_) (fun r9 u9 H locs hp9 hP hD hS hz => ?_)
  · rcases hpx E9 u9 hpx9 with ⟨hK, rfl⟩ | ⟨hK, rfl⟩
    · refine vx_catch (own := RL) (name := eI) hown [] ⟨0, 82, 83, 42⟩ [⟨0, 82, 87, 44⟩] (by rw [htab]; rfl) (fun _ h => absurd h List.not_mem_nil) rfl (by decide) (hts (.classLink RL 42 eI) (by decide +kernel)) (va_Nw.use rfl (hZ.2 _ (zcast _ (Or.inl rfl)))) hq1 hq2 hq3 ?_
      refine lv_astore_n (lv' := [(3, .ref q9), (0, .ref a0), (1, .int (nI (3))), (2, .int (v0))]) hx hb dL_one_83 rfl hl (by decide) rfl (fun ls hl => ?_)
      refine lv_bipush (v := (-101)) hx hb dL_one_84 (by decide) ?_
      exact zr_qi (S := Sum S SX) (post := zwP post px K) (w1 := zwW w1 wx) (Sum.inr u9) hx hb hr hlocks ⟨by rw [hK]; rfl, by omega, _, hpx9⟩ hP hD hS rfl dL_one_86
    · refine vx_catch (own := RL) (name := eS) hown [⟨0, 82, 83, 42⟩] ⟨0, 82, 87, 44⟩ [] (by rw [htab]; rfl) (fun x9 h => by rw [List.mem_singleton.mp h]; exact Or.inr ⟨by decide, _, hts (.classLink RL 42 eI) (by decide +kernel), hN.2.1⟩) rfl (by decide) (hts (.classLink RL 44 eS) (by decide +kernel)) (va_Nw.use rfl (hZ.2 _ (zcast _ (Or.inr (Or.inl rfl))))) hq1 hq2 hq3 ?_
      refine lv_astore_n (lv' := [(3, .ref q9), (0, .ref a0), (1, .int (nI (3))), (2, .int (v0))]) hx hb dL_one_87 rfl hl (by decide) rfl (fun ls hl => ?_)
      refine lv_bipush (v := (-102)) hx hb dL_one_88 (by decide) ?_
      exact zr_qi (S := Sum S SX) (post := zwP post px K) (w1 := zwW w1 wx) (Sum.inr u9) hx hb hr hlocks ⟨by rw [hK]; rfl, by omega, _, hpx9⟩ hP hD hS rfl dL_one_90
  refine lv_goto (tgt := 82) hx hb dL_one_48 (by decide) ?_
  exact zr_qi (S := Sum S SX) (post := zwP post px K) (w1 := zwW w1 wx) (Sum.inl u9) hx hb hr hlocks hp9 hP hD hS rfl dL_one_82

set_option maxHeartbeats 4000000 in
set_option maxRecDepth 100000 in
theorem c_L_one_4 (l : Launch) (D : va_G) (cA : Nat → ClassId) (sz : Nat) (ws : va_W) (a0 : Nat) (fs : List Value) (hq : ws[0]? = some (a0, .inr (4, fs))) {S SX : Type} (post : Int32 → S → Prop) (w1 : S → va_W) (px : String → SX → Prop) (wx : SX → va_W) (K : Nat) (v0 : Int32) (hC : ∀ sz, vx_Met l yX4_insertedTime wsX4_insertedTime ({ frames := 8, cells := 2, slots := 12, locals := 142 }) (va_Pc [.ref a0, .int v0] (zMX D cA ws sz)) (va_Qi post (fun u => zB D (va_A ws sz) (w1 u)) (va_A ws sz)) (zXC px wx D (va_A ws sz)) 2 12 (va_A ws sz)) (hpx : ∀ E u, px E u → zexIS K E) : Met l yL_one wsL_one ({ frames := 9, cells := 2, slots := 12, locals := 168 }) (va_Pc [.ref a0, .int (nI (4)), .int v0] (zMW D cA ws sz)) (va_Qi (zwP post px K) (fun u => zB D (va_A ws sz) (zwW w1 wx u)) (va_A ws sz)) 2 12 (va_A ws sz) := by
  refine zOpenH (cc := cL_one) (maxL := 4) (ret := (some .int)) (own := RL) (by decide) rfl rfl (Nat.le_of_ble_eq_true rfl) ?_
  intro p e s m below meth c ls hx hb hr hml hts hown hlocks htab ⟨⟨⟨hZ, hP, hD0, hsz⟩, hX⟩, hN⟩ hl
  subst hsz
  have hD := hD0.self (sz := s.heap.size)
  generalize hAe : va_A ws s.heap.size = A at hD hX ⊢
  have hA : ∀ q : Nat, s.heap.size ≤ q → A q := fun q h => by rw [← hAe]; exact Or.inr h
  have hS : va_S A s.heap s.heap [] := va_S.rf
  have hl : lv_has ls 4 [(0, .ref a0), (1, .int (nI (4))), (2, .int (v0))] := hl
  refine lv_iload_n hx hb dL_one_0 rfl (lv_at hl 1 rfl) ?_
  refine zf_ne (tgt := 12) hx hb (by omega) dL_one_1 (by decide) (fun c_1 => ?_) (fun c_1 => False.elim (by omega))
  refine lv_iload_n hx hb dL_one_12 rfl (lv_at hl 1 rfl) ?_
  refine lv_iconst (v := nI (1)) hx hb dL_one_13 (by decide) ?_
  refine zc_ne (tgt := 25) hx hb (by omega) (by omega) dL_one_14 (by decide) (fun c_2 => ?_) (fun c_2 => False.elim (by omega))
  refine lv_iload_n hx hb dL_one_25 rfl (lv_at hl 1 rfl) ?_
  refine lv_iconst (v := nI (2)) hx hb dL_one_26 (by decide) ?_
  refine zc_ne (tgt := 38) hx hb (by omega) (by omega) dL_one_27 (by decide) (fun c_3 => ?_) (fun c_3 => False.elim (by omega))
  refine lv_iload_n hx hb dL_one_38 rfl (lv_at hl 1 rfl) ?_
  refine lv_iconst (v := nI (3)) hx hb dL_one_39 (by decide) ?_
  refine zc_ne (tgt := 51) hx hb (by omega) (by omega) dL_one_40 (by decide) (fun c_4 => ?_) (fun c_4 => False.elim (by omega))
  refine lv_iload_n hx hb dL_one_51 rfl (lv_at hl 1 rfl) ?_
  refine lv_iconst (v := nI (4)) hx hb dL_one_52 (by decide) ?_
  refine zc_ne (tgt := 64) hx hb (by omega) (by omega) dL_one_53 (by decide) (fun c_5 => False.elim (by omega)) (fun c_5 => ?_)
  refine lv_aload_n hx hb dL_one_56 rfl (lv_at hl 0 rfl) ?_
  refine lv_iload_n hx hb dL_one_57 rfl (lv_at hl 2 rfl) ?_
  refine ze_T_i (n := 1) (mc := 2) (ms := 12) (As := [.int v0]) (rest := []) hx hb hml hts hown hZ hX hP hD hS hA (hC _) gL_one_X4_insertedTime rfl rfl ⟨rfl, rfl⟩ ⟨by decide +kernel, (Nat.le_of_ble_eq_true rfl), (Nat.le_of_ble_eq_true rfl)⟩ hq rfl hl.1 rfl (Nat.le_of_ble_eq_true rfl) ⟨(Nat.le_of_ble_eq_true rfl), (Nat.le_of_ble_eq_true rfl)⟩ rfl dL_one_58 (fun E9 ce9 q9 u9 H locs hpx9 hP hD hS hz hq1 hq2 hq3 => ?_) (fun r9 u9 H locs hp9 hP hD hS hz => ?_)
  · rcases hpx E9 u9 hpx9 with ⟨hK, rfl⟩ | ⟨hK, rfl⟩
    · refine vx_catch (own := RL) (name := eI) hown [] ⟨0, 82, 83, 42⟩ [⟨0, 82, 87, 44⟩] (by rw [htab]; rfl) (fun _ h => absurd h List.not_mem_nil) rfl (by decide) (hts (.classLink RL 42 eI) (by decide +kernel)) (va_Nw.use rfl (hZ.2 _ (zcast _ (Or.inl rfl)))) hq1 hq2 hq3 ?_
      refine lv_astore_n (lv' := [(3, .ref q9), (0, .ref a0), (1, .int (nI (4))), (2, .int (v0))]) hx hb dL_one_83 rfl hl (by decide) rfl (fun ls hl => ?_)
      refine lv_bipush (v := (-101)) hx hb dL_one_84 (by decide) ?_
      exact zr_qi (S := Sum S SX) (post := zwP post px K) (w1 := zwW w1 wx) (Sum.inr u9) hx hb hr hlocks ⟨by rw [hK]; rfl, by omega, _, hpx9⟩ hP hD hS rfl dL_one_86
    · refine vx_catch (own := RL) (name := eS) hown [⟨0, 82, 83, 42⟩] ⟨0, 82, 87, 44⟩ [] (by rw [htab]; rfl) (fun x9 h => by rw [List.mem_singleton.mp h]; exact Or.inr ⟨by decide, _, hts (.classLink RL 42 eI) (by decide +kernel), hN.2.1⟩) rfl (by decide) (hts (.classLink RL 44 eS) (by decide +kernel)) (va_Nw.use rfl (hZ.2 _ (zcast _ (Or.inr (Or.inl rfl))))) hq1 hq2 hq3 ?_
      refine lv_astore_n (lv' := [(3, .ref q9), (0, .ref a0), (1, .int (nI (4))), (2, .int (v0))]) hx hb dL_one_87 rfl hl (by decide) rfl (fun ls hl => ?_)
      refine lv_bipush (v := (-102)) hx hb dL_one_88 (by decide) ?_
      exact zr_qi (S := Sum S SX) (post := zwP post px K) (w1 := zwW w1 wx) (Sum.inr u9) hx hb hr hlocks ⟨by rw [hK]; rfl, by omega, _, hpx9⟩ hP hD hS rfl dL_one_90
  refine lv_goto (tgt := 82) hx hb dL_one_61 (by decide) ?_
  exact zr_qi (S := Sum S SX) (post := zwP post px K) (w1 := zwW w1 wx) (Sum.inl u9) hx hb hr hlocks hp9 hP hD hS rfl dL_one_82

set_option maxHeartbeats 4000000 in
set_option maxRecDepth 100000 in
theorem c_L_one_5 (l : Launch) (D : va_G) (cA : Nat → ClassId) (sz : Nat) (ws : va_W) (a0 : Nat) (fs : List Value) (hq : ws[0]? = some (a0, .inr (4, fs))) {S SX : Type} (post : Int32 → S → Prop) (w1 : S → va_W) (px : String → SX → Prop) (wx : SX → va_W) (K : Nat) (v0 : Int32) (hC : ∀ sz, vx_Met l yX4_triedTime wsX4_triedTime ({ frames := 8, cells := 2, slots := 12, locals := 142 }) (va_Pc [.ref a0, .int v0] (zMX D cA ws sz)) (va_Qi post (fun u => zB D (va_A ws sz) (w1 u)) (va_A ws sz)) (zXC px wx D (va_A ws sz)) 2 12 (va_A ws sz)) (hpx : ∀ E u, px E u → zexIS K E) : Met l yL_one wsL_one ({ frames := 9, cells := 2, slots := 12, locals := 168 }) (va_Pc [.ref a0, .int (nI (5)), .int v0] (zMW D cA ws sz)) (va_Qi (zwP post px K) (fun u => zB D (va_A ws sz) (zwW w1 wx u)) (va_A ws sz)) 2 12 (va_A ws sz) := by
  refine zOpenH (cc := cL_one) (maxL := 4) (ret := (some .int)) (own := RL) (by decide) rfl rfl (Nat.le_of_ble_eq_true rfl) ?_
  intro p e s m below meth c ls hx hb hr hml hts hown hlocks htab ⟨⟨⟨hZ, hP, hD0, hsz⟩, hX⟩, hN⟩ hl
  subst hsz
  have hD := hD0.self (sz := s.heap.size)
  generalize hAe : va_A ws s.heap.size = A at hD hX ⊢
  have hA : ∀ q : Nat, s.heap.size ≤ q → A q := fun q h => by rw [← hAe]; exact Or.inr h
  have hS : va_S A s.heap s.heap [] := va_S.rf
  have hl : lv_has ls 4 [(0, .ref a0), (1, .int (nI (5))), (2, .int (v0))] := hl
  refine lv_iload_n hx hb dL_one_0 rfl (lv_at hl 1 rfl) ?_
  refine zf_ne (tgt := 12) hx hb (by omega) dL_one_1 (by decide) (fun c_1 => ?_) (fun c_1 => False.elim (by omega))
  refine lv_iload_n hx hb dL_one_12 rfl (lv_at hl 1 rfl) ?_
  refine lv_iconst (v := nI (1)) hx hb dL_one_13 (by decide) ?_
  refine zc_ne (tgt := 25) hx hb (by omega) (by omega) dL_one_14 (by decide) (fun c_2 => ?_) (fun c_2 => False.elim (by omega))
  refine lv_iload_n hx hb dL_one_25 rfl (lv_at hl 1 rfl) ?_
  refine lv_iconst (v := nI (2)) hx hb dL_one_26 (by decide) ?_
  refine zc_ne (tgt := 38) hx hb (by omega) (by omega) dL_one_27 (by decide) (fun c_3 => ?_) (fun c_3 => False.elim (by omega))
  refine lv_iload_n hx hb dL_one_38 rfl (lv_at hl 1 rfl) ?_
  refine lv_iconst (v := nI (3)) hx hb dL_one_39 (by decide) ?_
  refine zc_ne (tgt := 51) hx hb (by omega) (by omega) dL_one_40 (by decide) (fun c_4 => ?_) (fun c_4 => False.elim (by omega))
  refine lv_iload_n hx hb dL_one_51 rfl (lv_at hl 1 rfl) ?_
  refine lv_iconst (v := nI (4)) hx hb dL_one_52 (by decide) ?_
  refine zc_ne (tgt := 64) hx hb (by omega) (by omega) dL_one_53 (by decide) (fun c_5 => ?_) (fun c_5 => False.elim (by omega))
  refine lv_iload_n hx hb dL_one_64 rfl (lv_at hl 1 rfl) ?_
  refine lv_iconst (v := nI (5)) hx hb dL_one_65 (by decide) ?_
  refine zc_ne (tgt := 77) hx hb (by omega) (by omega) dL_one_66 (by decide) (fun c_6 => False.elim (by omega)) (fun c_6 => ?_)
  refine lv_aload_n hx hb dL_one_69 rfl (lv_at hl 0 rfl) ?_
  refine lv_iload_n hx hb dL_one_70 rfl (lv_at hl 2 rfl) ?_
  refine ze_T_i (n := 1) (mc := 2) (ms := 12) (As := [.int v0]) (rest := []) hx hb hml hts hown hZ hX hP hD hS hA (hC _) gL_one_X4_triedTime rfl rfl ⟨rfl, rfl⟩ ⟨by decide +kernel, (Nat.le_of_ble_eq_true rfl), (Nat.le_of_ble_eq_true rfl)⟩ hq rfl hl.1 rfl (Nat.le_of_ble_eq_true rfl) ⟨(Nat.le_of_ble_eq_true rfl), (Nat.le_of_ble_eq_true rfl)⟩ rfl dL_one_71 (fun E9 ce9 q9 u9 H locs hpx9 hP hD hS hz hq1 hq2 hq3 => ?_) (fun r9 u9 H locs hp9 hP hD hS hz => ?_)
  · rcases hpx E9 u9 hpx9 with ⟨hK, rfl⟩ | ⟨hK, rfl⟩
    · refine vx_catch (own := RL) (name := eI) hown [] ⟨0, 82, 83, 42⟩ [⟨0, 82, 87, 44⟩] (by rw [htab]; rfl) (fun _ h => absurd h List.not_mem_nil) rfl (by decide) (hts (.classLink RL 42 eI) (by decide +kernel)) (va_Nw.use rfl (hZ.2 _ (zcast _ (Or.inl rfl)))) hq1 hq2 hq3 ?_
      refine lv_astore_n (lv' := [(3, .ref q9), (0, .ref a0), (1, .int (nI (5))), (2, .int (v0))]) hx hb dL_one_83 rfl hl (by decide) rfl (fun ls hl => ?_)
      refine lv_bipush (v := (-101)) hx hb dL_one_84 (by decide) ?_
      exact zr_qi (S := Sum S SX) (post := zwP post px K) (w1 := zwW w1 wx) (Sum.inr u9) hx hb hr hlocks ⟨by rw [hK]; rfl, by omega, _, hpx9⟩ hP hD hS rfl dL_one_86
    · refine vx_catch (own := RL) (name := eS) hown [⟨0, 82, 83, 42⟩] ⟨0, 82, 87, 44⟩ [] (by rw [htab]; rfl) (fun x9 h => by rw [List.mem_singleton.mp h]; exact Or.inr ⟨by decide, _, hts (.classLink RL 42 eI) (by decide +kernel), hN.2.1⟩) rfl (by decide) (hts (.classLink RL 44 eS) (by decide +kernel)) (va_Nw.use rfl (hZ.2 _ (zcast _ (Or.inr (Or.inl rfl))))) hq1 hq2 hq3 ?_
      refine lv_astore_n (lv' := [(3, .ref q9), (0, .ref a0), (1, .int (nI (5))), (2, .int (v0))]) hx hb dL_one_87 rfl hl (by decide) rfl (fun ls hl => ?_)
      refine lv_bipush (v := (-102)) hx hb dL_one_88 (by decide) ?_
      exact zr_qi (S := Sum S SX) (post := zwP post px K) (w1 := zwW w1 wx) (Sum.inr u9) hx hb hr hlocks ⟨by rw [hK]; rfl, by omega, _, hpx9⟩ hP hD hS rfl dL_one_90
  refine lv_goto (tgt := 82) hx hb dL_one_74 (by decide) ?_
  exact zr_qi (S := Sum S SX) (post := zwP post px K) (w1 := zwW w1 wx) (Sum.inl u9) hx hb hr hlocks hp9 hP hD hS rfl dL_one_82

set_option maxHeartbeats 4000000 in
set_option maxRecDepth 100000 in
theorem c_L_one_6 (l : Launch) (D : va_G) (cA : Nat → ClassId) (sz : Nat) (ws : va_W) (a0 : Nat) (fs : List Value) (hq : ws[0]? = some (a0, .inr (4, fs))) {S SX : Type} (post : Int32 → S → Prop) (w1 : S → va_W) (px : String → SX → Prop) (wx : SX → va_W) (K : Nat) (v0 : Int32) (hC : ∀ sz, vx_Met l yX4_lose wsX4_lose ({ frames := 7, cells := 2, slots := 12, locals := 118 }) (va_Pc [.ref a0, .int v0] (zMX D cA ws sz)) (va_Qi post (fun u => zB D (va_A ws sz) (w1 u)) (va_A ws sz)) (zXC px wx D (va_A ws sz)) 2 12 (va_A ws sz)) (hpx : ∀ E u, px E u → zexIS K E) : Met l yL_one wsL_one ({ frames := 9, cells := 2, slots := 12, locals := 168 }) (va_Pc [.ref a0, .int (nI (6)), .int v0] (zMW D cA ws sz)) (va_Qi (zwP post px K) (fun u => zB D (va_A ws sz) (zwW w1 wx u)) (va_A ws sz)) 2 12 (va_A ws sz) := by
  refine zOpenH (cc := cL_one) (maxL := 4) (ret := (some .int)) (own := RL) (by decide) rfl rfl (Nat.le_of_ble_eq_true rfl) ?_
  intro p e s m below meth c ls hx hb hr hml hts hown hlocks htab ⟨⟨⟨hZ, hP, hD0, hsz⟩, hX⟩, hN⟩ hl
  subst hsz
  have hD := hD0.self (sz := s.heap.size)
  generalize hAe : va_A ws s.heap.size = A at hD hX ⊢
  have hA : ∀ q : Nat, s.heap.size ≤ q → A q := fun q h => by rw [← hAe]; exact Or.inr h
  have hS : va_S A s.heap s.heap [] := va_S.rf
  have hl : lv_has ls 4 [(0, .ref a0), (1, .int (nI (6))), (2, .int (v0))] := hl
  refine lv_iload_n hx hb dL_one_0 rfl (lv_at hl 1 rfl) ?_
  refine zf_ne (tgt := 12) hx hb (by omega) dL_one_1 (by decide) (fun c_1 => ?_) (fun c_1 => False.elim (by omega))
  refine lv_iload_n hx hb dL_one_12 rfl (lv_at hl 1 rfl) ?_
  refine lv_iconst (v := nI (1)) hx hb dL_one_13 (by decide) ?_
  refine zc_ne (tgt := 25) hx hb (by omega) (by omega) dL_one_14 (by decide) (fun c_2 => ?_) (fun c_2 => False.elim (by omega))
  refine lv_iload_n hx hb dL_one_25 rfl (lv_at hl 1 rfl) ?_
  refine lv_iconst (v := nI (2)) hx hb dL_one_26 (by decide) ?_
  refine zc_ne (tgt := 38) hx hb (by omega) (by omega) dL_one_27 (by decide) (fun c_3 => ?_) (fun c_3 => False.elim (by omega))
  refine lv_iload_n hx hb dL_one_38 rfl (lv_at hl 1 rfl) ?_
  refine lv_iconst (v := nI (3)) hx hb dL_one_39 (by decide) ?_
  refine zc_ne (tgt := 51) hx hb (by omega) (by omega) dL_one_40 (by decide) (fun c_4 => ?_) (fun c_4 => False.elim (by omega))
  refine lv_iload_n hx hb dL_one_51 rfl (lv_at hl 1 rfl) ?_
  refine lv_iconst (v := nI (4)) hx hb dL_one_52 (by decide) ?_
  refine zc_ne (tgt := 64) hx hb (by omega) (by omega) dL_one_53 (by decide) (fun c_5 => ?_) (fun c_5 => False.elim (by omega))
  refine lv_iload_n hx hb dL_one_64 rfl (lv_at hl 1 rfl) ?_
  refine lv_iconst (v := nI (5)) hx hb dL_one_65 (by decide) ?_
  refine zc_ne (tgt := 77) hx hb (by omega) (by omega) dL_one_66 (by decide) (fun c_6 => ?_) (fun c_6 => False.elim (by omega))
  refine lv_aload_n hx hb dL_one_77 rfl (lv_at hl 0 rfl) ?_
  refine lv_iload_n hx hb dL_one_78 rfl (lv_at hl 2 rfl) ?_
  refine ze_T_i (n := 1) (mc := 2) (ms := 12) (As := [.int v0]) (rest := []) hx hb hml hts hown hZ hX hP hD hS hA (hC _) gL_one_X4_lose rfl rfl ⟨rfl, rfl⟩ ⟨by decide +kernel, (Nat.le_of_ble_eq_true rfl), (Nat.le_of_ble_eq_true rfl)⟩ hq rfl hl.1 rfl (Nat.le_of_ble_eq_true rfl) ⟨(Nat.le_of_ble_eq_true rfl), (Nat.le_of_ble_eq_true rfl)⟩ rfl dL_one_79 (fun E9 ce9 q9 u9 H locs hpx9 hP hD hS hz hq1 hq2 hq3 => ?_) (fun r9 u9 H locs hp9 hP hD hS hz => ?_)
  · rcases hpx E9 u9 hpx9 with ⟨hK, rfl⟩ | ⟨hK, rfl⟩
    · refine vx_catch (own := RL) (name := eI) hown [] ⟨0, 82, 83, 42⟩ [⟨0, 82, 87, 44⟩] (by rw [htab]; rfl) (fun _ h => absurd h List.not_mem_nil) rfl (by decide) (hts (.classLink RL 42 eI) (by decide +kernel)) (va_Nw.use rfl (hZ.2 _ (zcast _ (Or.inl rfl)))) hq1 hq2 hq3 ?_
      refine lv_astore_n (lv' := [(3, .ref q9), (0, .ref a0), (1, .int (nI (6))), (2, .int (v0))]) hx hb dL_one_83 rfl hl (by decide) rfl (fun ls hl => ?_)
      refine lv_bipush (v := (-101)) hx hb dL_one_84 (by decide) ?_
      exact zr_qi (S := Sum S SX) (post := zwP post px K) (w1 := zwW w1 wx) (Sum.inr u9) hx hb hr hlocks ⟨by rw [hK]; rfl, by omega, _, hpx9⟩ hP hD hS rfl dL_one_86
    · refine vx_catch (own := RL) (name := eS) hown [⟨0, 82, 83, 42⟩] ⟨0, 82, 87, 44⟩ [] (by rw [htab]; rfl) (fun x9 h => by rw [List.mem_singleton.mp h]; exact Or.inr ⟨by decide, _, hts (.classLink RL 42 eI) (by decide +kernel), hN.2.1⟩) rfl (by decide) (hts (.classLink RL 44 eS) (by decide +kernel)) (va_Nw.use rfl (hZ.2 _ (zcast _ (Or.inr (Or.inl rfl))))) hq1 hq2 hq3 ?_
      refine lv_astore_n (lv' := [(3, .ref q9), (0, .ref a0), (1, .int (nI (6))), (2, .int (v0))]) hx hb dL_one_87 rfl hl (by decide) rfl (fun ls hl => ?_)
      refine lv_bipush (v := (-102)) hx hb dL_one_88 (by decide) ?_
      exact zr_qi (S := Sum S SX) (post := zwP post px K) (w1 := zwW w1 wx) (Sum.inr u9) hx hb hr hlocks ⟨by rw [hK]; rfl, by omega, _, hpx9⟩ hP hD hS rfl dL_one_90
  exact zr_qi (S := Sum S SX) (post := zwP post px K) (w1 := zwW w1 wx) (Sum.inl u9) hx hb hr hlocks hp9 hP hD hS rfl dL_one_82
