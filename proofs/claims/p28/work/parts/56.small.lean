set_option maxHeartbeats 4000000 in
set_option maxRecDepth 100000 in
theorem c_L_some (l : Launch) (D : va_G) (cA : Nat → ClassId) (ws : va_W) (v : Int32) (k : Nat) (hk0 : 0 < k) (hk : k < 2 ^ 31) : Met l yL_some wsL_some ({ frames := 0, cells := 0, slots := 0, locals := 0 }) (va_Pc [.int (v), .int (nI (k))] (zS D cA ws)) (vp_Si (fun r => r = nI (sm v k))) 0 0 zF := by
  refine zOpen (cc := cL_some) (maxL := 2) (ret := (some .int)) (own := RL) (by decide) rfl rfl (Nat.le_of_ble_eq_true rfl) ?_
  intro p e s m below meth c ls hx hb hr hml hts hown hlocks hnm ⟨hZ, hP⟩ hl
  have hl : lv_has ls 2 [(0, .int (v)), (1, .int (nI (k)))] := hl
  have hsu := su_lt v
  refine lv_iload_n hx hb dL_some_0 rfl (lv_at hl 0 rfl) ?_
  refine lv_iconst (v := nI (2)) hx hb dL_some_1 (by decide) ?_
  refine lv_iushr (v := nI (su (v))) hx hb dL_some_2 (su_eq _) ?_
  refine lv_iload_n hx hb dL_some_3 rfl (lv_at hl 1 rfl) ?_
  refine zo_rem hx hb (by omega) (by omega) (by omega) dL_some_4 ?_
  exact zr_i hx hb hr hlocks (rfl) dL_some_5

set_option maxHeartbeats 4000000 in
set_option maxRecDepth 100000 in
theorem c_L_start (l : Launch) (D : va_G) (cA : Nat → ClassId) (ws : va_W) (kf fa : Nat) (ff : Nat → Int32) (hkf : ws[kf]? = some (fa, zInts cA 24 ff)) (t fi : Nat) (b : Nat → Nat) (hb0 : b 0 = 0) (hinc : ∀ k, k < fi → b k ≤ b (k + 1) ∧ ff (6 * t + k) = nI (b (k + 1) - b k)) (h24 : 6 * t + fi ≤ 24) : Met l yL_start wsL_start ({ frames := 0, cells := 0, slots := 0, locals := 0 }) (va_Pc [.ref fa, .int (nI (t)), .int (nI (fi))] (zS D cA ws)) (vp_Si (fun r => r = nI (b fi))) 0 0 zF := by
  refine zOpen (cc := cL_start) (maxL := 5) (ret := (some .int)) (own := RL) (by decide) rfl rfl (Nat.le_of_ble_eq_true rfl) ?_
  intro p e s m below meth c ls hx hb hr hml hts hown hlocks hnm ⟨hZ, hP⟩ hl
  have hl : lv_has ls 5 [(0, .ref fa), (1, .int (nI (t))), (2, .int (nI (fi)))] := hl
  refine lv_iconst (v := nI (0)) hx hb dL_start_0 (by decide) ?_
  refine lv_istore_n (lv' := [(3, .int (nI (0))), (0, .ref fa), (1, .int (nI (t))), (2, .int (nI (fi)))]) hx hb dL_start_1 rfl hl (by decide) rfl (fun ls hl => ?_)
  refine lv_iconst (v := nI (0)) hx hb dL_start_2 (by decide) ?_
  refine lv_istore (lv' := [(4, .int (nI (0))), (3, .int (nI (0))), (0, .ref fa), (1, .int (nI (t))), (2, .int (nI (fi)))]) hx hb dL_start_3 hl (by decide) rfl (fun ls hl => ?_)
  refine z_loop (α := Nat × Nat) (fun v => fi - v.2) (fun v ls => lv_has ls 5 [(0, .ref fa), (1, .int (nI (t))), (2, .int (nI (fi))), (3, .int (nI (v.1))), (4, .int (nI (v.2)))] ∧ v.1 = b v.2 ∧ v.2 ≤ fi) (fun _ => []) (0, 0) ⟨lv_sub hl [2, 3, 4, 1, 0] rfl, ⟨hb0.symm, Nat.zero_le _⟩⟩ ?_
  intro v ih5 ls hv
  obtain ⟨q, k⟩ := v
  obtain ⟨hl, hI⟩ := hv
  have hl : lv_has ls 5 [(0, .ref fa), (1, .int (nI (t))), (2, .int (nI (fi))), (3, .int (nI (q))), (4, .int (nI (k)))] := hl
  have hI : q = b k ∧ k ≤ fi := hI
  refine lv_iload hx hb dL_start_5 (lv_at hl 4 rfl) ?_
  refine lv_iload_n hx hb dL_start_7 rfl (lv_at hl 2 rfl) ?_
  refine zc_ge (tgt := 29) hx hb (by omega) (by omega) dL_start_8 (by decide) (fun c_1 => ?_) (fun c_1 => ?_)
  · refine lv_iload_n hx hb dL_start_29 rfl (lv_at hl 3 rfl) ?_
    exact zr_i hx hb hr hlocks (by rw [hI.1, show k = fi by omega]) dL_start_30
  · refine lv_iload_n hx hb dL_start_11 rfl (lv_at hl 3 rfl) ?_
    refine lv_aload_n hx hb dL_start_12 rfl (lv_at hl 0 rfl) ?_
    refine lv_bipush (v := nI (6)) hx hb dL_start_13 (by decide) ?_
    refine lv_iload_n hx hb dL_start_15 rfl (lv_at hl 1 rfl) ?_
    refine zo_mul hx hb dL_start_16 ?_
    refine lv_iload hx hb dL_start_17 (lv_at hl 4 rfl) ?_
    refine zo_add hx hb dL_start_19 ?_
    refine va_iald hx hb hZ.1 hP kf 0 hkf rfl (vp_in_nI (show (6 * t) + k < 24 by omega) (by omega)) dL_start_20 ?_
    rw [nI_clamp (show (6 * t) + k < 2 ^ 31 by omega)]
    refine zx_val (y := nI (b (k + 1) - b k)) ((hinc k (by omega)).2) ?_
    refine zo_add hx hb dL_start_21 ?_
    refine lv_istore_n (lv' := [(3, .int (nI (q + (b (k + 1) - b k)))), (0, .ref fa), (1, .int (nI (t))), (2, .int (nI (fi))), (4, .int (nI (k)))]) hx hb dL_start_22 rfl hl (by decide) rfl (fun ls hl => ?_)
    refine lv_iinc (v := nI (k + 1)) (lv' := [(4, .int (nI (k + 1))), (3, .int (nI (q + (b (k + 1) - b k)))), (0, .ref fa), (1, .int (nI (t))), (2, .int (nI (fi)))]) hx hb dL_start_23 hl (k := 4) rfl (zinc 1 _) (by decide) rfl (fun ls hl => ?_)
    refine lv_goto (tgt := 5) hx hb dL_start_26 (by decide) ?_
    exact ih5 (q + (b (k + 1) - b k), k + 1) ls (by first | omega | (dsimp only; omega)) ⟨lv_sub hl [2, 3, 4, 1, 0] rfl, ⟨by dsimp only; have := (hinc k (by first | omega | (dsimp only; omega) | (dsimp only at *; omega))).1; omega, by dsimp only; omega⟩⟩

set_option maxHeartbeats 4000000 in
set_option maxRecDepth 100000 in
theorem c_L_lies (l : Launch) (D : va_G) (cA : Nat → ClassId) (ws : va_W) (kt ta : Nat) (tf : Nat → Int32) (hkt : ws[kt]? = some (ta, zInts cA 24 tf)) (t pl tr le : Nat) (htr : tf t = nI tr) (hle : tf (4 + t) = nI le) (h1 : 1 ≤ tr) (h2 : 1 ≤ le) (h3 : tr ≤ 8) (h4 : le ≤ 200) (hp : pl ≤ tr * le) (ht : t < 4) : Met l yL_lies wsL_lies ({ frames := 0, cells := 0, slots := 0, locals := 0 }) (va_Pc [.ref ta, .int (nI (t)), .int (nI (pl))] (zS D cA ws)) (vp_Si (fun r => r = nI (lies tr le pl))) 0 0 zF := by
  refine zOpen (cc := cL_lies) (maxL := 8) (ret := (some .int)) (own := RL) (by decide) rfl rfl (Nat.le_of_ble_eq_true rfl) ?_
  intro p e s m below meth c ls hx hb hr hml hts hown hlocks hnm ⟨hZ, hP⟩ hl
  have hl : lv_has ls 8 [(0, .ref ta), (1, .int (nI (t))), (2, .int (nI (pl)))] := hl
  have hm8 : tr * le ≤ 8 * 200 := Nat.mul_le_mul h3 h4
  have hm0 : 0 < tr * le := Nat.mul_pos (by omega) (by omega)
  obtain ⟨M, hM⟩ : ∃ z, z = (if pl ≤ tr * le - 1 then pl else tr * le - 1) := ⟨_, rfl⟩
  have hMl : M ≤ tr * le - 1 := by rw [hM]; split <;> omega
  refine lv_iconst (v := nI (0)) hx hb dL_lies_0 (by decide) ?_
  refine lv_istore_n (lv' := [(3, .int (nI (0))), (0, .ref ta), (1, .int (nI (t))), (2, .int (nI (pl)))]) hx hb dL_lies_1 rfl hl (by decide) rfl (fun ls hl => ?_)
  refine lv_iconst (v := nI (0)) hx hb dL_lies_2 (by decide) ?_
  refine lv_istore (lv' := [(4, .int (nI (0))), (3, .int (nI (0))), (0, .ref ta), (1, .int (nI (t))), (2, .int (nI (pl)))]) hx hb dL_lies_3 hl (by decide) rfl (fun ls hl => ?_)
  refine lv_iconst (v := nI (1)) hx hb dL_lies_5 (by decide) ?_
  refine lv_istore (lv' := [(5, .int (nI (1))), (4, .int (nI (0))), (3, .int (nI (0))), (0, .ref ta), (1, .int (nI (t))), (2, .int (nI (pl)))]) hx hb dL_lies_6 hl (by decide) rfl (fun ls hl => ?_)
  refine lv_aload_n hx hb dL_lies_8 rfl (lv_at hl 3 rfl) ?_
  refine lv_iload_n hx hb dL_lies_9 rfl (lv_at hl 4 rfl) ?_
  refine va_iald hx hb hZ.1 hP kt 0 hkt rfl (vp_in_nI (show t < 24 by omega) (by omega)) dL_lies_10 ?_
  rw [nI_clamp (show t < 2 ^ 31 by omega)]
  refine zx_val (y := nI (tr)) (htr) ?_
  refine lv_aload_n hx hb dL_lies_11 rfl (lv_at hl 3 rfl) ?_
  refine lv_iconst (v := nI (4)) hx hb dL_lies_12 (by decide) ?_
  refine lv_iload_n hx hb dL_lies_13 rfl (lv_at hl 4 rfl) ?_
  refine zo_add hx hb dL_lies_14 ?_
  refine va_iald hx hb hZ.1 hP kt 0 hkt rfl (vp_in_nI (show 4 + t < 24 by omega) (by omega)) dL_lies_15 ?_
  rw [nI_clamp (show 4 + t < 2 ^ 31 by omega)]
  refine zx_val (y := nI (le)) (hle) ?_
  refine zo_mul hx hb dL_lies_16 ?_
  refine lv_iconst (v := nI (1)) hx hb dL_lies_17 (by decide) ?_
  refine zo_sub hx hb (by omega) dL_lies_18 ?_
  refine lv_istore (lv' := [(6, .int (nI ((tr * le) - 1))), (5, .int (nI (1))), (4, .int (nI (0))), (3, .int (nI (0))), (0, .ref ta), (1, .int (nI (t))), (2, .int (nI (pl)))]) hx hb dL_lies_19 hl (by decide) rfl (fun ls hl => ?_)
  refine lv_iconst (v := nI (0)) hx hb dL_lies_21 (by decide) ?_
  refine lv_istore (lv' := [(7, .int (nI (0))), (6, .int (nI ((tr * le) - 1))), (5, .int (nI (1))), (4, .int (nI (0))), (3, .int (nI (0))), (0, .ref ta), (1, .int (nI (t))), (2, .int (nI (pl)))]) hx hb dL_lies_22 hl (by decide) rfl (fun ls hl => ?_)
  refine z_loop (α := Nat × Nat × Int32 × Nat) (fun v => M - v.2.2.2) (fun v ls => lv_has ls 8 [(0, .ref ta), (1, .int (nI (t))), (2, .int (nI (pl))), (6, .int (nI (tr * le - 1))), (3, .int (nI (v.1))), (4, .int (nI (v.2.1))), (5, .int (v.2.2.1)), (7, .int (nI (v.2.2.2)))] ∧ v.2.1 = v.2.2.2 / le ∧ v.1 = alq le v.2.2.2 ∧ (v.2.1 % 2 = 0 → v.2.2.1 = nI 1) ∧ (¬ v.2.1 % 2 = 0 → v.2.2.1 = -1) ∧ v.2.2.2 ≤ M) (fun _ => []) (0, 0, nI (1), 0) ⟨lv_sub hl [5, 6, 7, 1, 4, 3, 2, 0] rfl, ⟨by rw [Nat.zero_div], by unfold alq; rw [Nat.zero_div, Nat.zero_mod]; rfl, fun _ => rfl, fun g => absurd rfl g, Nat.zero_le _⟩⟩ ?_
  intro v ih24 ls hv
  obtain ⟨a, q, h, k⟩ := v
  obtain ⟨hl, hI⟩ := hv
  have hl : lv_has ls 8 [(0, .ref ta), (1, .int (nI (t))), (2, .int (nI (pl))), (6, .int (nI (tr * le - 1))), (3, .int (nI (a))), (4, .int (nI (q))), (5, .int (h)), (7, .int (nI (k)))] := hl
  have hI : q = k / le ∧ a = alq le k ∧ (q % 2 = 0 → h = nI 1) ∧ (¬ q % 2 = 0 → h = -1) ∧ k ≤ M := hI
  obtain ⟨hq, ha, he, ho, hkM⟩ := hI
  have hhM : k ≤ tr * le := by omega
  have hal : a < le := by rw [ha]; have := Nat.mod_lt k (show 0 < le by omega); unfold alq; split <;> omega
  have hqk : q ≤ k := by rw [hq]; exact Nat.div_le_self _ _
  refine lv_iload hx hb dL_lies_24 (lv_at hl 7 rfl) ?_
  refine z_join (α := Nat) (pc' := 38) (fun v ls => lv_has ls 8 [(0, .ref ta), (1, .int (nI (t))), (2, .int (nI (pl))), (3, .int (nI (a))), (4, .int (nI (q))), (5, .int (h)), (6, .int (nI (tr * le - 1))), (7, .int (nI (k)))] ∧ v = M) (fun v => [.int (nI (v)), .int (nI (k))]) ?_ (fun J38 => ?_)
  · intro x ls hv
    obtain ⟨hl, hI⟩ := hv
    have hl : lv_has ls 8 [(0, .ref ta), (1, .int (nI (t))), (2, .int (nI (pl))), (3, .int (nI (a))), (4, .int (nI (q))), (5, .int (h)), (6, .int (nI (tr * le - 1))), (7, .int (nI (k)))] := hl
    have hI : x = M := hI
    refine zc_ge (tgt := 76) hx hb (by omega) (by omega) dL_lies_38 (by decide) (fun c_1 => ?_) (fun c_1 => ?_)
    · refine lv_sipush (v := nI (1000)) hx hb dL_lies_76 (by decide) ?_
      refine lv_iload hx hb dL_lies_79 (lv_at hl 4 rfl) ?_
      refine zo_mul hx hb dL_lies_81 ?_
      refine lv_iload_n hx hb dL_lies_82 rfl (lv_at hl 3 rfl) ?_
      refine zo_add hx hb dL_lies_83 ?_
      exact zr_i hx hb hr hlocks (by rw [lies_of (by omega) (by omega) hp hM, show M = k by omega, hq, ha]) dL_lies_84
    · refine lv_iload hx hb dL_lies_41 (lv_at hl 7 rfl) ?_
      refine lv_iconst (v := nI (1)) hx hb dL_lies_43 (by decide) ?_
      refine zo_add hx hb dL_lies_44 ?_
      refine lv_aload_n hx hb dL_lies_45 rfl (lv_at hl 0 rfl) ?_
      refine lv_iconst (v := nI (4)) hx hb dL_lies_46 (by decide) ?_
      refine lv_iload_n hx hb dL_lies_47 rfl (lv_at hl 1 rfl) ?_
      refine zo_add hx hb dL_lies_48 ?_
      refine va_iald hx hb hZ.1 hP kt 0 hkt rfl (vp_in_nI (show 4 + t < 24 by omega) (by omega)) dL_lies_49 ?_
      rw [nI_clamp (show 4 + t < 2 ^ 31 by omega)]
      refine zx_val (y := nI (le)) (hle) ?_
      refine zo_rem hx hb (by omega) (by omega) (by omega) dL_lies_50 ?_
      obtain ⟨hn1, hn2⟩ := nx_div (le := le) (k := k) (by omega)
      have hr9 : k % le < le := Nat.mod_lt _ (by omega)
      rcases Nat.lt_or_ge (k % le + 1) le with hlt9 | hge9
      · obtain ⟨he1, he2⟩ := hn2 hlt9
        rw [he2]
        refine zf_ne (tgt := 65) hx hb (by omega) dL_lies_51 (by decide) (fun c_2 => ?_) (fun c_2 => False.elim (by omega))
        refine lv_iload_n hx hb dL_lies_65 rfl (lv_at hl 3 rfl) ?_
        refine lv_iload hx hb dL_lies_66 (lv_at hl 5 rfl) ?_
        refine lv_iadd hx hb dL_lies_68 ?_
        refine zx_val (y := nI (alq le (k + 1))) (alq_in (by omega) hlt9 hq ha he ho) ?_
        refine lv_istore_n (lv' := [(3, .int (nI (alq le (k + 1)))), (0, .ref ta), (1, .int (nI (t))), (2, .int (nI (pl))), (4, .int (nI (q))), (5, .int (h)), (6, .int (nI (tr * le - 1))), (7, .int (nI (k)))]) hx hb dL_lies_69 rfl hl (by decide) rfl (fun ls hl => ?_)
        refine lv_iinc (v := nI (k + 1)) (lv' := [(7, .int (nI (k + 1))), (3, .int (nI (alq le (k + 1)))), (0, .ref ta), (1, .int (nI (t))), (2, .int (nI (pl))), (4, .int (nI (q))), (5, .int (h)), (6, .int (nI (tr * le - 1)))]) hx hb dL_lies_70 hl (k := 7) rfl (zinc 1 _) (by decide) rfl (fun ls hl => ?_)
        refine lv_goto (tgt := 24) hx hb dL_lies_73 (by decide) ?_
        exact ih24 (alq le (k + 1), q, h, k + 1) ls (by first | omega | (dsimp only; omega)) ⟨lv_sub hl [2, 3, 4, 7, 1, 5, 6, 0] rfl, ⟨by rw [he1, hq], rfl, he, ho, by first | omega | (dsimp only; omega) | (dsimp only at *; omega)⟩⟩
      · obtain ⟨he1, he2⟩ := hn1 (by omega)
        rw [he2]
        refine zf_ne (tgt := 65) hx hb (by omega) dL_lies_51 (by decide) (fun c_3 => False.elim (by omega)) (fun c_3 => ?_)
        refine lv_iinc (v := nI (q + 1)) (lv' := [(4, .int (nI (q + 1))), (0, .ref ta), (1, .int (nI (t))), (2, .int (nI (pl))), (3, .int (nI (a))), (5, .int (h)), (6, .int (nI (tr * le - 1))), (7, .int (nI (k)))]) hx hb dL_lies_54 hl (k := 4) rfl (zinc 1 _) (by decide) rfl (fun ls hl => ?_)
        refine lv_iload hx hb dL_lies_57 (lv_at hl 5 rfl) ?_
        refine lv_ineg hx hb dL_lies_59 ?_
        refine lv_istore (lv' := [(5, .int (-(h))), (4, .int (nI (q + 1))), (0, .ref ta), (1, .int (nI (t))), (2, .int (nI (pl))), (3, .int (nI (a))), (6, .int (nI (tr * le - 1))), (7, .int (nI (k)))]) hx hb dL_lies_60 hl (by decide) rfl (fun ls hl => ?_)
        refine lv_goto (tgt := 70) hx hb dL_lies_62 (by decide) ?_
        refine lv_iinc (v := nI (k + 1)) (lv' := [(7, .int (nI (k + 1))), (5, .int (-(h))), (4, .int (nI (q + 1))), (0, .ref ta), (1, .int (nI (t))), (2, .int (nI (pl))), (3, .int (nI (a))), (6, .int (nI (tr * le - 1)))]) hx hb dL_lies_70 hl (k := 7) rfl (zinc 1 _) (by decide) rfl (fun ls hl => ?_)
        refine lv_goto (tgt := 24) hx hb dL_lies_73 (by decide) ?_
        exact ih24 (a, q + 1, -(h), k + 1) ls (by first | omega | (dsimp only; omega)) ⟨lv_sub hl [3, 4, 5, 7, 6, 2, 1, 0] rfl, ⟨by rw [he1, hq], by rw [alq_out (le := le) (k := k) (by first | omega | (dsimp only; omega) | (dsimp only at *; omega)) (by first | omega | (dsimp only; omega) | (dsimp only at *; omega))]; exact ha, fun g => by rw [ho (by first | omega | (dsimp only; omega) | (dsimp only at *; omega))]; rfl, fun g => by rw [he (by first | omega | (dsimp only; omega) | (dsimp only at *; omega))]; rfl, by first | omega | (dsimp only; omega) | (dsimp only at *; omega)⟩⟩
  · skip
    refine lv_iload_n hx hb dL_lies_26 rfl (lv_at hl 2 rfl) ?_
    refine lv_iload hx hb dL_lies_27 (lv_at hl 3 rfl) ?_
    refine zc_le (tgt := 37) hx hb (by omega) (by omega) dL_lies_29 (by decide) (fun c_4 => ?_) (fun c_4 => ?_)
    · refine lv_iload_n hx hb dL_lies_37 rfl (lv_at hl 2 rfl) ?_
      exact J38 (pl) ls ⟨lv_sub hl [0, 1, 2, 4, 5, 6, 3, 7] rfl, by rw [hM, if_pos (by omega)]⟩
    · refine lv_iload hx hb dL_lies_32 (lv_at hl 3 rfl) ?_
      refine lv_goto (tgt := 38) hx hb dL_lies_34 (by decide) ?_
      exact J38 (tr * le - 1) ls ⟨lv_sub hl [0, 1, 2, 4, 5, 6, 3, 7] rfl, by rw [hM, if_neg (by omega)]⟩

set_option maxHeartbeats 4000000 in
set_option maxRecDepth 100000 in
theorem c_L_way (l : Launch) (D : va_G) (cA : Nat → ClassId) (ws : va_W) (kt ta : Nat) (tf : Nat → Int32) (hkt : ws[kt]? = some (ta, zInts cA 24 tf)) (kv va : Nat) (vf : Nat → Int32) (hkv : ws[kv]? = some (va, zInts cA 10 vf)) (d t tr le mk : Nat) (hvt : vf (6 + d) = nI t) (htr : tf t = nI tr) (hle : tf (4 + t) = nI le) (hmk : vf d = nI mk) (hmk1 : mk ≤ 1) (h1 : 1 ≤ tr) (h2 : 1 ≤ le) (h3 : tr ≤ 8) (h4 : le ≤ 200) (ht : t < 4) (hd : d < 2) (fr to : Nat) (hfr : fr ≤ tr * le) (hto : to ≤ tr * le) : Met l yL_way wsL_way ({ frames := 1, cells := 0, slots := 0, locals := 27 }) (va_Pc [.ref ta, .ref va, .int (nI (d)), .int (nI (fr)), .int (nI (to))] (zS D cA ws)) (vp_Si (fun r => r = nI (wayT (zpa mk) (zsp mk) tr le fr to))) 0 0 zF := by
  refine zOpen (cc := cL_way) (maxL := 9) (ret := (some .int)) (own := RL) (by decide) rfl rfl (Nat.le_of_ble_eq_true rfl) ?_
  intro p e s m below meth c ls hx hb hr hml hts hown hlocks hnm ⟨hZ, hP⟩ hl
  have hl : lv_has ls 9 [(0, .ref ta), (1, .ref va), (2, .int (nI (d))), (3, .int (nI (fr))), (4, .int (nI (to)))] := hl
  obtain ⟨hA1, hA2⟩ := lies_mod (tr := tr) (le := le) (p := fr) (by omega) h4
  obtain ⟨hB1, hB2⟩ := lies_mod (tr := tr) (le := le) (p := to) (by omega) h4
  have hA3 := lies_le (tr := tr) (le := le) (p := fr) (by omega) (by omega) h4 h3
  have hB3 := lies_le (tr := tr) (le := le) (p := to) (by omega) (by omega) h4 h3
  have hC1 := alo_lt (tr := tr) (le := le) (p := fr) (by omega)
  have hC2 := alo_lt (tr := tr) (le := le) (p := to) (by omega)
  have hC3 := trk_le (tr := tr) (le := le) (p := fr) (by omega)
  have hC4 := trk_le (tr := tr) (le := le) (p := to) (by omega)
  have hE1 := dif_le (a := alo tr le fr) (b := alo tr le to) (c := 200) (by omega) (by omega)
  have hE2 := dif_le (a := trk tr le fr) (b := trk tr le to) (c := 8) (by omega) (by omega)
  refine lv_aload_n hx hb dL_way_0 rfl (lv_at hl 0 rfl) ?_
  refine lv_aload_n hx hb dL_way_1 rfl (lv_at hl 1 rfl) ?_
  refine lv_bipush (v := nI (6)) hx hb dL_way_2 (by decide) ?_
  refine lv_iload_n hx hb dL_way_4 rfl (lv_at hl 2 rfl) ?_
  refine zo_add hx hb dL_way_5 ?_
  refine va_iald hx hb hZ.1 hP kv 0 hkv rfl (vp_in_nI (show 6 + d < 10 by omega) (by omega)) dL_way_6 ?_
  rw [nI_clamp (show 6 + d < 2 ^ 31 by omega)]
  refine zx_val (y := nI (t)) (hvt) ?_
  refine lv_iload_n hx hb dL_way_7 rfl (lv_at hl 3 rfl) ?_
  refine zk_S_i (n := 3) (As := [.ref ta, .int (nI (t)), .int (nI (fr))]) (rest := []) hx hb hml hts hown hZ hP (c_L_lies l D cA _ kt ta tf hkt t fr tr le htr hle h1 h2 h3 h4 hfr ht) gL_way_L_lies rfl ⟨rfl, rfl⟩ ⟨by decide +kernel, Nat.le_of_ble_eq_true rfl, Nat.le_of_ble_eq_true rfl⟩ hl.1 rfl (Nat.le_of_ble_eq_true rfl) ⟨Nat.le_of_ble_eq_true rfl, Nat.le_of_ble_eq_true rfl⟩ rfl dL_way_8 (fun r_1 hr_2 => ?_)
  obtain rfl := show r_1 = _ from hr_2
  refine lv_istore (lv' := [(5, .int (nI (lies tr le fr))), (0, .ref ta), (1, .ref va), (2, .int (nI (d))), (3, .int (nI (fr))), (4, .int (nI (to)))]) hx hb dL_way_11 hl (by decide) rfl (fun ls hl => ?_)
  refine lv_aload_n hx hb dL_way_13 rfl (lv_at hl 1 rfl) ?_
  refine lv_aload_n hx hb dL_way_14 rfl (lv_at hl 2 rfl) ?_
  refine lv_bipush (v := nI (6)) hx hb dL_way_15 (by decide) ?_
  refine lv_iload_n hx hb dL_way_17 rfl (lv_at hl 3 rfl) ?_
  refine zo_add hx hb dL_way_18 ?_
  refine va_iald hx hb hZ.1 hP kv 0 hkv rfl (vp_in_nI (show 6 + d < 10 by omega) (by omega)) dL_way_19 ?_
  rw [nI_clamp (show 6 + d < 2 ^ 31 by omega)]
  refine zx_val (y := nI (t)) (hvt) ?_
  refine lv_iload hx hb dL_way_20 (lv_at hl 5 rfl) ?_
  refine zk_S_i (n := 3) (As := [.ref ta, .int (nI (t)), .int (nI (to))]) (rest := []) hx hb hml hts hown hZ hP (c_L_lies l D cA _ kt ta tf hkt t to tr le htr hle h1 h2 h3 h4 hto ht) gL_way_L_lies rfl ⟨rfl, rfl⟩ ⟨by decide +kernel, Nat.le_of_ble_eq_true rfl, Nat.le_of_ble_eq_true rfl⟩ hl.1 rfl (Nat.le_of_ble_eq_true rfl) ⟨Nat.le_of_ble_eq_true rfl, Nat.le_of_ble_eq_true rfl⟩ rfl dL_way_22 (fun r_3 hr_4 => ?_)
  obtain rfl := show r_3 = _ from hr_4
  refine lv_istore (lv' := [(6, .int (nI (lies tr le to))), (5, .int (nI (lies tr le fr))), (0, .ref ta), (1, .ref va), (2, .int (nI (d))), (3, .int (nI (fr))), (4, .int (nI (to)))]) hx hb dL_way_25 hl (by decide) rfl (fun ls hl => ?_)
  refine lv_iload hx hb dL_way_27 (lv_at hl 1 rfl) ?_
  refine lv_sipush (v := nI (1000)) hx hb dL_way_29 (by decide) ?_
  refine zo_rem hx hb (by omega) (by omega) (by omega) dL_way_32 ?_
  refine zx_val (y := nI (alo tr le fr)) (by rw [hA1]) ?_
  refine lv_iload hx hb dL_way_33 (lv_at hl 0 rfl) ?_
  refine lv_sipush (v := nI (1000)) hx hb dL_way_35 (by decide) ?_
  refine zo_rem hx hb (by omega) (by omega) (by omega) dL_way_38 ?_
  refine zx_val (y := nI (alo tr le to)) (by rw [hB1]) ?_
  refine lv_isub hx hb dL_way_39 ?_
  refine zx_val (y := nI (alo tr le fr) - nI (alo tr le to)) (rfl) ?_
  refine lv_istore (lv' := [(7, .int (nI (alo tr le fr) - nI (alo tr le to))), (6, .int (nI (lies tr le to))), (5, .int (nI (lies tr le fr))), (0, .ref ta), (1, .ref va), (2, .int (nI (d))), (3, .int (nI (fr))), (4, .int (nI (to)))]) hx hb dL_way_40 hl (by decide) rfl (fun ls hl => ?_)
  refine lv_iload hx hb dL_way_42 (lv_at hl 2 rfl) ?_
  refine lv_sipush (v := nI (1000)) hx hb dL_way_44 (by decide) ?_
  refine zo_div hx hb (by omega) (by omega) (by omega) dL_way_47 ?_
  refine zx_val (y := nI (trk tr le fr)) (by rw [hA2]) ?_
  refine lv_iload hx hb dL_way_48 (lv_at hl 1 rfl) ?_
  refine lv_sipush (v := nI (1000)) hx hb dL_way_50 (by decide) ?_
  refine zo_div hx hb (by omega) (by omega) (by omega) dL_way_53 ?_
  refine zx_val (y := nI (trk tr le to)) (by rw [hB2]) ?_
  refine lv_isub hx hb dL_way_54 ?_
  refine zx_val (y := nI (trk tr le fr) - nI (trk tr le to)) (rfl) ?_
  refine lv_istore (lv' := [(8, .int (nI (trk tr le fr) - nI (trk tr le to))), (7, .int (nI (alo tr le fr) - nI (alo tr le to))), (6, .int (nI (lies tr le to))), (5, .int (nI (lies tr le fr))), (0, .ref ta), (1, .ref va), (2, .int (nI (d))), (3, .int (nI (fr))), (4, .int (nI (to)))]) hx hb dL_way_55 hl (by decide) rfl (fun ls hl => ?_)
  refine z_join (α := Unit) (pc' := 70) (fun _ ls => lv_has ls 9 [(0, .ref ta), (1, .ref va), (2, .int (nI (d))), (3, .int (nI (fr))), (4, .int (nI (to))), (5, .int (nI (lies tr le fr))), (6, .int (nI (lies tr le to))), (8, .int (nI (trk tr le fr) - nI (trk tr le to)))]) (fun _ => [.int (nI (dif (alo tr le fr) (alo tr le to)))]) ?_ (fun J70 => ?_)
  · intro _ ls hl
    have hl : lv_has ls 9 [(0, .ref ta), (1, .ref va), (2, .int (nI (d))), (3, .int (nI (fr))), (4, .int (nI (to))), (5, .int (nI (lies tr le fr))), (6, .int (nI (lies tr le to))), (8, .int (nI (trk tr le fr) - nI (trk tr le to)))] := hl
    refine lv_istore (lv' := [(7, .int (nI (dif (alo tr le fr) (alo tr le to)))), (0, .ref ta), (1, .ref va), (2, .int (nI (d))), (3, .int (nI (fr))), (4, .int (nI (to))), (5, .int (nI (lies tr le fr))), (6, .int (nI (lies tr le to))), (8, .int (nI (trk tr le fr) - nI (trk tr le to)))]) hx hb dL_way_70 hl (by decide) rfl (fun ls hl => ?_)
    refine z_join (α := Unit) (pc' := 85) (fun _ ls => lv_has ls 9 [(0, .ref ta), (1, .ref va), (2, .int (nI (d))), (3, .int (nI (fr))), (4, .int (nI (to))), (5, .int (nI (lies tr le fr))), (6, .int (nI (lies tr le to))), (7, .int (nI (dif (alo tr le fr) (alo tr le to))))]) (fun _ => [.int (nI (dif (trk tr le fr) (trk tr le to)))]) ?_ (fun J85 => ?_)
    · intro _ ls hl
      have hl : lv_has ls 9 [(0, .ref ta), (1, .ref va), (2, .int (nI (d))), (3, .int (nI (fr))), (4, .int (nI (to))), (5, .int (nI (lies tr le fr))), (6, .int (nI (lies tr le to))), (7, .int (nI (dif (alo tr le fr) (alo tr le to))))] := hl
      refine lv_istore (lv' := [(8, .int (nI (dif (trk tr le fr) (trk tr le to)))), (0, .ref ta), (1, .ref va), (2, .int (nI (d))), (3, .int (nI (fr))), (4, .int (nI (to))), (5, .int (nI (lies tr le fr))), (6, .int (nI (lies tr le to))), (7, .int (nI (dif (alo tr le fr) (alo tr le to))))]) hx hb dL_way_85 hl (by decide) rfl (fun ls hl => ?_)
      refine lv_aload_n hx hb dL_way_87 rfl (lv_at hl 2 rfl) ?_
      refine lv_iload_n hx hb dL_way_88 rfl (lv_at hl 3 rfl) ?_
      refine va_iald hx hb hZ.1 hP kv 0 hkv rfl (vp_in_nI (show d < 10 by omega) (by omega)) dL_way_89 ?_
      rw [nI_clamp (show d < 2 ^ 31 by omega)]
      refine zx_val (y := nI (mk)) (hmk) ?_
      refine zf_ne (tgt := 104) hx hb (by omega) dL_way_90 (by decide) (fun c_5 => ?_) (fun c_5 => ?_)
      · refine lv_iconst (v := nI (2)) hx hb dL_way_104 (by decide) ?_
        refine lv_iload hx hb dL_way_105 (lv_at hl 8 rfl) ?_
        refine zo_mul hx hb dL_way_107 ?_
        refine lv_iload hx hb dL_way_108 (lv_at hl 0 rfl) ?_
        refine zo_add hx hb dL_way_110 ?_
        exact zr_i hx hb hr hlocks (by unfold wayT zpa zsp; congr 1; split <;> omega) dL_way_111
      · refine lv_iload hx hb dL_way_93 (lv_at hl 8 rfl) ?_
        refine lv_bipush (v := nI (9)) hx hb dL_way_95 (by decide) ?_
        refine lv_iload hx hb dL_way_97 (lv_at hl 0 rfl) ?_
        refine zo_mul hx hb dL_way_99 ?_
        refine zo_add hx hb dL_way_100 ?_
        refine lv_goto (tgt := 111) hx hb dL_way_101 (by decide) ?_
        exact zr_i hx hb hr hlocks (by unfold wayT zpa zsp; congr 1; split <;> omega) dL_way_111
    · rcases Nat.lt_or_ge (trk tr le fr) (trk tr le to) with hdl | hdl
      · refine lv_iload hx hb dL_way_72 (lv_at hl 8 rfl) ?_
        refine lv_if_ge (tgt := 83) hx hb dL_way_74 (by decide) (fun c_6 => absurd c_6 (Int32.not_le.mpr (pk_sneg (by omega) hdl))) (fun c_6 => ?_)
        refine lv_iload hx hb dL_way_77 (lv_at hl 8 rfl) ?_
        refine lv_ineg hx hb dL_way_79 ?_
        refine zx_val (y := nI ((trk tr le to) - (trk tr le fr))) (zneg_sub (by omega)) ?_
        refine lv_goto (tgt := 85) hx hb dL_way_80 (by decide) ?_
        refine zx_val (y := nI (dif (trk tr le fr) (trk tr le to))) (by congr 1; unfold dif; split <;> omega) ?_
        exact J85 () ls (lv_sub hl [1, 2, 3, 4, 5, 6, 7, 0] rfl)
      · refine lv_iload hx hb dL_way_72 (lv_at hl 8 rfl) ?_
        refine lv_if_ge (tgt := 83) hx hb dL_way_74 (by decide) (fun c_7 => ?_) (fun c_7 => absurd (by rw [pk_sub hdl]; exact nI_pos' (by omega)) c_7)
        refine lv_iload hx hb dL_way_83 (lv_at hl 8 rfl) ?_
        refine zx_val (y := nI (dif (trk tr le fr) (trk tr le to))) (by rw [pk_sub hdl]; congr 1; unfold dif; split <;> omega) ?_
        exact J85 () ls (lv_sub hl [1, 2, 3, 4, 5, 6, 7, 0] rfl)
  · rcases Nat.lt_or_ge (alo tr le fr) (alo tr le to) with hdl | hdl
    · refine lv_iload hx hb dL_way_57 (lv_at hl 1 rfl) ?_
      refine lv_if_ge (tgt := 68) hx hb dL_way_59 (by decide) (fun c_8 => absurd c_8 (Int32.not_le.mpr (pk_sneg (by omega) hdl))) (fun c_8 => ?_)
      refine lv_iload hx hb dL_way_62 (lv_at hl 1 rfl) ?_
      refine lv_ineg hx hb dL_way_64 ?_
      refine zx_val (y := nI ((alo tr le to) - (alo tr le fr))) (zneg_sub (by omega)) ?_
      refine lv_goto (tgt := 70) hx hb dL_way_65 (by decide) ?_
      refine zx_val (y := nI (dif (alo tr le fr) (alo tr le to))) (by congr 1; unfold dif; split <;> omega) ?_
      exact J70 () ls (lv_sub hl [4, 5, 6, 7, 8, 3, 2, 0] rfl)
    · refine lv_iload hx hb dL_way_57 (lv_at hl 1 rfl) ?_
      refine lv_if_ge (tgt := 68) hx hb dL_way_59 (by decide) (fun c_9 => ?_) (fun c_9 => absurd (by rw [pk_sub hdl]; exact nI_pos' (by omega)) c_9)
      refine lv_iload hx hb dL_way_68 (lv_at hl 1 rfl) ?_
      refine zx_val (y := nI (dif (alo tr le fr) (alo tr le to))) (by rw [pk_sub hdl]; congr 1; unfold dif; split <;> omega) ?_
      exact J70 () ls (lv_sub hl [4, 5, 6, 7, 8, 3, 2, 0] rfl)

set_option maxHeartbeats 4000000 in
set_option maxRecDepth 100000 in
theorem c_L_robot (l : Launch) (D : va_G) (cA : Nat → ClassId) (ws : va_W) (kt ta : Nat) (tf : Nat → Int32) (hkt : ws[kt]? = some (ta, zInts cA 24 tf)) (d t sl : Nat) (hsl : tf (8 + t) = nI sl) (hs12 : sl < 12) (hd : d < 4) (ht : t < 4) : Met l yL_robot wsL_robot ({ frames := 0, cells := 0, slots := 0, locals := 0 }) (va_Pc [.ref ta, .int (nI (d)), .int (nI (t))] (zS D cA ws)) (vp_Si (fun r => r = nI (20 + 2 * dif (4 * d) sl))) 0 0 zF := by
  refine zOpen (cc := cL_robot) (maxL := 4) (ret := (some .int)) (own := RL) (by decide) rfl rfl (Nat.le_of_ble_eq_true rfl) ?_
  intro p e s m below meth c ls hx hb hr hml hts hown hlocks hnm ⟨hZ, hP⟩ hl
  have hl : lv_has ls 4 [(0, .ref ta), (1, .int (nI (d))), (2, .int (nI (t)))] := hl
  have hE1 := dif_le (a := 4 * d) (b := sl) (c := 16) (by omega) (by omega)
  refine lv_iconst (v := nI (4)) hx hb dL_robot_0 (by decide) ?_
  refine lv_iload_n hx hb dL_robot_1 rfl (lv_at hl 1 rfl) ?_
  refine zo_mul hx hb dL_robot_2 ?_
  refine lv_aload_n hx hb dL_robot_3 rfl (lv_at hl 0 rfl) ?_
  refine lv_bipush (v := nI (8)) hx hb dL_robot_4 (by decide) ?_
  refine lv_iload_n hx hb dL_robot_6 rfl (lv_at hl 2 rfl) ?_
  refine zo_add hx hb dL_robot_7 ?_
  refine va_iald hx hb hZ.1 hP kt 0 hkt rfl (vp_in_nI (show 8 + t < 24 by omega) (by omega)) dL_robot_8 ?_
  rw [nI_clamp (show 8 + t < 2 ^ 31 by omega)]
  refine zx_val (y := nI (sl)) (hsl) ?_
  rcases Nat.lt_or_ge (4 * d) (sl) with hdl | hdl
  · refine lv_isub hx hb dL_robot_9 ?_
    refine lv_istore_n (lv' := [(3, .int (nI (4 * d) - nI (sl))), (0, .ref ta), (1, .int (nI (d))), (2, .int (nI (t)))]) hx hb dL_robot_10 rfl hl (by decide) rfl (fun ls hl => ?_)
    refine lv_bipush (v := nI (20)) hx hb dL_robot_11 (by decide) ?_
    refine lv_iconst (v := nI (2)) hx hb dL_robot_13 (by decide) ?_
    refine lv_iload_n hx hb dL_robot_14 rfl (lv_at hl 0 rfl) ?_
    refine lv_if_ge (tgt := 23) hx hb dL_robot_15 (by decide) (fun c_1 => absurd c_1 (Int32.not_le.mpr (pk_sneg (by omega) hdl))) (fun c_1 => ?_)
    refine lv_iload_n hx hb dL_robot_18 rfl (lv_at hl 0 rfl) ?_
    refine lv_ineg hx hb dL_robot_19 ?_
    refine zx_val (y := nI (sl - 4 * d)) (zneg_sub (by omega)) ?_
    refine lv_goto (tgt := 24) hx hb dL_robot_20 (by decide) ?_
    refine zo_mul hx hb dL_robot_24 ?_
    refine zo_add hx hb dL_robot_25 ?_
    exact zr_i hx hb hr hlocks (by congr 1; unfold dif; split <;> omega) dL_robot_26
  · refine zo_sub hx hb hdl dL_robot_9 ?_
    refine lv_istore_n (lv' := [(3, .int (nI (4 * d - sl))), (0, .ref ta), (1, .int (nI (d))), (2, .int (nI (t)))]) hx hb dL_robot_10 rfl hl (by decide) rfl (fun ls hl => ?_)
    refine lv_bipush (v := nI (20)) hx hb dL_robot_11 (by decide) ?_
    refine lv_iconst (v := nI (2)) hx hb dL_robot_13 (by decide) ?_
    refine lv_iload_n hx hb dL_robot_14 rfl (lv_at hl 0 rfl) ?_
    refine zf_ge (tgt := 23) hx hb (by omega) dL_robot_15 (by decide) ?_
    refine lv_iload_n hx hb dL_robot_23 rfl (lv_at hl 0 rfl) ?_
    refine zo_mul hx hb dL_robot_24 ?_
    refine zo_add hx hb dL_robot_25 ?_
    exact zr_i hx hb hr hlocks (by congr 1; unfold dif; split <;> omega) dL_robot_26

set_option maxHeartbeats 4000000 in
set_option maxRecDepth 100000 in
theorem c_L_isFree (l : Launch) (D : va_G) (cA : Nat → ClassId) (ws : va_W) (kc ca : Nat) (cf : Nat → Int32) (hkc : ws[kc]? = some (ca, zInts cA 4 cf)) (kt ta : Nat) (tf : Nat → Int32) (hkt : ws[kt]? = some (ta, zInts cA 24 tf)) (n : Nat) (sl : Nat → Nat) (hn : cf 0 = nI n) (hn4 : n ≤ 4) (hsl : ∀ i, i < n → tf (8 + i) = nI (sl i) ∧ sl i < 12) (g : Nat) (hg : g < 2 ^ 31) : Met l yL_isFree wsL_isFree ({ frames := 0, cells := 0, slots := 0, locals := 0 }) (va_Pc [.ref ca, .ref ta, .int (nI (g))] (zS D cA ws)) (vp_Si (fun r => r = bI (fre sl g n))) 0 0 zF := by
  refine zOpen (cc := cL_isFree) (maxL := 4) (ret := (some .boolean)) (own := RL) (by decide) rfl rfl (Nat.le_of_ble_eq_true rfl) ?_
  intro p e s m below meth c ls hx hb hr hml hts hown hlocks hnm ⟨hZ, hP⟩ hl
  have hl : lv_has ls 4 [(0, .ref ca), (1, .ref ta), (2, .int (nI (g)))] := hl
  refine lv_iconst (v := nI (0)) hx hb dL_isFree_0 (by decide) ?_
  refine lv_istore_n (lv' := [(3, .int (nI (0))), (0, .ref ca), (1, .ref ta), (2, .int (nI (g)))]) hx hb dL_isFree_1 rfl hl (by decide) rfl (fun ls hl => ?_)
  refine z_loop (α := Nat) (fun v => n - v) (fun v ls => lv_has ls 4 [(0, .ref ca), (1, .ref ta), (2, .int (nI (g))), (3, .int (nI (v)))] ∧ v ≤ n ∧ ∀ i, i < v → sl i ≠ g) (fun _ => []) (0) ⟨lv_sub hl [1, 2, 3, 0] rfl, ⟨Nat.zero_le _, fun i hi => absurd hi (Nat.not_lt_zero i)⟩⟩ ?_
  intro v ih2 ls hv
  obtain ⟨k, rfl⟩ : ∃ z, z = v := ⟨_, rfl⟩
  obtain ⟨hl, hI⟩ := hv
  have hl : lv_has ls 4 [(0, .ref ca), (1, .ref ta), (2, .int (nI (g))), (3, .int (nI (k)))] := hl
  have hI : k ≤ n ∧ ∀ i, i < k → sl i ≠ g := hI
  obtain ⟨hkn, hne⟩ := hI
  refine lv_iload_n hx hb dL_isFree_2 rfl (lv_at hl 3 rfl) ?_
  refine lv_aload_n hx hb dL_isFree_3 rfl (lv_at hl 0 rfl) ?_
  refine lv_iconst (v := nI (0)) hx hb dL_isFree_4 (by decide) ?_
  refine va_iald hx hb hZ.1 hP kc 0 hkc rfl (vp_in_nI (show 0 < 4 by omega) (by omega)) dL_isFree_5 ?_
  rw [nI_clamp (show 0 < 2 ^ 31 by omega)]
  refine zx_val (y := nI (n)) (hn) ?_
  refine zc_ge (tgt := 27) hx hb (by omega) (by omega) dL_isFree_6 (by decide) (fun c_1 => ?_) (fun c_1 => ?_)
  · refine lv_iconst (v := bI (true)) hx hb dL_isFree_27 (by decide) ?_
    exact zr_z hx hb hr hlocks (congrArg bI (fre_y n (fun i hi => hne i (by omega))).symm) dL_isFree_28
  · refine lv_aload_n hx hb dL_isFree_9 rfl (lv_at hl 1 rfl) ?_
    refine lv_bipush (v := nI (8)) hx hb dL_isFree_10 (by decide) ?_
    refine lv_iload_n hx hb dL_isFree_12 rfl (lv_at hl 3 rfl) ?_
    refine zo_add hx hb dL_isFree_13 ?_
    obtain ⟨hs1, hs2⟩ := hsl k (by omega)
    refine va_iald hx hb hZ.1 hP kt 0 hkt rfl (vp_in_nI (show 8 + k < 24 by omega) (by omega)) dL_isFree_14 ?_
    rw [nI_clamp (show 8 + k < 2 ^ 31 by omega)]
    refine zx_val (y := nI (sl k)) (hs1) ?_
    refine lv_iload_n hx hb dL_isFree_15 rfl (lv_at hl 2 rfl) ?_
    refine zc_ne (tgt := 21) hx hb (by omega) (by omega) dL_isFree_16 (by decide) (fun c_2 => ?_) (fun c_2 => ?_)
    · refine lv_iinc (v := nI (k + 1)) (lv' := [(3, .int (nI (k + 1))), (0, .ref ca), (1, .ref ta), (2, .int (nI (g)))]) hx hb dL_isFree_21 hl (k := 3) rfl (zinc 1 _) (by decide) rfl (fun ls hl => ?_)
      refine lv_goto (tgt := 2) hx hb dL_isFree_24 (by decide) ?_
      exact ih2 (k + 1) ls (by first | omega | (dsimp only; omega)) ⟨lv_sub hl [1, 2, 3, 0] rfl, ⟨by first | omega | (dsimp only; omega) | (dsimp only at *; omega), fun i hi => by
                by_cases e : i = k
                · rw [e]; assumption
                · exact hne i (by first | omega | (dsimp only; omega) | (dsimp only at *; omega))⟩⟩
    · refine lv_iconst (v := bI (false)) hx hb dL_isFree_19 (by decide) ?_
      exact zr_z hx hb hr hlocks (congrArg bI (fre_n (i := k) (by omega) n (by omega)).symm) dL_isFree_20

set_option maxHeartbeats 4000000 in
set_option maxRecDepth 100000 in
theorem c_L_lost (l : Launch) (D : va_G) (cA : Nat → ClassId) (ws : va_W) (kc ca : Nat) (cf : Nat → Int32) (hkc : ws[kc]? = some (ca, zInts cA 4 cf)) (kt ta : Nat) (tf : Nat → Int32) (hkt : ws[kt]? = some (ta, zInts cA 24 tf)) (n : Nat) (la : Nat → Bool) (hn : cf 0 = nI n) (hn4 : n ≤ 4) (hla : ∀ i, i < n → tf (16 + i) = bI (!la i)) : Met l yL_lost wsL_lost ({ frames := 0, cells := 0, slots := 0, locals := 0 }) (va_Pc [.ref ca, .ref ta] (zS D cA ws)) (vp_Si (fun r => r = nI (cnt (fun i => !la i) n))) 0 0 zF := by
  refine zOpen (cc := cL_lost) (maxL := 4) (ret := (some .int)) (own := RL) (by decide) rfl rfl (Nat.le_of_ble_eq_true rfl) ?_
  intro p e s m below meth c ls hx hb hr hml hts hown hlocks hnm ⟨hZ, hP⟩ hl
  have hl : lv_has ls 4 [(0, .ref ca), (1, .ref ta)] := hl
  refine lv_iconst (v := nI (0)) hx hb dL_lost_0 (by decide) ?_
  refine lv_istore_n (lv' := [(2, .int (nI (0))), (0, .ref ca), (1, .ref ta)]) hx hb dL_lost_1 rfl hl (by decide) rfl (fun ls hl => ?_)
  refine lv_iconst (v := nI (0)) hx hb dL_lost_2 (by decide) ?_
  refine lv_istore_n (lv' := [(3, .int (nI (0))), (2, .int (nI (0))), (0, .ref ca), (1, .ref ta)]) hx hb dL_lost_3 rfl hl (by decide) rfl (fun ls hl => ?_)
  refine z_loop (α := Nat × Nat) (fun v => n - v.2) (fun v ls => lv_has ls 4 [(0, .ref ca), (1, .ref ta), (2, .int (nI (v.1))), (3, .int (nI (v.2)))] ∧ v.2 ≤ n ∧ v.1 = cnt (fun i => !la i) v.2) (fun _ => []) (0, 0) ⟨lv_sub hl [2, 3, 1, 0] rfl, ⟨Nat.zero_le _, rfl⟩⟩ ?_
  intro v ih4 ls hv
  obtain ⟨q, k⟩ := v
  obtain ⟨hl, hI⟩ := hv
  have hl : lv_has ls 4 [(0, .ref ca), (1, .ref ta), (2, .int (nI (q))), (3, .int (nI (k)))] := hl
  have hI : k ≤ n ∧ q = cnt (fun i => !la i) k := hI
  obtain ⟨hkn, hq⟩ := hI
  refine lv_iload_n hx hb dL_lost_4 rfl (lv_at hl 3 rfl) ?_
  refine lv_aload_n hx hb dL_lost_5 rfl (lv_at hl 0 rfl) ?_
  refine lv_iconst (v := nI (0)) hx hb dL_lost_6 (by decide) ?_
  refine va_iald hx hb hZ.1 hP kc 0 hkc rfl (vp_in_nI (show 0 < 4 by omega) (by omega)) dL_lost_7 ?_
  rw [nI_clamp (show 0 < 2 ^ 31 by omega)]
  refine zx_val (y := nI (n)) (hn) ?_
  refine zc_ge (tgt := 26) hx hb (by omega) (by omega) dL_lost_8 (by decide) (fun c_1 => ?_) (fun c_1 => ?_)
  · refine lv_iload_n hx hb dL_lost_26 rfl (lv_at hl 2 rfl) ?_
    exact zr_i hx hb hr hlocks (by rw [hq, show k = n by omega]) dL_lost_27
  · refine lv_iload_n hx hb dL_lost_11 rfl (lv_at hl 2 rfl) ?_
    refine lv_aload_n hx hb dL_lost_12 rfl (lv_at hl 1 rfl) ?_
    refine lv_bipush (v := nI (16)) hx hb dL_lost_13 (by decide) ?_
    refine lv_iload_n hx hb dL_lost_15 rfl (lv_at hl 3 rfl) ?_
    refine zo_add hx hb dL_lost_16 ?_
    refine va_iald hx hb hZ.1 hP kt 0 hkt rfl (vp_in_nI (show 16 + k < 24 by omega) (by omega)) dL_lost_17 ?_
    rw [nI_clamp (show 16 + k < 2 ^ 31 by omega)]
    refine zx_val (y := nI (if (!la k) then 1 else 0)) (by rw [hla k (by omega)]; cases la k <;> rfl) ?_
    refine zo_add hx hb dL_lost_18 ?_
    refine lv_istore_n (lv' := [(2, .int (nI (q + (if (!la k) then 1 else 0)))), (0, .ref ca), (1, .ref ta), (3, .int (nI (k)))]) hx hb dL_lost_19 rfl hl (by decide) rfl (fun ls hl => ?_)
    refine lv_iinc (v := nI (k + 1)) (lv' := [(3, .int (nI (k + 1))), (2, .int (nI (q + (if (!la k) then 1 else 0)))), (0, .ref ca), (1, .ref ta)]) hx hb dL_lost_20 hl (k := 3) rfl (zinc 1 _) (by decide) rfl (fun ls hl => ?_)
    refine lv_goto (tgt := 4) hx hb dL_lost_23 (by decide) ?_
    exact ih4 (q + (if (!la k) then 1 else 0), k + 1) ls (by first | omega | (dsimp only; omega)) ⟨lv_sub hl [2, 3, 1, 0] rfl, ⟨by dsimp only; omega, by dsimp only; rw [cnt, hq]⟩⟩
