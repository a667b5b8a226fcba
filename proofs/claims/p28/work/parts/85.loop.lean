set_option maxHeartbeats 4000000 in
set_option maxRecDepth 100000 in
theorem law_loop (l : Launch) (hlt : l.stackTraces = false) {p : Program} {e : Env} {s : State} {m : MethodId} {below : List Frame} {meth : Method} {c : Code} {D : va_G} {cA : Nat → ClassId} {b L : Nat} {xs : Nat → Int32} (hx : p.tables.exec = Jvm.exec) (hb : c.code = code) (hml : c.maxLocals = 14) (hown : s.vm.findClass RL = some m.cls) (hts : ∀ w ∈ wsL_law, w.before #[Value.ref b] s = true) (hZ : zK D cA s) (hX : zX (fun q => s.heap.size ≤ q) s) (hN : zNC s) (hXs : va_X b L xs s s.heap) (hbl : b < s.heap.size) (hr : meth.sig.returnType = ret) (hlocks : meth.locks = false) (hL : L ≤ 260) (ad g : Nat → Nat) (w0 : va_W) (H : Heap) (locs : List Loc) (ls : Array Slot) (hl : lv_has ls 14 [(0, .ref b), (1, .ref (ad 0)), (2, .ref (g 0)), (3, .ref (g 1)), (4, .ref (g 2)), (5, .ref (g 3)), (6, .ref (g 4)), (7, .ref (g 5)), (8, .ref (g 6)), (9, .int (nI (0)))]) (hP : va_P D vwCl w0 H) (hD : va_D (fun q => s.heap.size ≤ q) w0) (hS : va_S (fun q => s.heap.size ≤ q) s.heap H locs) (hV : LV cA ad g w0) : W p l e room_1 s m #[Value.ref b] below meth c H locs 20 1400 (lw_Z below #[Value.ref b] s) (F0 m 50 ls []) := by
  have hbA : ¬ (fun q => s.heap.size ≤ q) b := Nat.not_le.mpr hbl
  have hA : ∀ q : Nat, s.heap.size ≤ q → (fun q => s.heap.size ≤ q) q := fun _ h => h
  refine z_loopF (α := Nat × va_W) (fun v => 90 - v.1) (fun v => 20 + 250 * v.1) (fun v => 1400 + 1900 * v.1) (fun v H locs ls => lv_has ls 14 [(0, .ref b), (1, .ref (ad 0)), (2, .ref (g 0)), (3, .ref (g 1)), (4, .ref (g 2)), (5, .ref (g 3)), (6, .ref (g 4)), (7, .ref (g 5)), (8, .ref (g 6)), (9, .int (nI (v.1)))] ∧ va_P D vwCl (v.2) H ∧ va_D (fun q => s.heap.size ≤ q) (v.2) ∧ va_S (fun q => s.heap.size ≤ q) s.heap H locs ∧ v.1 ≤ 90 ∧ LV cA ad g v.2) (fun _ => []) (0, w0) (show _ ≤ 20 + 250 * 0 by omega) (show _ ≤ 1400 + 1900 * 0 by omega) ⟨lv_sub hl [0, 1, 2, 3, 4, 5, 6, 7, 8, 9] rfl, hP, hD, hS, ⟨Nat.zero_le _, hV⟩⟩ ?_
  intro v ih50 H locs ls hv
  obtain ⟨iq, wv⟩ := v
  obtain ⟨hl, hP, hD, hS, hIv⟩ := hv
  have hP : va_P D vwCl (wv) H := hP
  have hD : va_D (fun q => s.heap.size ≤ q) (wv) := hD
  have hl : lv_has ls 14 [(0, .ref b), (1, .ref (ad 0)), (2, .ref (g 0)), (3, .ref (g 1)), (4, .ref (g 2)), (5, .ref (g 3)), (6, .ref (g 4)), (7, .ref (g 5)), (8, .ref (g 6)), (9, .int (nI (iq)))] := hl
  have hIv : iq ≤ 90 ∧ LV cA ad g wv := hIv
  refine W.widen (k := 20 + 250 * iq) (n := 1400 + 1900 * iq) (Nat.le_refl _) (Nat.le_refl _) ?_
  obtain ⟨hiq, hV⟩ := hIv
  refine lv_iload hx hb dL_law_50 (lv_at hl 9 rfl) ?_
  refine lv_bipush (v := nI (90)) hx hb dL_law_52 (by decide) ?_
  refine zc_ge (tgt := 302) hx hb (by omega) (by omega) dL_law_54 (by decide) (fun c_1 => ?_) (fun c_1 => ?_)
  · refine lv_iconst (v := 1) hx hb dL_law_302 (by decide) ?_
    refine va_forget (fun q hq => hS.2.2 q hq) ?_
    refine W.widen (k := 600130) (n := 7301079) (by omega) (by omega) ?_
    exact lw_ret hx hb hr hlocks dL_law_303
  · refine lv_aload_n hx hb dL_law_57 rfl (lv_at hl 0 rfl) ?_
    refine lv_iload hx hb dL_law_58 (lv_at hl 9 rfl) ?_
    refine zk_cell (H0 := s.heap) (n := 2) (As := [.ref b, .int (nI (iq))]) (rest := []) hx hb hml hts hown hZ hXs hbl hbA hS (c_L_cell l D cA b L xs hL iq (by omega)) gL_law_L_cell rfl ⟨rfl, rfl⟩ ⟨by decide +kernel, (Nat.le_of_ble_eq_true rfl), (Nat.le_of_ble_eq_true rfl)⟩ hl.1 rfl (Nat.le_of_ble_eq_true rfl) ⟨by show _ ≤ 600130; omega, by show _ ≤ 7301079; omega⟩ rfl dL_law_60 (fun xc _ => ?_)
    refine lv_istore (lv' := [(10, .int (xc)), (0, .ref b), (1, .ref (ad 0)), (2, .ref (g 0)), (3, .ref (g 1)), (4, .ref (g 2)), (5, .ref (g 3)), (6, .ref (g 4)), (7, .ref (g 5)), (8, .ref (g 6)), (9, .int (nI (iq)))]) hx hb dL_law_63 hl (by decide) rfl (fun ls hl => ?_)
    refine lv_iload hx hb dL_law_65 (lv_at hl 0 rfl) ?_
    refine lv_iconst (v := nI (4)) hx hb dL_law_67 (by decide) ?_
    refine lv_ishr hx hb dL_law_68 ?_
    obtain ⟨yv, hyv⟩ : ∃ z : Int32, (xc) >>> ((nI (4)) &&& 31) = z := ⟨_, rfl⟩
    refine zx_val (y := yv) hyv ?_
    refine lv_istore (lv' := [(11, .int (yv)), (10, .int (xc)), (0, .ref b), (1, .ref (ad 0)), (2, .ref (g 0)), (3, .ref (g 1)), (4, .ref (g 2)), (5, .ref (g 3)), (6, .ref (g 4)), (7, .ref (g 5)), (8, .ref (g 6)), (9, .int (nI (iq)))]) hx hb dL_law_69 hl (by decide) rfl (fun ls hl => ?_)
    refine lv_iload hx hb dL_law_71 (lv_at hl 1 rfl) ?_
    refine lv_bipush (v := nI (22)) hx hb dL_law_73 (by decide) ?_
    refine zk_S_i (n := 2) (As := [.int (xc), .int (nI (22))]) (rest := []) hx hb hml hts hown hZ hP (c_L_some l D cA _ xc 22 (by omega) (by omega)) gL_law_L_some rfl ⟨rfl, rfl⟩ ⟨by decide +kernel, (Nat.le_of_ble_eq_true rfl), (Nat.le_of_ble_eq_true rfl)⟩ hl.1 rfl (Nat.le_of_ble_eq_true rfl) ⟨by show _ ≤ 600130; omega, by show _ ≤ 7301079; omega⟩ rfl dL_law_75 (fun rk hrk => ?_)
    obtain ⟨qk, hqk, hbk⟩ : ∃ z, rk = nI z ∧ z < 22 := ⟨_, hrk, sm_lt (by omega)⟩
    subst hqk
    refine lv_istore (lv' := [(12, .int (nI (qk))), (11, .int (yv)), (10, .int (xc)), (0, .ref b), (1, .ref (ad 0)), (2, .ref (g 0)), (3, .ref (g 1)), (4, .ref (g 2)), (5, .ref (g 3)), (6, .ref (g 4)), (7, .ref (g 5)), (8, .ref (g 6)), (9, .int (nI (iq)))]) hx hb dL_law_78 hl (by decide) rfl (fun ls hl => ?_)
    refine z_joinF (α := va_W) (pc' := 220) (20 + 250 * iq + 12) (1400 + 1900 * iq + 128) (fun wv H locs ls => lv_has ls 14 [(0, .ref b), (1, .ref (ad 0)), (2, .ref (g 0)), (3, .ref (g 1)), (4, .ref (g 2)), (5, .ref (g 3)), (6, .ref (g 4)), (7, .ref (g 5)), (8, .ref (g 6)), (9, .int (nI (iq))), (10, .int (xc)), (11, .int (yv))] ∧ va_P D vwCl wv H ∧ va_D (fun q => s.heap.size ≤ q) wv ∧ va_S (fun q => s.heap.size ≤ q) s.heap H locs ∧ LV cA ad g wv) (fun _ => [.int (bI true)]) ?_ (fun J220 => ?_)
    · intro wv H locs ls hv
      obtain ⟨hl, hP, hD, hS, hV⟩ := hv
      have hl : lv_has ls 14 [(0, .ref b), (1, .ref (ad 0)), (2, .ref (g 0)), (3, .ref (g 1)), (4, .ref (g 2)), (5, .ref (g 3)), (6, .ref (g 4)), (7, .ref (g 5)), (8, .ref (g 6)), (9, .int (nI (iq))), (10, .int (xc)), (11, .int (yv))] := hl
      refine lv_istore (lv' := [(13, .int (bI (true))), (0, .ref b), (1, .ref (ad 0)), (2, .ref (g 0)), (3, .ref (g 1)), (4, .ref (g 2)), (5, .ref (g 3)), (6, .ref (g 4)), (7, .ref (g 5)), (8, .ref (g 6)), (9, .int (nI (iq))), (10, .int (xc)), (11, .int (yv))]) hx hb dL_law_220 hl (by decide) rfl (fun ls hl => ?_)
      refine lv_iload hx hb dL_law_222 (lv_at hl 0 rfl) ?_
      refine zb_eq (tgt := 286) hx hb dL_law_224 (by decide) (fun c_2 => Bool.noConfusion c_2) (fun c_2 => ?_)
      refine z_joinF (α := va_W) (pc' := 255) (20 + 250 * iq + 108) (1400 + 1900 * iq + 828) (fun wv H locs ls => lv_has ls 14 [(0, .ref b), (1, .ref (ad 0)), (2, .ref (g 0)), (3, .ref (g 1)), (4, .ref (g 2)), (5, .ref (g 3)), (6, .ref (g 4)), (7, .ref (g 5)), (8, .ref (g 6)), (9, .int (nI (iq))), (10, .int (xc)), (11, .int (yv))] ∧ va_P D vwCl wv H ∧ va_D (fun q => s.heap.size ≤ q) wv ∧ va_S (fun q => s.heap.size ≤ q) s.heap H locs ∧ LV cA ad g wv) (fun _ => []) ?_ (fun J255 => ?_)
      · intro wv H locs ls hv
        obtain ⟨hl, hP, hD, hS, hV⟩ := hv
        have hl : lv_has ls 14 [(0, .ref b), (1, .ref (ad 0)), (2, .ref (g 0)), (3, .ref (g 1)), (4, .ref (g 2)), (5, .ref (g 3)), (6, .ref (g 4)), (7, .ref (g 5)), (8, .ref (g 6)), (9, .int (nI (iq))), (10, .int (xc)), (11, .int (yv))] := hl
        refine z_joinF (α := va_W) (pc' := 282) (20 + 250 * iq + 248) (1400 + 1900 * iq + 1848) (fun wv H locs ls => lv_has ls 14 [(0, .ref b), (1, .ref (ad 0)), (2, .ref (g 0)), (3, .ref (g 1)), (4, .ref (g 2)), (5, .ref (g 3)), (6, .ref (g 4)), (7, .ref (g 5)), (8, .ref (g 6)), (9, .int (nI (iq))), (10, .int (xc)), (11, .int (yv))] ∧ va_P D vwCl wv H ∧ va_D (fun q => s.heap.size ≤ q) wv ∧ va_S (fun q => s.heap.size ≤ q) s.heap H locs ∧ LV cA ad g wv) (fun _ => []) ?_ (fun J282 => ?_)
        · intro wv H locs ls hv
          obtain ⟨hl, hP, hD, hS, hV⟩ := hv
          have hl : lv_has ls 14 [(0, .ref b), (1, .ref (ad 0)), (2, .ref (g 0)), (3, .ref (g 1)), (4, .ref (g 2)), (5, .ref (g 3)), (6, .ref (g 4)), (7, .ref (g 5)), (8, .ref (g 6)), (9, .int (nI (iq))), (10, .int (xc)), (11, .int (yv))] := hl
          refine lv_iconst (v := bI (true)) hx hb dL_law_282 (by decide) ?_
          refine lv_goto (tgt := 287) hx hb dL_law_283 (by decide) ?_
          refine lv_istore (lv' := [(13, .int (bI (true))), (0, .ref b), (1, .ref (ad 0)), (2, .ref (g 0)), (3, .ref (g 1)), (4, .ref (g 2)), (5, .ref (g 3)), (6, .ref (g 4)), (7, .ref (g 5)), (8, .ref (g 6)), (9, .int (nI (iq))), (10, .int (xc)), (11, .int (yv))]) hx hb dL_law_287 hl (by decide) rfl (fun ls hl => ?_)
          refine lv_iload hx hb dL_law_289 (lv_at hl 0 rfl) ?_
          refine zb_ne (tgt := 296) hx hb dL_law_291 (by decide) (fun c_3 => ?_) (fun c_3 => Bool.noConfusion c_3)
          refine lv_iinc (v := nI (iq + 1)) (lv' := [(9, .int (nI (iq + 1))), (13, .int (bI (true))), (0, .ref b), (1, .ref (ad 0)), (2, .ref (g 0)), (3, .ref (g 1)), (4, .ref (g 2)), (5, .ref (g 3)), (6, .ref (g 4)), (7, .ref (g 5)), (8, .ref (g 6)), (10, .int (xc)), (11, .int (yv))]) hx hb dL_law_296 hl (k := 10) rfl (zinc 1 _) (by decide) rfl (fun ls hl => ?_)
          refine lv_goto (tgt := 50) hx hb dL_law_299 (by decide) ?_
          refine W.widen (k := 20 + 250 * ((iq + 1))) (n := 1400 + 1900 * ((iq + 1))) (by omega) (by omega) ?_
          exact ih50 ((iq + 1), wv) H locs ls (by first | omega | (dsimp only; omega)) ⟨lv_sub hl [2, 3, 4, 5, 6, 7, 8, 9, 10, 0] rfl, hP, hD, hS, ⟨by dsimp only; omega, hV⟩⟩
        · skip
          refine lv_iload hx hb dL_law_255 (lv_at hl 9 rfl) ?_
          refine lv_bipush (v := nI (9)) hx hb dL_law_257 (by decide) ?_
          refine zo_rem hx hb (by omega) (by omega) (by omega) dL_law_259 ?_
          refine lv_bipush (v := nI (8)) hx hb dL_law_260 (by decide) ?_
          refine zc_lt (tgt := 282) hx hb (by omega) (by omega) dL_law_262 (by decide) (fun c_4 => ?_) (fun c_4 => ?_)
          · refine W.widen (k := 20 + 250 * iq + 248) (n := 1400 + 1900 * iq + 1848) (by omega) (by omega) ?_
            exact J282 (wv) H locs ls ⟨lv_sub hl [0, 1, 2, 3, 4, 5, 6, 7, 8, 9, 10, 11] rfl, hP, hD, hS, hV⟩
          · refine lv_aload_n hx hb dL_law_265 rfl (lv_at hl 1 rfl) ?_
            refine lv_aload_n hx hb dL_law_266 rfl (lv_at hl 2 rfl) ?_
            refine lv_aload_n hx hb dL_law_267 rfl (lv_at hl 3 rfl) ?_
            refine lv_aload hx hb dL_law_268 (lv_at hl 4 rfl) ?_
            refine lv_aload hx hb dL_law_270 (lv_at hl 5 rfl) ?_
            refine lv_aload hx hb dL_law_272 (lv_at hl 6 rfl) ?_
            refine lv_aload hx hb dL_law_274 (lv_at hl 8 rfl) ?_
            obtain ⟨T, Bd, E, PT, PB, PE, n, tr, le, sl, mo, la, fc, bo, nd, mk, ck, ct, hd, pq, nj, fw, jf, dl, dn, oc, s8, s9, s10, s11, s12, cf, tf, ff, vf, jj, lt, dd, jt, fin, cw, hu, hL, hI, hp⟩ := hV
            rw [hu] at hP hD
            have hP : va_P D vwCl ((g 0, zInts cA 4 cf) :: (g 1, zInts cA 24 tf) :: (g 2, zInts cA 24 ff) :: (g 3, zInts cA 10 vf) :: (g 4, zInts cA 40 jj) :: (g 5, zInts cA 20 lt) :: (g 6, zInts cA 20 dd) :: cw) H := hP
            have hD : va_D (fun q => s.heap.size ≤ q) ((g 0, zInts cA 4 cf) :: (g 1, zInts cA 24 tf) :: (g 2, zInts cA 24 ff) :: (g 3, zInts cA 10 vf) :: (g 4, zInts cA 40 jj) :: (g 5, zInts cA 20 lt) :: (g 6, zInts cA 20 dd) :: cw) := hD
            refine zw_L_i (n := 7) (mc := 140) (ms := 1020) (w1 := fun u : va_W => u) (As := [.ref (ad 0), .ref (g 0), .ref (g 1), .ref (g 2), .ref (g 3), .ref (g 4), .ref (g 6)]) (rest := []) hx hb hml hts hown hZ hX hN hP hD hS hA (c_L_orders l hlt D cA H.size ad T Bd E PT PB PE n tr le sl mo la fc bo nd mk ck ct hd pq nj fw jf dl dn oc s8 s9 s10 s11 s12 cf tf ff vf jj lt dd jt fin g cw hL hI hp ) gL_law_L_orders rfl ⟨rfl, rfl⟩ ⟨by decide +kernel, (Nat.le_of_ble_eq_true rfl), (Nat.le_of_ble_eq_true rfl)⟩ hl.1 rfl (Nat.le_of_ble_eq_true rfl) ⟨by show _ ≤ 600130; omega, by show _ ≤ 7301079; omega⟩ rfl dL_law_276 (fun r9 w9 H locs hp9 hP hD hS hz => ?_)
            obtain ⟨hr9, hV⟩ := hp9
            subst hr9
            have hP : va_P D vwCl (w9) H := hP
            have hD : va_D (fun q => s.heap.size ≤ q) (w9) := hD
            refine zb_eq (tgt := 286) hx hb dL_law_279 (by decide) (fun c_5 => Bool.noConfusion c_5) (fun c_5 => ?_)
            refine W.widen (k := 20 + 250 * iq + 248) (n := 1400 + 1900 * iq + 1848) (by omega) (by omega) ?_
            exact J282 (w9) H locs ls ⟨lv_sub hl [0, 1, 2, 3, 4, 5, 6, 7, 8, 9, 10, 11] rfl, hP, hD, hS, hV⟩
      · skip
        refine lv_iload hx hb dL_law_227 (lv_at hl 10 rfl) ?_
        refine lv_iconst (v := nI (3)) hx hb dL_law_229 (by decide) ?_
        refine zo_rem hx hb (by omega) (by omega) (by omega) dL_law_230 ?_
        refine zf_gt (tgt := 255) hx hb (by omega) dL_law_231 (by decide) (fun c_6 => ?_) (fun c_6 => ?_)
        · refine W.widen (k := 20 + 250 * iq + 108) (n := 1400 + 1900 * iq + 828) (by omega) (by omega) ?_
          exact J255 (wv) H locs ls ⟨lv_sub hl [1, 2, 3, 4, 5, 6, 7, 8, 9, 10, 11, 12] rfl, hP, hD, hS, hV⟩
        · refine lv_aload_n hx hb dL_law_234 rfl (lv_at hl 2 rfl) ?_
          refine lv_iload hx hb dL_law_235 (lv_at hl 12 rfl) ?_
          refine lv_aload_n hx hb dL_law_237 rfl (lv_at hl 3 rfl) ?_
          refine lv_aload_n hx hb dL_law_238 rfl (lv_at hl 4 rfl) ?_
          refine lv_aload hx hb dL_law_239 (lv_at hl 5 rfl) ?_
          refine lv_aload hx hb dL_law_241 (lv_at hl 6 rfl) ?_
          refine lv_aload hx hb dL_law_243 (lv_at hl 7 rfl) ?_
          refine lv_aload hx hb dL_law_245 (lv_at hl 8 rfl) ?_
          refine lv_aload hx hb dL_law_247 (lv_at hl 9 rfl) ?_
          obtain ⟨T, Bd, E, PT, PB, PE, n, tr, le, sl, mo, la, fc, bo, nd, mk, ck, ct, hd, pq, nj, fw, jf, dl, dn, oc, s8, s9, s10, s11, s12, cf, tf, ff, vf, jj, lt, dd, jt, fin, cw, hu, hL, hI, hp⟩ := hV
          rw [hu] at hP hD
          have hP : va_P D vwCl ((g 0, zInts cA 4 cf) :: (g 1, zInts cA 24 tf) :: (g 2, zInts cA 24 ff) :: (g 3, zInts cA 10 vf) :: (g 4, zInts cA 40 jj) :: (g 5, zInts cA 20 lt) :: (g 6, zInts cA 20 dd) :: cw) H := hP
          have hD : va_D (fun q => s.heap.size ≤ q) ((g 0, zInts cA 4 cf) :: (g 1, zInts cA 24 tf) :: (g 2, zInts cA 24 ff) :: (g 3, zInts cA 10 vf) :: (g 4, zInts cA 40 jj) :: (g 5, zInts cA 20 lt) :: (g 6, zInts cA 20 dd) :: cw) := hD
          refine zw_L_i (n := 9) (mc := 96) (ms := 700) (w1 := fun u : va_W => u) (As := [.ref (ad 0), .int (yv), .ref (g 0), .ref (g 1), .ref (g 2), .ref (g 3), .ref (g 4), .ref (g 5), .ref (g 6)]) (rest := []) hx hb hml hts hown hZ hX hN hP hD hS hA (c_L_tells l hlt D cA H.size ad T Bd E PT PB PE n tr le sl mo la fc bo nd mk ck ct hd pq nj fw jf dl dn oc s8 s9 s10 s11 s12 cf tf ff vf jj lt dd jt fin g cw hL hI hp yv) gL_law_L_tells rfl ⟨rfl, rfl⟩ ⟨by decide +kernel, (Nat.le_of_ble_eq_true rfl), (Nat.le_of_ble_eq_true rfl)⟩ hl.1 rfl (Nat.le_of_ble_eq_true rfl) ⟨by show _ ≤ 600130; omega, by show _ ≤ 7301079; omega⟩ rfl dL_law_249 (fun r9 w9 H locs hp9 hP hD hS hz => ?_)
          obtain ⟨hr9, hV⟩ := hp9
          subst hr9
          have hP : va_P D vwCl (w9) H := hP
          have hD : va_D (fun q => s.heap.size ≤ q) (w9) := hD
          refine zb_eq (tgt := 286) hx hb dL_law_252 (by decide) (fun c_7 => Bool.noConfusion c_7) (fun c_7 => ?_)
          refine W.widen (k := 20 + 250 * iq + 108) (n := 1400 + 1900 * iq + 828) (by omega) (by omega) ?_
          exact J255 (w9) H locs ls ⟨lv_sub hl [1, 2, 3, 4, 5, 6, 7, 8, 9, 10, 11, 12] rfl, hP, hD, hS, hV⟩
    · skip
      refine lv_iload hx hb dL_law_80 (lv_at hl 12 rfl) ?_
      refine lv_iconst (v := nI (2)) hx hb dL_law_82 (by decide) ?_
      refine zc_ge (tgt := 100) hx hb (by omega) (by omega) dL_law_83 (by decide) (fun c_8 => ?_) (fun c_8 => ?_)
      · refine lv_iload hx hb dL_law_100 (lv_at hl 12 rfl) ?_
        refine lv_iconst (v := nI (4)) hx hb dL_law_102 (by decide) ?_
        refine zc_ge (tgt := 120) hx hb (by omega) (by omega) dL_law_103 (by decide) (fun c_9 => ?_) (fun c_9 => ?_)
        · refine lv_iload hx hb dL_law_120 (lv_at hl 0 rfl) ?_
          refine lv_bipush (v := nI (8)) hx hb dL_law_122 (by decide) ?_
          refine zc_ge (tgt := 162) hx hb (by omega) (by omega) dL_law_124 (by decide) (fun c_10 => ?_) (fun c_10 => ?_)
          · refine lv_iload hx hb dL_law_162 (lv_at hl 0 rfl) ?_
            refine lv_bipush (v := nI (11)) hx hb dL_law_164 (by decide) ?_
            refine zc_ge (tgt := 183) hx hb (by omega) (by omega) dL_law_166 (by decide) (fun c_11 => ?_) (fun c_11 => ?_)
            · refine lv_aload_n hx hb dL_law_183 rfl (lv_at hl 4 rfl) ?_
              refine lv_iload hx hb dL_law_184 (lv_at hl 0 rfl) ?_
              refine lv_bipush (v := nI (11)) hx hb dL_law_186 (by decide) ?_
              refine zo_sub hx hb (by omega) dL_law_188 ?_
              refine lv_bipush (v := nI (8)) hx hb dL_law_189 (by decide) ?_
              refine z_join (α := Nat) (pc' := 203) (fun v ls => lv_has ls 14 [(12, .int (nI (qk))), (11, .int (yv)), (10, .int (xc)), (0, .ref b), (1, .ref (ad 0)), (2, .ref (g 0)), (3, .ref (g 1)), (4, .ref (g 2)), (5, .ref (g 3)), (6, .ref (g 4)), (7, .ref (g 5)), (8, .ref (g 6)), (9, .int (nI (iq)))] ∧ v < 8) (fun v => [.int (nI (v)), .ref (ad 0)]) ?_ (fun J203 => ?_)
              · intro kw ls hv
                obtain ⟨hl, hI203⟩ := hv
                have hl : lv_has ls 14 [(12, .int (nI (qk))), (11, .int (yv)), (10, .int (xc)), (0, .ref b), (1, .ref (ad 0)), (2, .ref (g 0)), (3, .ref (g 1)), (4, .ref (g 2)), (5, .ref (g 3)), (6, .ref (g 4)), (7, .ref (g 5)), (8, .ref (g 6)), (9, .int (nI (iq)))] := hl
                have hI203 : kw < 8 := hI203
                refine lv_iload hx hb dL_law_203 (lv_at hl 1 rfl) ?_
                refine lv_aload_n hx hb dL_law_205 rfl (lv_at hl 5 rfl) ?_
                refine lv_aload_n hx hb dL_law_206 rfl (lv_at hl 6 rfl) ?_
                refine lv_aload hx hb dL_law_207 (lv_at hl 7 rfl) ?_
                refine lv_aload hx hb dL_law_209 (lv_at hl 8 rfl) ?_
                refine lv_aload hx hb dL_law_211 (lv_at hl 9 rfl) ?_
                refine lv_aload hx hb dL_law_213 (lv_at hl 10 rfl) ?_
                refine lv_aload hx hb dL_law_215 (lv_at hl 11 rfl) ?_
                obtain ⟨T, Bd, E, PT, PB, PE, n, tr, le, sl, mo, la, fc, bo, nd, mk, ck, ct, hd, pq, nj, fw, jf, dl, dn, oc, s8, s9, s10, s11, s12, cf, tf, ff, vf, jj, lt, dd, jt, fin, cw, hu, hL, hI, hp⟩ := hV
                rw [hu] at hP hD
                have hP : va_P D vwCl ((g 0, zInts cA 4 cf) :: (g 1, zInts cA 24 tf) :: (g 2, zInts cA 24 ff) :: (g 3, zInts cA 10 vf) :: (g 4, zInts cA 40 jj) :: (g 5, zInts cA 20 lt) :: (g 6, zInts cA 20 dd) :: cw) H := hP
                have hD : va_D (fun q => s.heap.size ≤ q) ((g 0, zInts cA 4 cf) :: (g 1, zInts cA 24 tf) :: (g 2, zInts cA 24 ff) :: (g 3, zInts cA 10 vf) :: (g 4, zInts cA 40 jj) :: (g 5, zInts cA 20 lt) :: (g 6, zInts cA 20 dd) :: cw) := hD
                refine zw_L_i (n := 10) (mc := 12) (ms := 128) (w1 := fun u : va_W => u) (As := [.ref (ad 0), .int (nI (kw)), .int (yv), .ref (g 0), .ref (g 1), .ref (g 2), .ref (g 3), .ref (g 4), .ref (g 5), .ref (g 6)]) (rest := []) hx hb hml hts hown hZ hX hN hP hD hS hA (c_L_works l hlt D cA H.size ad T Bd E PT PB PE n tr le sl mo la fc bo nd mk ck ct hd pq nj fw jf dl dn oc s8 s9 s10 s11 s12 cf tf ff vf jj lt dd jt fin g cw hL hI hp yv kw (by omega)) gL_law_L_works rfl ⟨rfl, rfl⟩ ⟨by decide +kernel, (Nat.le_of_ble_eq_true rfl), (Nat.le_of_ble_eq_true rfl)⟩ hl.1 rfl (Nat.le_of_ble_eq_true rfl) ⟨by show _ ≤ 600130; omega, by show _ ≤ 7301079; omega⟩ rfl dL_law_217 (fun r9 w9 H locs hp9 hP hD hS hz => ?_)
                obtain ⟨hr9, hV⟩ := hp9
                subst hr9
                have hP : va_P D vwCl (w9) H := hP
                have hD : va_D (fun q => s.heap.size ≤ q) (w9) := hD
                refine W.widen (k := 20 + 250 * iq + 12) (n := 1400 + 1900 * iq + 128) (by omega) (by omega) ?_
                exact J220 (w9) H locs ls ⟨lv_sub hl [3, 4, 5, 6, 7, 8, 9, 10, 11, 12, 2, 1] rfl, hP, hD, hS, hV⟩
              · skip
                refine zc_ge (tgt := 202) hx hb (by omega) (by omega) dL_law_191 (by decide) (fun c_12 => ?_) (fun c_12 => ?_)
                · refine lv_iconst (v := nI (4)) hx hb dL_law_202 (by decide) ?_
                  exact J203 (4) ls ⟨lv_sub hl [0, 1, 2, 3, 4, 5, 6, 7, 8, 9, 10, 11, 12] rfl, by omega⟩
                · refine lv_iload hx hb dL_law_194 (lv_at hl 0 rfl) ?_
                  refine lv_bipush (v := nI (11)) hx hb dL_law_196 (by decide) ?_
                  refine zo_sub hx hb (by omega) dL_law_198 ?_
                  refine lv_goto (tgt := 203) hx hb dL_law_199 (by decide) ?_
                  exact J203 (qk - 11) ls ⟨lv_sub hl [0, 1, 2, 3, 4, 5, 6, 7, 8, 9, 10, 11, 12] rfl, by omega⟩
            · refine lv_aload_n hx hb dL_law_169 rfl (lv_at hl 4 rfl) ?_
              refine lv_iconst (v := nI (3)) hx hb dL_law_170 (by decide) ?_
              refine lv_iload hx hb dL_law_171 (lv_at hl 1 rfl) ?_
              refine lv_aload_n hx hb dL_law_173 rfl (lv_at hl 5 rfl) ?_
              refine lv_aload_n hx hb dL_law_174 rfl (lv_at hl 6 rfl) ?_
              refine lv_aload hx hb dL_law_175 (lv_at hl 8 rfl) ?_
              obtain ⟨T, Bd, E, PT, PB, PE, n, tr, le, sl, mo, la, fc, bo, nd, mk, ck, ct, hd, pq, nj, fw, jf, dl, dn, oc, s8, s9, s10, s11, s12, cf, tf, ff, vf, jj, lt, dd, jt, fin, cw, hu, hL, hI, hp⟩ := hV
              rw [hu] at hP hD
              have hP : va_P D vwCl ((g 0, zInts cA 4 cf) :: (g 1, zInts cA 24 tf) :: (g 2, zInts cA 24 ff) :: (g 3, zInts cA 10 vf) :: (g 4, zInts cA 40 jj) :: (g 5, zInts cA 20 lt) :: (g 6, zInts cA 20 dd) :: cw) H := hP
              have hD : va_D (fun q => s.heap.size ≤ q) ((g 0, zInts cA 4 cf) :: (g 1, zInts cA 24 tf) :: (g 2, zInts cA 24 ff) :: (g 3, zInts cA 10 vf) :: (g 4, zInts cA 40 jj) :: (g 5, zInts cA 20 lt) :: (g 6, zInts cA 20 dd) :: cw) := hD
              refine zw_L_i (n := 6) (mc := 8) (ms := 64) (w1 := fun u : va_W => u) (As := [.ref (ad 0), .int (nI (3)), .int (yv), .ref (g 0), .ref (g 1), .ref (g 3)]) (rest := []) hx hb hml hts hown hZ hX hN hP hD hS hA (c_L_tapes l hlt D cA H.size ad T Bd E PT PB PE n tr le sl mo la fc bo nd mk ck ct hd pq nj fw jf dl dn oc s8 s9 s10 s11 s12 cf tf ff vf jj lt dd jt fin g cw hL hI hp yv 3 (by omega)) gL_law_L_tapes rfl ⟨rfl, rfl⟩ ⟨by decide +kernel, (Nat.le_of_ble_eq_true rfl), (Nat.le_of_ble_eq_true rfl)⟩ hl.1 rfl (Nat.le_of_ble_eq_true rfl) ⟨by show _ ≤ 600130; omega, by show _ ≤ 7301079; omega⟩ rfl dL_law_177 (fun r9 w9 H locs hp9 hP hD hS hz => ?_)
              obtain ⟨hr9, hV⟩ := hp9
              subst hr9
              have hP : va_P D vwCl (w9) H := hP
              have hD : va_D (fun q => s.heap.size ≤ q) (w9) := hD
              refine lv_goto (tgt := 220) hx hb dL_law_180 (by decide) ?_
              refine W.widen (k := 20 + 250 * iq + 12) (n := 1400 + 1900 * iq + 128) (by omega) (by omega) ?_
              exact J220 (w9) H locs ls ⟨lv_sub hl [3, 4, 5, 6, 7, 8, 9, 10, 11, 12, 2, 1] rfl, hP, hD, hS, hV⟩
          · refine lv_aload_n hx hb dL_law_127 rfl (lv_at hl 4 rfl) ?_
            refine lv_iload hx hb dL_law_128 (lv_at hl 0 rfl) ?_
            refine z_join (α := Nat) (pc' := 150) (fun v ls => lv_has ls 14 [(12, .int (nI (qk))), (11, .int (yv)), (10, .int (xc)), (0, .ref b), (1, .ref (ad 0)), (2, .ref (g 0)), (3, .ref (g 1)), (4, .ref (g 2)), (5, .ref (g 3)), (6, .ref (g 4)), (7, .ref (g 5)), (8, .ref (g 6)), (9, .int (nI (iq)))] ∧ v < 8) (fun v => [.int (nI (v)), .ref (ad 0)]) ?_ (fun J150 => ?_)
            · intro kx ls hv
              obtain ⟨hl, hI150⟩ := hv
              have hl : lv_has ls 14 [(12, .int (nI (qk))), (11, .int (yv)), (10, .int (xc)), (0, .ref b), (1, .ref (ad 0)), (2, .ref (g 0)), (3, .ref (g 1)), (4, .ref (g 2)), (5, .ref (g 3)), (6, .ref (g 4)), (7, .ref (g 5)), (8, .ref (g 6)), (9, .int (nI (iq)))] := hl
              have hI150 : kx < 8 := hI150
              refine lv_iload hx hb dL_law_150 (lv_at hl 1 rfl) ?_
              refine lv_aload_n hx hb dL_law_152 rfl (lv_at hl 5 rfl) ?_
              refine lv_aload_n hx hb dL_law_153 rfl (lv_at hl 6 rfl) ?_
              refine lv_aload hx hb dL_law_154 (lv_at hl 8 rfl) ?_
              obtain ⟨T, Bd, E, PT, PB, PE, n, tr, le, sl, mo, la, fc, bo, nd, mk, ck, ct, hd, pq, nj, fw, jf, dl, dn, oc, s8, s9, s10, s11, s12, cf, tf, ff, vf, jj, lt, dd, jt, fin, cw, hu, hL, hI, hp⟩ := hV
              rw [hu] at hP hD
              have hP : va_P D vwCl ((g 0, zInts cA 4 cf) :: (g 1, zInts cA 24 tf) :: (g 2, zInts cA 24 ff) :: (g 3, zInts cA 10 vf) :: (g 4, zInts cA 40 jj) :: (g 5, zInts cA 20 lt) :: (g 6, zInts cA 20 dd) :: cw) H := hP
              have hD : va_D (fun q => s.heap.size ≤ q) ((g 0, zInts cA 4 cf) :: (g 1, zInts cA 24 tf) :: (g 2, zInts cA 24 ff) :: (g 3, zInts cA 10 vf) :: (g 4, zInts cA 40 jj) :: (g 5, zInts cA 20 lt) :: (g 6, zInts cA 20 dd) :: cw) := hD
              refine zw_L_i (n := 6) (mc := 8) (ms := 64) (w1 := fun u : va_W => u) (As := [.ref (ad 0), .int (nI (kx)), .int (yv), .ref (g 0), .ref (g 1), .ref (g 3)]) (rest := []) hx hb hml hts hown hZ hX hN hP hD hS hA (c_L_tapes l hlt D cA H.size ad T Bd E PT PB PE n tr le sl mo la fc bo nd mk ck ct hd pq nj fw jf dl dn oc s8 s9 s10 s11 s12 cf tf ff vf jj lt dd jt fin g cw hL hI hp yv kx (by omega)) gL_law_L_tapes rfl ⟨rfl, rfl⟩ ⟨by decide +kernel, (Nat.le_of_ble_eq_true rfl), (Nat.le_of_ble_eq_true rfl)⟩ hl.1 rfl (Nat.le_of_ble_eq_true rfl) ⟨by show _ ≤ 600130; omega, by show _ ≤ 7301079; omega⟩ rfl dL_law_156 (fun r9 w9 H locs hp9 hP hD hS hz => ?_)
              obtain ⟨hr9, hV⟩ := hp9
              subst hr9
              have hP : va_P D vwCl (w9) H := hP
              have hD : va_D (fun q => s.heap.size ≤ q) (w9) := hD
              refine lv_goto (tgt := 220) hx hb dL_law_159 (by decide) ?_
              refine W.widen (k := 20 + 250 * iq + 12) (n := 1400 + 1900 * iq + 128) (by omega) (by omega) ?_
              exact J220 (w9) H locs ls ⟨lv_sub hl [3, 4, 5, 6, 7, 8, 9, 10, 11, 12, 2, 1] rfl, hP, hD, hS, hV⟩
            · skip
              refine lv_bipush (v := nI (7)) hx hb dL_law_130 (by decide) ?_
              refine zc_ne (tgt := 148) hx hb (by omega) (by omega) dL_law_132 (by decide) (fun c_13 => ?_) (fun c_13 => ?_)
              · refine lv_iload hx hb dL_law_148 (lv_at hl 0 rfl) ?_
                exact J150 (qk) ls ⟨lv_sub hl [0, 1, 2, 3, 4, 5, 6, 7, 8, 9, 10, 11, 12] rfl, by omega⟩
              · refine lv_iload hx hb dL_law_135 (lv_at hl 1 rfl) ?_
                refine lv_iconst (v := nI (2)) hx hb dL_law_137 (by decide) ?_
                refine zk_S_i (n := 2) (As := [.int (yv), .int (nI (2))]) (rest := [.ref (ad 0)]) hx hb hml hts hown hZ hP (c_L_some l D cA _ yv 2 (by omega) (by omega)) gL_law_L_some rfl ⟨rfl, rfl⟩ ⟨by decide +kernel, (Nat.le_of_ble_eq_true rfl), (Nat.le_of_ble_eq_true rfl)⟩ hl.1 rfl (Nat.le_of_ble_eq_true rfl) ⟨by show _ ≤ 600130; omega, by show _ ≤ 7301079; omega⟩ rfl dL_law_138 (fun rz hrz => ?_)
                obtain ⟨qz, hqz, hbz⟩ : ∃ z, rz = nI z ∧ z < 2 := ⟨_, hrz, sm_lt (by omega)⟩
                subst hqz
                refine zf_ne (tgt := 148) hx hb (by omega) dL_law_141 (by decide) (fun c_14 => ?_) (fun c_14 => ?_)
                · refine lv_iload hx hb dL_law_148 (lv_at hl 0 rfl) ?_
                  exact J150 (qk) ls ⟨lv_sub hl [0, 1, 2, 3, 4, 5, 6, 7, 8, 9, 10, 11, 12] rfl, by omega⟩
                · refine lv_iconst (v := nI (3)) hx hb dL_law_144 (by decide) ?_
                  refine lv_goto (tgt := 150) hx hb dL_law_145 (by decide) ?_
                  exact J150 (3) ls ⟨lv_sub hl [0, 1, 2, 3, 4, 5, 6, 7, 8, 9, 10, 11, 12] rfl, by omega⟩
        · refine lv_aload_n hx hb dL_law_106 rfl (lv_at hl 4 rfl) ?_
          refine lv_iconst (v := nI (1)) hx hb dL_law_107 (by decide) ?_
          refine lv_iload hx hb dL_law_108 (lv_at hl 1 rfl) ?_
          refine lv_aload_n hx hb dL_law_110 rfl (lv_at hl 5 rfl) ?_
          refine lv_aload_n hx hb dL_law_111 rfl (lv_at hl 6 rfl) ?_
          refine lv_aload hx hb dL_law_112 (lv_at hl 8 rfl) ?_
          obtain ⟨T, Bd, E, PT, PB, PE, n, tr, le, sl, mo, la, fc, bo, nd, mk, ck, ct, hd, pq, nj, fw, jf, dl, dn, oc, s8, s9, s10, s11, s12, cf, tf, ff, vf, jj, lt, dd, jt, fin, cw, hu, hL, hI, hp⟩ := hV
          rw [hu] at hP hD
          have hP : va_P D vwCl ((g 0, zInts cA 4 cf) :: (g 1, zInts cA 24 tf) :: (g 2, zInts cA 24 ff) :: (g 3, zInts cA 10 vf) :: (g 4, zInts cA 40 jj) :: (g 5, zInts cA 20 lt) :: (g 6, zInts cA 20 dd) :: cw) H := hP
          have hD : va_D (fun q => s.heap.size ≤ q) ((g 0, zInts cA 4 cf) :: (g 1, zInts cA 24 tf) :: (g 2, zInts cA 24 ff) :: (g 3, zInts cA 10 vf) :: (g 4, zInts cA 40 jj) :: (g 5, zInts cA 20 lt) :: (g 6, zInts cA 20 dd) :: cw) := hD
          refine zw_L_i (n := 6) (mc := 8) (ms := 64) (w1 := fun u : va_W => u) (As := [.ref (ad 0), .int (nI (1)), .int (yv), .ref (g 0), .ref (g 1), .ref (g 3)]) (rest := []) hx hb hml hts hown hZ hX hN hP hD hS hA (c_L_tapes l hlt D cA H.size ad T Bd E PT PB PE n tr le sl mo la fc bo nd mk ck ct hd pq nj fw jf dl dn oc s8 s9 s10 s11 s12 cf tf ff vf jj lt dd jt fin g cw hL hI hp yv 1 (by omega)) gL_law_L_tapes rfl ⟨rfl, rfl⟩ ⟨by decide +kernel, (Nat.le_of_ble_eq_true rfl), (Nat.le_of_ble_eq_true rfl)⟩ hl.1 rfl (Nat.le_of_ble_eq_true rfl) ⟨by show _ ≤ 600130; omega, by show _ ≤ 7301079; omega⟩ rfl dL_law_114 (fun r9 w9 H locs hp9 hP hD hS hz => ?_)
          obtain ⟨hr9, hV⟩ := hp9
          subst hr9
          have hP : va_P D vwCl (w9) H := hP
          have hD : va_D (fun q => s.heap.size ≤ q) (w9) := hD
          refine lv_goto (tgt := 220) hx hb dL_law_117 (by decide) ?_
          refine W.widen (k := 20 + 250 * iq + 12) (n := 1400 + 1900 * iq + 128) (by omega) (by omega) ?_
          exact J220 (w9) H locs ls ⟨lv_sub hl [3, 4, 5, 6, 7, 8, 9, 10, 11, 12, 2, 1] rfl, hP, hD, hS, hV⟩
      · refine lv_aload_n hx hb dL_law_86 rfl (lv_at hl 4 rfl) ?_
        refine lv_iconst (v := nI (0)) hx hb dL_law_87 (by decide) ?_
        refine lv_iload hx hb dL_law_88 (lv_at hl 1 rfl) ?_
        refine lv_aload_n hx hb dL_law_90 rfl (lv_at hl 5 rfl) ?_
        refine lv_aload_n hx hb dL_law_91 rfl (lv_at hl 6 rfl) ?_
        refine lv_aload hx hb dL_law_92 (lv_at hl 8 rfl) ?_
        obtain ⟨T, Bd, E, PT, PB, PE, n, tr, le, sl, mo, la, fc, bo, nd, mk, ck, ct, hd, pq, nj, fw, jf, dl, dn, oc, s8, s9, s10, s11, s12, cf, tf, ff, vf, jj, lt, dd, jt, fin, cw, hu, hL, hI, hp⟩ := hV
        rw [hu] at hP hD
        have hP : va_P D vwCl ((g 0, zInts cA 4 cf) :: (g 1, zInts cA 24 tf) :: (g 2, zInts cA 24 ff) :: (g 3, zInts cA 10 vf) :: (g 4, zInts cA 40 jj) :: (g 5, zInts cA 20 lt) :: (g 6, zInts cA 20 dd) :: cw) H := hP
        have hD : va_D (fun q => s.heap.size ≤ q) ((g 0, zInts cA 4 cf) :: (g 1, zInts cA 24 tf) :: (g 2, zInts cA 24 ff) :: (g 3, zInts cA 10 vf) :: (g 4, zInts cA 40 jj) :: (g 5, zInts cA 20 lt) :: (g 6, zInts cA 20 dd) :: cw) := hD
        refine zw_L_i (n := 6) (mc := 8) (ms := 64) (w1 := fun u : va_W => u) (As := [.ref (ad 0), .int (nI (0)), .int (yv), .ref (g 0), .ref (g 1), .ref (g 3)]) (rest := []) hx hb hml hts hown hZ hX hN hP hD hS hA (c_L_tapes l hlt D cA H.size ad T Bd E PT PB PE n tr le sl mo la fc bo nd mk ck ct hd pq nj fw jf dl dn oc s8 s9 s10 s11 s12 cf tf ff vf jj lt dd jt fin g cw hL hI hp yv 0 (by omega)) gL_law_L_tapes rfl ⟨rfl, rfl⟩ ⟨by decide +kernel, (Nat.le_of_ble_eq_true rfl), (Nat.le_of_ble_eq_true rfl)⟩ hl.1 rfl (Nat.le_of_ble_eq_true rfl) ⟨by show _ ≤ 600130; omega, by show _ ≤ 7301079; omega⟩ rfl dL_law_94 (fun r9 w9 H locs hp9 hP hD hS hz => ?_)
        obtain ⟨hr9, hV⟩ := hp9
        subst hr9
        have hP : va_P D vwCl (w9) H := hP
        have hD : va_D (fun q => s.heap.size ≤ q) (w9) := hD
        refine lv_goto (tgt := 220) hx hb dL_law_97 (by decide) ?_
        refine W.widen (k := 20 + 250 * iq + 12) (n := 1400 + 1900 * iq + 128) (by omega) (by omega) ?_
        exact J220 (w9) H locs ls ⟨lv_sub hl [3, 4, 5, 6, 7, 8, 9, 10, 11, 12, 2, 1] rfl, hP, hD, hS, hV⟩
