abbrev lwA (s : State) : Nat → Prop := fun q => s.heap.size ≤ q
section ZNJ
variable {p : Program} {l : Launch} {e : Env} {R : Room} {s : State} {m : MethodId} {args : Array Value} {below : List Frame} {meth : Method} {c : Code} {H : Heap} {locs : List Loc} {cells slots : Nat} {Q : State → Prop}
variable {cc : ByteArray} {pc : Nat} {ls : Array Slot} {rest st0 As : List Value} {own C T9 host : String} {index maxL n nL q0 ci N b : Nat} {y : MethodName} {bytes : ByteArray} {ret : Option FieldType} {Ts wsC wsC' : List Cond} {rm : Room} {D : va_G} {cA : Nat → ClassId} {ws : va_W} {fs : List Value} {T : u_T}
/-- a public constructor -/
theorem zl_I_v {S : Type} {w1 : S → va_W} {A0 : Nat → Prop} {H0 : Heap} {mc ms : Nat} {Pre : State → Prop} (hx : p.tables.exec = Jvm.exec) (hb : c.code = cc) (hml : c.maxLocals = nL) (hts : ∀ w ∈ Ts, w.before args s = true) (hown : s.vm.findClass own = some m.cls) (hS : va_S A0 H0 H locs) {A1 : Nat → Prop} (hF : ∀ q, A1 q → A0 q) {post : S → Prop} (hM : Met l y wsC rm (va_Pc (.ref b :: As) Pre) (va_Qv post (fun u => zB D A1 (w1 u)) A1) mc ms A1) (hbl : FrameBlind (va_Pc (.ref b :: As) Pre)) (hpre : ∀ U : State, U.heap = H → s.WarmedH U.vm → Pre U) (hG : GoodIn Ts wsC) (hw : wsC = Cond.code y bytes maxL none :: wsC') (hrm : rm.cells = mc ∧ rm.slots = ms) (hini : (Cond.initialized y.cls).before args s = true) (hl : (Cond.methodLink own index y).before args s = true) (hin : (Cond.instanceMethod y).before args s = true) (hnm : y.name = "<init>") (hd : zCall y n R rm maxL) (hsz : ls.size = nL) (hst : st0 = As.reverse ++ .ref b :: rest) (hcat : (rest.map fun v => v.category).sum ≤ 8) (hf : cells + mc ≤ R.cells ∧ slots + ms ≤ R.slots) (hn : As.length = n) (d : decode cc pc = .ok (.invokespecial index, 3)) (kk : ∀ (u : S) (H1 : Heap) (locs1 : List Loc), post u → va_P D vwCl (w1 u) H1 → va_D A1 (w1 u) → va_S A0 H0 H1 locs1 → H.size ≤ H1.size → (∀ q : Nat, q < H.size → ¬ A1 q → H1[q]? = H[q]?) → W p l e R s m args below meth c H1 locs1 (cells + mc) (slots + ms) Q (F0 m (pc + 3) ls rest)) : W p l e R s m args below meth c H locs cells slots Q (F0 m pc ls st0) := by
  exact va_callv (va_runI (As := As) (rest := rest) ⟨hx, hb, hml, hown, hts⟩ hM (cwI n hts hG hw hrm.1 hrm.2 hini hl hin hnm hd.1 hd.2) ⟨hbl, fun U hU hW => ⟨rfl, hpre U hU hW⟩⟩ rfl hn hsz hst (lv_room hcat) d hf) hS (fun q _ h => hF q h) hF (fun u t H1 locs1 e1 hvm hp hB hz hk hS1 => kk u H1 locs1 hp (by rw [← e1]; exact hB.1) hB.2 hS1 hz hk)
end ZNJ
theorem zn_in : ∀ w ∈ zN, w ∈ lw_tbl := in_pos [69, 94, 360, 638, 458, 695, 253, 671, 418, 676, 678, 298, 375, 382, 512, 425, 436, 401, 609, 619, 623, 406, 414, 437, 643, 459, 450, 454, 463, 464, 468, 469, 470, 472, 535, 492, 543, 560, 522, 523, 527, 74, 76, 99, 104, 258, 259, 263, 265, 267, 269, 303, 307, 309, 310, 312, 314, 163, 165, 167, 345, 230, 161] (by decide +kernel)
theorem zn_tab : ∀ w ∈ zN, w.onTables = true := fun w h => List.all_eq_true.mp (show zN.all (fun w => w.onTables) = true by decide +kernel) w h
theorem zs_in : ∀ w ∈ zStr.map (fun q => Cond.stringRef RX4 q.1 q.2), w ∈ lw_tbl := in_pos [200, 227, 237, 352, 359, 364, 397, 677, 295, 296, 373, 374, 393, 608, 405, 618, 517, 637, 642, 471, 573] (by decide +kernel)
theorem arr_at {s : State} {args : Array Value} {ty : FieldType} (h : (Cond.arrayClass ty).before args s = true) : ∃ c9 : ClassId, ArrOfT s c9 ty ∧ s.vm.findClass ("[" ++ ty.toString) = some c9 := by
  obtain ⟨c9, k9, comp, h1, h2, h3⟩ := Cond.arrayClass_spec h
  exact ⟨c9, fun n z => ⟨fun k h => (by cases h), k9, h2, comp, h3⟩, h1⟩
theorem arr_obj {s : State} {C : String} (h : va_AO C s) : ∃ c9 : ClassId, ArrOfT s c9 (.object C) ∧ va_RA s c9 (.object C) := by
  obtain ⟨comp, c9, k9, h1, h2, h3, h4, h5⟩ := Cond.arrayOver_spec h
  exact ⟨c9, fun n z => ⟨fun k h => (by cases h), k9, h3, comp, h4⟩, k9, comp, h3, h4, h1, h5⟩
theorem zK_start {s : State} {b : Nat} (hts : ∀ w ∈ lw_tbl, w.before #[Value.ref b] s = true) (h1 : va_AO RX3 s) (h2 : va_AO RX0 s) : ∃ (D : va_G) (cA : Nat → ClassId), zK D cA s := by
  obtain ⟨c0, i0, kn0⟩ := u_known (C := RX0) (T := TX0) (N := 7) (n := 7) hts in_wsX00 (hts (.instantiable RX0 7) (List.mem_of_getElem? (i := 297) (by decide +kernel)))
  obtain ⟨c1, i1, kn1⟩ := u_known (C := RX1) (T := TX1) (N := 5) (n := 5) hts in_wsX10 (hts (.instantiable RX1 5) (List.mem_of_getElem? (i := 68) (by decide +kernel)))
  obtain ⟨c2, i2, kn2⟩ := u_known (C := RX2) (T := TX2) (N := 6) (n := 6) hts in_wsX20 (hts (.instantiable RX2 6) (List.mem_of_getElem? (i := 93) (by decide +kernel)))
  obtain ⟨c3, i3, kn3⟩ := u_known (C := RX3) (T := TX3) (N := 8) (n := 8) hts in_wsX30 (hts (.instantiable RX3 8) (List.mem_of_getElem? (i := 244) (by decide +kernel)))
  obtain ⟨c4, i4, kn4⟩ := u_known (C := RX4) (T := TX4) (N := 6) (n := 6) hts in_wsX40 (hts (.instantiable RX4 6) (List.mem_of_getElem? (i := 56) (by decide +kernel)))
  obtain ⟨aI, bI9, dI9⟩ := arr_at (hts (.arrayClass .int) (List.mem_of_getElem? (i := 91) (by decide +kernel)))
  obtain ⟨aT, bT9, dT9⟩ := arr_obj h1
  obtain ⟨aD, bD9, dD9⟩ := arr_obj h2
  refine ⟨(fun k => match k with | 0 => c0 | 1 => c1 | 2 => c2 | 3 => c3 | _ => c4, fun k => match k with | 0 => i0 | 1 => i1 | 2 => i2 | 3 => i3 | _ => i4), (fun k => match k with | 0 => aI | 1 => aT | _ => aD), ⟨fun k q hq => ?_, fun k q hq => ?_⟩, fun w hw => va_Nw.of (zn_tab w hw) (hts w (zn_in w hw))⟩
  · match k, hq with
    | 0, hq => cases hq; exact kn0
    | 1, hq => cases hq; exact kn1
    | 2, hq => cases hq; exact kn2
    | 3, hq => cases hq; exact kn3
    | 4, hq => cases hq; exact kn4
    | k + 5, hq => simp [vwCl] at hq
  · match k, hq with
    | 0, hq => cases hq; exact ⟨bI9, dI9⟩
    | 1, hq => cases hq; exact ⟨bT9, dT9⟩
    | 2, hq => cases hq; exact ⟨bD9, dD9⟩
    | k + 3, hq => simp [zt] at hq
theorem zX_start {s : State} {b : Nat} (hts : ∀ w ∈ lw_tbl, w.before #[Value.ref b] s = true) (hu : (Cond.isRef (.static Bundle.tN "UNASSIGNED_STACK" Bundle.steD)).before #[Value.ref b] s = true) (hn : (Cond.isRef (.static Bundle.tN "SUPPRESSED_SENTINEL" Bundle.listD)).before #[Value.ref b] s = true) : zX (lwA s) s := by
  have hA : ∀ a : Nat, a < s.heap.size → ¬ lwA s a := fun a h => Nat.not_le.mpr h
  obtain ⟨c9, k9, hfc, -⟩ := Cond.instantiable_spec (hts (.instantiable RX4 6) (List.mem_of_getElem? (i := 56) (by decide +kernel)))
  refine ⟨vx_Zqof (hts (.laysStatic Bundle.tN "UNASSIGNED_STACK" Bundle.steD) (List.mem_of_getElem? (i := 186) (by decide +kernel))) (hts (.initialized Bundle.tN) (List.mem_of_getElem? (i := 46) (by decide +kernel))) hu hA, vx_Zqof (hts (.laysStatic Bundle.tN "SUPPRESSED_SENTINEL" Bundle.listD) (List.mem_of_getElem? (i := 188) (by decide +kernel))) (hts (.initialized Bundle.tN) (List.mem_of_getElem? (i := 46) (by decide +kernel))) hn hA, fun q hq => ?_⟩
  have h := hts _ (zs_in _ (List.mem_map.mpr ⟨q, hq, rfl⟩))
  obtain ⟨k, cf, i, a, -, -, -, -, -, hev⟩ := Cond.stringRef_spec hfc h
  exact ⟨a, vk_R.of h hev⟩
theorem LV_start (cA : Nat → ClassId) (b0 u1 u2 u3 u4 u5 u6 u7 u8 u9 u10 u11 u12 q0 q1 q2 q3 q4 q5 q6 : Nat) : LV cA (fun k => match k with | 0 => b0 | 1 => u1 | 2 => u2 | 3 => u3 | 4 => u7 | 5 => u4 | 6 => u5 | 7 => u6 | 8 => u8 | 9 => u9 | 10 => u10 | 11 => u11 | _ => u12) (fun k => match k with | 0 => q0 | 1 => q1 | 2 => q2 | 3 => q3 | 4 => q4 | 5 => q5 | _ => q6) ((q0, zInts cA 4 (fun _ => nI 0)) :: (q1, zInts cA 24 (fun _ => nI 0)) :: (q2, zInts cA 24 (fun _ => nI 0)) :: (q3, zInts cA 10 (fun _ => nI 0)) :: (q4, zInts cA 40 (fun _ => nI 0)) :: (q5, zInts cA 20 (fun _ => nI 0)) :: (q6, zInts cA 20 (fun _ => nI 0)) :: [(b0, zTR u1 0 u2 0 u3 u7), (u1, zRefs cA 1 8 (fun _ => none)), (u2, zRefs cA 2 3 (fun _ => none)), (u3, zJobs 0 0 u4 u5 u6), (u7, zOrd 0 u8 u9 u10 u11 u12), (u4, zInts cA 60 (fun _ => nI 0)), (u5, zInts cA 60 (fun _ => nI 0)), (u6, zInts cA 60 (fun _ => nI 0)), (u8, zInts cA 7 (fun _ => nI 0)), (u9, zInts cA 56 (fun _ => nI 0)), (u10, zInts cA 896 (fun _ => nI 0)), (u11, zInts cA 7 (fun _ => nI 0)), (u12, zInts cA 7 (fun _ => nI 0))]) := by
  have e1 : (fun _ : Nat => (none : Option Nat)) = rng 0 (fun _ => 0) := by funext i; exact (rng_out (Nat.not_lt_zero i)).symm
  refine ⟨(fun _ => 0), (fun _ => 0), (fun _ => 0), (fun _ => 0), (fun _ => 0), (fun _ => 0), 0, (fun _ => 0), (fun _ => 0), (fun _ => 0), (fun _ => none), (fun _ => true), (fun _ => 0), (fun _ _ => 0), 0, (fun _ => 0), (fun _ => nI 0), (fun _ => 0), (fun _ => none), (fun _ => nI 0), 0, (fun _ => nI 0), (fun _ => 0), (fun _ => 0), 0, 0, (fun _ => nI 0), (fun _ => nI 0), (fun _ => nI 0), (fun _ => nI 0), (fun _ => nI 0), (fun _ => nI 0), (fun _ => nI 0), (fun _ => nI 0), (fun _ => nI 0), (fun _ => nI 0), (fun _ => nI 0), (fun _ => nI 0), (fun _ => 0), (fun _ => false), [(b0, zTR u1 0 u2 0 u3 u7), (u1, zRefs cA 1 8 (fun _ => none)), (u2, zRefs cA 2 3 (fun _ => none)), (u3, zJobs 0 0 u4 u5 u6), (u7, zOrd 0 u8 u9 u10 u11 u12), (u4, zInts cA 60 (fun _ => nI 0)), (u5, zInts cA 60 (fun _ => nI 0)), (u6, zInts cA 60 (fun _ => nI 0)), (u8, zInts cA 7 (fun _ => nI 0)), (u9, zInts cA 56 (fun _ => nI 0)), (u10, zInts cA 896 (fun _ => nI 0)), (u11, zInts cA 7 (fun _ => nI 0)), (u12, zInts cA 7 (fun _ => nI 0))], rfl, ⟨⟨rfl, by rw [← e1]; rfl, by rw [← e1]; rfl, rfl, rfl, rfl, rfl, rfl, rfl, rfl, rfl, rfl, rfl⟩, fun i hi => absurd hi (Nat.not_lt_zero i), fun i hi => absurd hi (Nat.not_lt_zero i), fun i k hi => absurd hi (Nat.not_lt_zero i)⟩, ⟨by omega, by omega, by omega, fun i hi => absurd hi (Nat.not_lt_zero i), fun i hi => absurd hi (Nat.not_lt_zero i), fun i hi => absurd hi (Nat.not_lt_zero i), fun _ => Nat.zero_le _, fun i hi => absurd hi (Nat.not_lt_zero i)⟩, ⟨by omega, by omega, by omega⟩, ⟨rfl, rfl, rfl, rfl⟩, fun i hi => absurd hi (Nat.not_lt_zero i), fun i _ _ => ⟨rfl, rfl⟩, fun i hi => absurd hi (Nat.not_lt_zero i), fun i hi => absurd hi (Nat.not_lt_zero i), fun i _ _ => ⟨rfl, rfl⟩, fun i hi => absurd hi (Nat.not_lt_zero i), fun k _ _ => rfl, fun i hi => absurd hi (Nat.not_lt_zero i)⟩
set_option maxHeartbeats 4000000 in
set_option maxRecDepth 100000 in
theorem whole_start {p : Program} {e : Env} {s : State} {m : MethodId} {below : List Frame} {meth : Method} {c : Code} (l : Launch) (hflags : l.flags = flags0) {b L : Nat} {xs : Nat → Int32} (hL : L ≤ 260) (C0 : lw_At p s m meth c b L xs) : W p l e room_1 s m #[Value.ref b] below meth c s.heap [] 0 0 (lw_Z below #[Value.ref b] s) (entryFrame m ([Value.ref b] : List Value).toArray 14) := by
  obtain ⟨hx, hb, hr, hml, hown, hts, hXs, hbl, hlocks, hgv⟩ := id C0
  have hg := flat_of_before _ hgv
  have htsL : ∀ w ∈ wsL_law, w.before #[Value.ref b] s = true := fun w h => hts w (wsL_law_in w h)
  have hlt : l.stackTraces = false := by unfold Launch.stackTraces; rw [hflags]; decide +kernel
  have hao3 : va_AO RX3 s := va_AO.of (hts (.arrayOver (.object RX3)) (List.mem_of_getElem? (i := 64) (by decide +kernel)))
  have hao0 : va_AO RX0 s := va_AO.of (hts (.arrayOver (.object RX0)) (List.mem_of_getElem? (i := 66) (by decide +kernel)))
  obtain ⟨D, cA, hZ⟩ := zK_start hts hao3 hao0
  have hX : zX (lwA s) s := zX_start hts (hg _ (by decide +kernel)) (hg _ (by decide +kernel))
  have hN : zNC s := ⟨va_Nc.of (hg (.not (.castable "java/lang/IllegalStateException" "java/lang/IllegalArgumentException")) (by decide +kernel)), va_Nc.of (hg (.not (.castable "java/lang/IllegalStateException" "java/lang/IndexOutOfBoundsException")) (by decide +kernel)), va_Nc.of (hg (.not (.castable "java/lang/IllegalArgumentException" "java/lang/IndexOutOfBoundsException")) (by decide +kernel))⟩
  have hA : ∀ q : Nat, s.heap.size ≤ q → lwA s q := fun _ h => h
  have hS : va_S (lwA s) s.heap s.heap [] := va_S.rf
  have hP : va_P D vwCl [] s.heap := fun k q h => by simp at h
  have hD : va_D (lwA s) [] := ⟨fun i j p q h => by simp at h, fun k q h => by simp at h⟩
  have hl := lv_entry ([.ref b]) (n := 14) (Nat.le_of_ble_eq_true rfl)
  rw [lg_entry_eq]
  generalize (lg_sl ([.ref b]) ++ List.replicate (14 - (lg_sl ([.ref b])).length) Slot.unset).toArray = ls at hl ⊢
  have hl : lv_has ls 14 [(0, .ref b)] := hl
  have harr := (hts (.arrayClass .int) (List.mem_of_getElem? (i := 91) (by decide +kernel)))
  refine va_new (D := D) (ci := 4) (C := RX4) (T := TX4) (N := 6) (fs := [.null, .int (nI 0), .null, .int (nI 0), .null, .null]) hx hb hts in_wsX40 tyX4 tyX4_ok hown (hts (.classLink RL 31 RX4) (List.mem_of_getElem? (i := 55) (by decide +kernel))) (hts (.instantiable RX4 6) (List.mem_of_getElem? (i := 56) (by decide +kernel))) (hts (.initialized RX4) (List.mem_of_getElem? (i := 43) (by decide +kernel))) hZ.1 hP hD hS hA rfl (fun j9 hj9 => by rcases j9 with _ | _ | _ | _ | _ | _ | j9; all_goals first | rfl | omega) (Nat.le_of_ble_eq_true rfl) (Nat.le_of_ble_eq_true rfl) dL_law_0 (fun b0 H hP hD hS => ?_)
  have hP : va_P D vwCl [(b0, (.inr (4, [.null, .int (nI 0), .null, .int (nI 0), .null, .null]) : va_E))] H := hP
  have hD : va_D (lwA s) [(b0, (.inr (4, [.null, .int (nI 0), .null, .int (nI 0), .null, .null]) : va_E))] := hD
  refine lv_dup hx hb dL_law_3 rfl ?_
  have hF0 := z_free hD hS hA
  refine zl_I_v (n := 0) (mc := 12) (ms := 1175) (As := []) (rest := [.ref b0]) hx hb hml htsL hown hS hF0 (c_X4_init l D cA H.size b0) zMN_blind (fun U hU hW => ⟨zM_of hZ hP hD hU hW, hao3.moved hW.alike, hao0.moved hW.alike⟩) gL_law_X4_init rfl ⟨rfl, rfl⟩ (hts (.initialized RX4) (List.mem_of_getElem? (i := 43) (by decide +kernel))) (hts (.methodLink RL 168 yX4_init) (List.mem_of_getElem? (i := 57) (by decide +kernel))) (hts (.instanceMethod yX4_init) (List.mem_of_getElem? (i := 58) (by decide +kernel))) rfl ⟨by decide +kernel, (Nat.le_of_ble_eq_true rfl), (Nat.le_of_ble_eq_true rfl)⟩ hl.1 rfl (Nat.le_of_ble_eq_true rfl) ⟨(Nat.le_of_ble_eq_true rfl), (Nat.le_of_ble_eq_true rfl)⟩ rfl dL_law_4 (fun v9 H locs hv9 hP1 hD1 hS hz9 hk9 => ?_)
  obtain ⟨u1, u2, u3, u4, u5, u6, u7, u8, u9, u10, u11, u12⟩ := v9
  have hP : va_P D vwCl [(b0, zTR u1 0 u2 0 u3 u7), (u1, zRefs cA 1 8 (fun _ => none)), (u2, zRefs cA 2 3 (fun _ => none)), (u3, zJobs 0 0 u4 u5 u6), (u4, zInts cA 60 (fun _ => nI 0)), (u5, zInts cA 60 (fun _ => nI 0)), (u6, zInts cA 60 (fun _ => nI 0)), (u7, zOrd 0 u8 u9 u10 u11 u12), (u8, zInts cA 7 (fun _ => nI 0)), (u9, zInts cA 56 (fun _ => nI 0)), (u10, zInts cA 896 (fun _ => nI 0)), (u11, zInts cA 7 (fun _ => nI 0)), (u12, zInts cA 7 (fun _ => nI 0))] H := hP1
  have hD : va_D (lwA s) [(b0, zTR u1 0 u2 0 u3 u7), (u1, zRefs cA 1 8 (fun _ => none)), (u2, zRefs cA 2 3 (fun _ => none)), (u3, zJobs 0 0 u4 u5 u6), (u4, zInts cA 60 (fun _ => nI 0)), (u5, zInts cA 60 (fun _ => nI 0)), (u6, zInts cA 60 (fun _ => nI 0)), (u7, zOrd 0 u8 u9 u10 u11 u12), (u8, zInts cA 7 (fun _ => nI 0)), (u9, zInts cA 56 (fun _ => nI 0)), (u10, zInts cA 896 (fun _ => nI 0)), (u11, zInts cA 7 (fun _ => nI 0)), (u12, zInts cA 7 (fun _ => nI 0))] := hD1.weaken (fun _ _ _ h => hF0 _ h)
  clear hP1 hD1 hF0
  refine lv_astore_n (lv' := [(1, .ref b0), (0, .ref b)]) hx hb dL_law_7 rfl hl (by decide) rfl (fun ls hl => ?_)
  refine lv_iconst (v := nI (4)) hx hb dL_law_8 (by decide) ?_
  refine z_newF hx hb harr hZ hP hD hS hA 4 (by decide) (Nat.le_of_ble_eq_true rfl) (Nat.le_of_ble_eq_true rfl) dL_law_9 (fun q0 H hP hD hS => ?_)
  refine lv_astore_n (lv' := [(2, .ref q0), (1, .ref b0), (0, .ref b)]) hx hb dL_law_11 rfl hl (by decide) rfl (fun ls hl => ?_)
  refine lv_bipush (v := nI (24)) hx hb dL_law_12 (by decide) ?_
  refine z_newF hx hb harr hZ hP hD hS hA 24 (by decide) (Nat.le_of_ble_eq_true rfl) (Nat.le_of_ble_eq_true rfl) dL_law_14 (fun q1 H hP hD hS => ?_)
  refine lv_astore_n (lv' := [(3, .ref q1), (2, .ref q0), (1, .ref b0), (0, .ref b)]) hx hb dL_law_16 rfl hl (by decide) rfl (fun ls hl => ?_)
  refine lv_bipush (v := nI (24)) hx hb dL_law_17 (by decide) ?_
  refine z_newF hx hb harr hZ hP hD hS hA 24 (by decide) (Nat.le_of_ble_eq_true rfl) (Nat.le_of_ble_eq_true rfl) dL_law_19 (fun q2 H hP hD hS => ?_)
  refine lv_astore (lv' := [(4, .ref q2), (3, .ref q1), (2, .ref q0), (1, .ref b0), (0, .ref b)]) hx hb dL_law_21 hl (by decide) rfl (fun ls hl => ?_)
  refine lv_bipush (v := nI (10)) hx hb dL_law_23 (by decide) ?_
  refine z_newF hx hb harr hZ hP hD hS hA 10 (by decide) (Nat.le_of_ble_eq_true rfl) (Nat.le_of_ble_eq_true rfl) dL_law_25 (fun q3 H hP hD hS => ?_)
  refine lv_astore (lv' := [(5, .ref q3), (4, .ref q2), (3, .ref q1), (2, .ref q0), (1, .ref b0), (0, .ref b)]) hx hb dL_law_27 hl (by decide) rfl (fun ls hl => ?_)
  refine lv_bipush (v := nI (40)) hx hb dL_law_29 (by decide) ?_
  refine z_newF hx hb harr hZ hP hD hS hA 40 (by decide) (Nat.le_of_ble_eq_true rfl) (Nat.le_of_ble_eq_true rfl) dL_law_31 (fun q4 H hP hD hS => ?_)
  refine lv_astore (lv' := [(6, .ref q4), (5, .ref q3), (4, .ref q2), (3, .ref q1), (2, .ref q0), (1, .ref b0), (0, .ref b)]) hx hb dL_law_33 hl (by decide) rfl (fun ls hl => ?_)
  refine lv_bipush (v := nI (20)) hx hb dL_law_35 (by decide) ?_
  refine z_newF hx hb harr hZ hP hD hS hA 20 (by decide) (Nat.le_of_ble_eq_true rfl) (Nat.le_of_ble_eq_true rfl) dL_law_37 (fun q5 H hP hD hS => ?_)
  refine lv_astore (lv' := [(7, .ref q5), (6, .ref q4), (5, .ref q3), (4, .ref q2), (3, .ref q1), (2, .ref q0), (1, .ref b0), (0, .ref b)]) hx hb dL_law_39 hl (by decide) rfl (fun ls hl => ?_)
  refine lv_bipush (v := nI (20)) hx hb dL_law_41 (by decide) ?_
  refine z_newF hx hb harr hZ hP hD hS hA 20 (by decide) (Nat.le_of_ble_eq_true rfl) (Nat.le_of_ble_eq_true rfl) dL_law_43 (fun q6 H hP hD hS => ?_)
  refine lv_astore (lv' := [(8, .ref q6), (7, .ref q5), (6, .ref q4), (5, .ref q3), (4, .ref q2), (3, .ref q1), (2, .ref q0), (1, .ref b0), (0, .ref b)]) hx hb dL_law_45 hl (by decide) rfl (fun ls hl => ?_)
  have hP7 := hP.sub (ws' := (q0, zInts cA 4 (fun _ => nI 0)) :: (q1, zInts cA 24 (fun _ => nI 0)) :: (q2, zInts cA 24 (fun _ => nI 0)) :: (q3, zInts cA 10 (fun _ => nI 0)) :: (q4, zInts cA 40 (fun _ => nI 0)) :: (q5, zInts cA 20 (fun _ => nI 0)) :: (q6, zInts cA 20 (fun _ => nI 0)) :: [(b0, zTR u1 0 u2 0 u3 u7), (u1, zRefs cA 1 8 (fun _ => none)), (u2, zRefs cA 2 3 (fun _ => none)), (u3, zJobs 0 0 u4 u5 u6), (u7, zOrd 0 u8 u9 u10 u11 u12), (u4, zInts cA 60 (fun _ => nI 0)), (u5, zInts cA 60 (fun _ => nI 0)), (u6, zInts cA 60 (fun _ => nI 0)), (u8, zInts cA 7 (fun _ => nI 0)), (u9, zInts cA 56 (fun _ => nI 0)), (u10, zInts cA 896 (fun _ => nI 0)), (u11, zInts cA 7 (fun _ => nI 0)), (u12, zInts cA 7 (fun _ => nI 0))]) [6, 5, 4, 3, 2, 1, 0, 7, 8, 9, 10, 14, 11, 12, 13, 15, 16, 17, 18, 19] rfl
  have hD7 := hD.sub (ws' := (q0, zInts cA 4 (fun _ => nI 0)) :: (q1, zInts cA 24 (fun _ => nI 0)) :: (q2, zInts cA 24 (fun _ => nI 0)) :: (q3, zInts cA 10 (fun _ => nI 0)) :: (q4, zInts cA 40 (fun _ => nI 0)) :: (q5, zInts cA 20 (fun _ => nI 0)) :: (q6, zInts cA 20 (fun _ => nI 0)) :: [(b0, zTR u1 0 u2 0 u3 u7), (u1, zRefs cA 1 8 (fun _ => none)), (u2, zRefs cA 2 3 (fun _ => none)), (u3, zJobs 0 0 u4 u5 u6), (u7, zOrd 0 u8 u9 u10 u11 u12), (u4, zInts cA 60 (fun _ => nI 0)), (u5, zInts cA 60 (fun _ => nI 0)), (u6, zInts cA 60 (fun _ => nI 0)), (u8, zInts cA 7 (fun _ => nI 0)), (u9, zInts cA 56 (fun _ => nI 0)), (u10, zInts cA 896 (fun _ => nI 0)), (u11, zInts cA 7 (fun _ => nI 0)), (u12, zInts cA 7 (fun _ => nI 0))]) [6, 5, 4, 3, 2, 1, 0, 7, 8, 9, 10, 14, 11, 12, 13, 15, 16, 17, 18, 19] (by decide) rfl
  refine lv_iconst (v := nI 0) hx hb dL_law_47 (by decide) ?_
  refine lv_istore (lv' := [(9, .int (nI (0))), (8, .ref q6), (7, .ref q5), (6, .ref q4), (5, .ref q3), (4, .ref q2), (3, .ref q1), (2, .ref q0), (1, .ref b0), (0, .ref b)]) hx hb dL_law_48 hl (by decide) rfl (fun ls hl => ?_)
  refine W.widen (k := 20) (n := 1400) (Nat.le_of_ble_eq_true rfl) (Nat.le_of_ble_eq_true rfl) ?_
  exact law_loop l hlt hx hb hml hown htsL hZ hX hN hXs hbl hr hlocks hL (fun k => match k with | 0 => b0 | 1 => u1 | 2 => u2 | 3 => u3 | 4 => u7 | 5 => u4 | 6 => u5 | 7 => u6 | 8 => u8 | 9 => u9 | 10 => u10 | 11 => u11 | _ => u12) (fun k => match k with | 0 => q0 | 1 => q1 | 2 => q2 | 3 => q3 | 4 => q4 | 5 => q5 | _ => q6) ((q0, zInts cA 4 (fun _ => nI 0)) :: (q1, zInts cA 24 (fun _ => nI 0)) :: (q2, zInts cA 24 (fun _ => nI 0)) :: (q3, zInts cA 10 (fun _ => nI 0)) :: (q4, zInts cA 40 (fun _ => nI 0)) :: (q5, zInts cA 20 (fun _ => nI 0)) :: (q6, zInts cA 20 (fun _ => nI 0)) :: [(b0, zTR u1 0 u2 0 u3 u7), (u1, zRefs cA 1 8 (fun _ => none)), (u2, zRefs cA 2 3 (fun _ => none)), (u3, zJobs 0 0 u4 u5 u6), (u7, zOrd 0 u8 u9 u10 u11 u12), (u4, zInts cA 60 (fun _ => nI 0)), (u5, zInts cA 60 (fun _ => nI 0)), (u6, zInts cA 60 (fun _ => nI 0)), (u8, zInts cA 7 (fun _ => nI 0)), (u9, zInts cA 56 (fun _ => nI 0)), (u10, zInts cA 896 (fun _ => nI 0)), (u11, zInts cA 7 (fun _ => nI 0)), (u12, zInts cA 7 (fun _ => nI 0))]) H locs ls (lv_sub hl [9, 8, 7, 6, 5, 4, 3, 2, 1, 0] rfl) hP7 hD7 hS (LV_start cA b0 u1 u2 u3 u4 u5 u6 u7 u8 u9 u10 u11 u12 q0 q1 q2 q3 q4 q5 q6)
