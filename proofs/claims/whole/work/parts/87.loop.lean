theorem and31 (x : Int32) : ∃ q : Nat, q < 32 ∧ x &&& nI 31 = nI q := by
  refine ⟨(x &&& nI 31).toBitVec.toNat, ?_, ?_⟩
  · rw [Int32.toBitVec_and, BitVec.toNat_and]
    exact Nat.lt_of_le_of_lt Nat.and_le_right (by decide)
  · rw [← Int32.toBitVec_inj]
    show _ = BitVec.ofNat 32 _
    rw [BitVec.ofNat_toNat, BitVec.setWidth_eq]
set_option maxHeartbeats 4000000 in
set_option maxRecDepth 100000 in
theorem law_loop (l : Launch) (hlt : l.stackTraces = false) {p : Program} {e : Env} {s : State} {m : MethodId} {below : List Frame} {meth : Method} {c : Code} {D : va_G} {cA : Nat → ClassId} {b L : Nat} {xs : Nat → Int32} (F9 : lwF p s m c D cA b L xs) (hr : meth.sig.returnType = ret) (hlocks : meth.locks = false) (hL8 : L ≤ 2048) (ad gd : Nat → Nat) (o : Nat) : ∀ (k i cells slots : Nat) (z : Nat → Int64) (ws : va_W) (H : Heap) (locs : List Loc) (ls : Array Slot), L < i + 4 * k → i ≤ L → cells + 4 * k ≤ 600000 → slots + 24 * k ≤ 7000000 → lwI s D cA ad gd o b i H locs ls z ws → W p l e room_1 s m #[Value.ref b] below meth c H locs cells slots (lw_Z below #[Value.ref b] s) (F0 m 23 ls []) := by
  intro k
  induction k with
  | zero => intro i cells slots z ws H locs ls h1 h2; exact absurd h1 (by omega)
  | succ k ih =>
    intro i cells slots z ws H locs ls hk hiL hc9 hs9 hI9
    obtain ⟨hx, hb, hml, hown, hts, hZ, hX, hN, hXs, hbl⟩ := id F9
    obtain ⟨hl, hP, hD, hS, hV⟩ := id hI9
    have hbA : ¬ lwA s b := Nat.not_le.mpr hbl
    refine lv_iload hx hb dL_law_23 (lv_at hl 4 rfl) ?_
    refine lv_aload_n hx hb dL_law_25 rfl (lv_at hl 0 rfl) ?_
    refine va_slen hx hb hXs hbl hbA hS dL_law_26 ?_
    refine lv_iconst (v := nI 4) hx hb dL_law_27 (by decide) ?_
    refine lv_isub hx hb dL_law_28 ?_
    refine lv_icmp_gt (tgt := 1549) hx hb dL_law_29 (by decide) (fun c9 => ?_) (fun c9 => ?_)
    · refine lv_iconst (v := 1) hx hb dL_law_1549 (by decide) ?_
      refine va_forget (fun q hq => hS.2.2 q hq) ?_
      refine W.widen (k := 601024) (n := 7293034) (by omega) (by omega) ?_
      exact lw_ret hx hb hr hlocks dL_law_1550
    · have hi4 : i + 4 ≤ L := by
        have h8 : ¬ (nI L - nI 4 < nI i) := c9
        rw [Int32.lt_iff_toInt_lt, zsub_toInt (by omega) (by omega), nI_toInt (by omega)] at h8
        omega
      have kont : lwK p l e s m below meth c (lw_Z below #[Value.ref b] s) D cA ad gd o b i cells slots := by
        intro z ws H locs ls cells' slots' h1 h2 hI2
        obtain ⟨hl, hP, hD, hS, hV⟩ := hI2
        refine lv_iinc (v := nI (i + 4)) (lv' := [(4, .int (nI (i + 4))), (0, .ref b), (1, .ref (ad 0)), (2, .ref (gd 0)), (3, .ref o)]) hx hb dL_law_1543 hl (k := 4) rfl (zinc 4 _) (by decide) rfl (fun ls hl => ?_)
        refine lv_goto (tgt := 23) hx hb dL_law_1546 (by decide) ?_
        exact ih (i + 4) cells' slots' z ws H locs ls (by omega) (by omega) (by omega) (by omega) ⟨lv_sub hl [1, 2, 3, 4, 0] rfl, hP, hD, hS, hV⟩
      refine lv_aload_n hx hb dL_law_32 rfl (lv_at hl 0 rfl) ?_
      refine lv_iload hx hb dL_law_33 (lv_at hl 4 rfl) ?_
      refine va_sld hx hb hXs hbl hbA hS (vp_in_nI (show i < L by omega) (by omega)) dL_law_35 ?_
      refine lv_bipush (v := nI 31) hx hb dL_law_36 (by decide) ?_
      refine lv_iand hx hb dL_law_38 ?_
      obtain ⟨q, hq, eq9⟩ := and31 (xs (nI i).toNatClampNeg)
      refine zx_val (y := nI q) eq9 ?_
      rcases (show q = 0 ∨ q = 1 ∨ q = 2 ∨ q = 3 ∨ q = 4 ∨ q = 5 ∨ q = 6 ∨ q = 7 ∨ q = 8 ∨ q = 9 ∨ q = 10 ∨ q = 11 ∨ q = 12 ∨ q = 13 ∨ q = 14 ∨ q = 15 ∨ q = 16 ∨ q = 17 ∨ q = 18 ∨ q = 19 ∨ q = 20 ∨ q = 21 ∨ q = 22 ∨ q = 23 ∨ q = 24 ∨ 25 ≤ q by omega) with rfl | rfl | rfl | rfl | rfl | rfl | rfl | rfl | rfl | rfl | rfl | rfl | rfl | rfl | rfl | rfl | rfl | rfl | rfl | rfl | rfl | rfl | rfl | rfl | rfl | h25
      · refine lv_tableIn (off := 113) (tgt := 152) hx hb dL_law_39 (by decide +kernel) (by decide +kernel) (by decide +kernel) (by decide) ?_
        exact law_tape l hlt F9 ad gd o i cells slots hi4 hL8 (by omega) (by omega) kont z ws H locs ls hI9
      · refine lv_tableIn (off := 181) (tgt := 220) hx hb dL_law_39 (by decide +kernel) (by decide +kernel) (by decide +kernel) (by decide) ?_
        exact law_carry l hlt F9 ad gd o i cells slots hi4 hL8 (by omega) (by omega) kont z ws H locs ls hI9
      · refine lv_tableIn (off := 249) (tgt := 288) hx hb dL_law_39 (by decide +kernel) (by decide +kernel) (by decide +kernel) (by decide) ?_
        exact law_placeOf l hlt F9 ad gd o i cells slots hi4 hL8 (by omega) (by omega) kont z ws H locs ls hI9
      · refine lv_tableIn (off := 305) (tgt := 344) hx hb dL_law_39 (by decide +kernel) (by decide +kernel) (by decide +kernel) (by decide) ?_
        exact law_files l hlt F9 ad gd o i cells slots hi4 hL8 (by omega) (by omega) kont z ws H locs ls hI9
      · refine lv_tableIn (off := 361) (tgt := 400) hx hb dL_law_39 (by decide +kernel) (by decide +kernel) (by decide +kernel) (by decide) ?_
        exact law_start l hlt F9 ad gd o i cells slots hi4 hL8 (by omega) (by omega) kont z ws H locs ls hI9
      · refine lv_tableIn (off := 429) (tgt := 468) hx hb dL_law_39 (by decide +kernel) (by decide +kernel) (by decide +kernel) (by decide) ?_
        exact law_along l hlt F9 ad gd o i cells slots hi4 hL8 (by omega) (by omega) kont z ws H locs ls hI9
      · refine lv_tableIn (off := 497) (tgt := 536) hx hb dL_law_39 (by decide +kernel) (by decide +kernel) (by decide +kernel) (by decide) ?_
        exact law_drive l hlt F9 ad gd o i cells slots hi4 hL8 (by omega) (by omega) kont z ws H locs ls hI9
      · refine lv_tableIn (off := 553) (tgt := 592) hx hb dL_law_39 (by decide +kernel) (by decide +kernel) (by decide +kernel) (by decide) ?_
        exact law_mount l hlt F9 ad gd o i cells slots hi4 hL8 (by omega) (by omega) kont z ws H locs ls hI9
      · refine lv_tableIn (off := 621) (tgt := 660) hx hb dL_law_39 (by decide +kernel) (by decide +kernel) (by decide +kernel) (by decide) ?_
        exact law_unmount l hlt F9 ad gd o i cells slots hi4 hL8 (by omega) (by omega) kont z ws H locs ls hI9
      · refine lv_tableIn (off := 677) (tgt := 716) hx hb dL_law_39 (by decide +kernel) (by decide +kernel) (by decide +kernel) (by decide) ?_
        exact law_write l hlt F9 ad gd o i cells slots hi4 hL8 (by omega) (by omega) kont z ws H locs ls hI9
      · refine lv_tableIn (off := 745) (tgt := 784) hx hb dL_law_39 (by decide +kernel) (by decide +kernel) (by decide +kernel) (by decide) ?_
        exact law_read l hlt F9 ad gd o i cells slots hi4 hL8 (by omega) (by omega) kont z ws H locs ls hI9
      · refine lv_tableIn (off := 813) (tgt := 852) hx hb dL_law_39 (by decide +kernel) (by decide +kernel) (by decide +kernel) (by decide) ?_
        exact law_clean l hlt F9 ad gd o i cells slots hi4 hL8 (by omega) (by omega) kont z ws H locs ls hI9
      · refine lv_tableIn (off := 869) (tgt := 908) hx hb dL_law_39 (by decide +kernel) (by decide +kernel) (by decide +kernel) (by decide) ?_
        exact law_clock l hlt F9 ad gd o i cells slots hi4 hL8 (by omega) (by omega) kont z ws H locs ls hI9
      · refine lv_tableIn (off := 925) (tgt := 964) hx hb dL_law_39 (by decide +kernel) (by decide +kernel) (by decide +kernel) (by decide) ?_
        exact law_stands l hlt F9 ad gd o i cells slots hi4 hL8 (by omega) (by omega) kont z ws H locs ls hI9
      · refine lv_tableIn (off := 981) (tgt := 1020) hx hb dL_law_39 (by decide +kernel) (by decide +kernel) (by decide +kernel) (by decide) ?_
        exact law_job l hlt F9 ad gd o i cells slots hi4 hL8 (by omega) (by omega) kont z ws H locs ls hI9
      · refine lv_tableIn (off := 1061) (tgt := 1100) hx hb dL_law_39 (by decide +kernel) (by decide +kernel) (by decide +kernel) (by decide) ?_
        exact law_waiting l hlt F9 ad gd o i cells slots hi4 hL8 (by omega) (by omega) kont z ws H locs ls hI9
      · refine lv_tableIn (off := 1117) (tgt := 1156) hx hb dL_law_39 (by decide +kernel) (by decide +kernel) (by decide +kernel) (by decide) ?_
        exact law_next l hlt F9 ad gd o i cells slots hi4 hL8 (by omega) (by omega) kont z ws H locs ls hI9
      · refine lv_tableIn (off := 1130) (tgt := 1169) hx hb dL_law_39 (by decide +kernel) (by decide +kernel) (by decide +kernel) (by decide) ?_
        exact law_bestTime l hlt F9 ad gd o i cells slots hi4 hL8 (by omega) (by omega) kont z ws H locs ls hI9
      · refine lv_tableIn (off := 1186) (tgt := 1225) hx hb dL_law_39 (by decide +kernel) (by decide +kernel) (by decide +kernel) (by decide) ?_
        exact law_bestJob l hlt F9 ad gd o i cells slots hi4 hL8 (by omega) (by omega) kont z ws H locs ls hI9
      · refine lv_tableIn (off := 1254) (tgt := 1293) hx hb dL_law_39 (by decide +kernel) (by decide +kernel) (by decide +kernel) (by decide) ?_
        exact law_insertedTime l hlt F9 ad gd o i cells slots hi4 hL8 (by omega) (by omega) kont z ws H locs ls hI9
      · refine lv_tableIn (off := 1310) (tgt := 1349) hx hb dL_law_39 (by decide +kernel) (by decide +kernel) (by decide +kernel) (by decide) ?_
        exact law_triedTime l hlt F9 ad gd o i cells slots hi4 hL8 (by omega) (by omega) kont z ws H locs ls hI9
      · refine lv_tableIn (off := 1366) (tgt := 1405) hx hb dL_law_39 (by decide +kernel) (by decide +kernel) (by decide +kernel) (by decide) ?_
        exact law_work l hlt F9 ad gd o i cells slots hi4 hL8 (by omega) (by omega) kont z ws H locs ls hI9
      · refine lv_tableIn (off := 1422) (tgt := 1461) hx hb dL_law_39 (by decide +kernel) (by decide +kernel) (by decide +kernel) (by decide) ?_
        exact law_done l hlt F9 ad gd o i cells slots hi4 hL8 (by omega) (by omega) kont z ws H locs ls hI9
      · refine lv_tableIn (off := 1435) (tgt := 1474) hx hb dL_law_39 (by decide +kernel) (by decide +kernel) (by decide +kernel) (by decide) ?_
        exact law_lose l hlt F9 ad gd o i cells slots hi4 hL8 (by omega) (by omega) kont z ws H locs ls hI9
      · refine lv_tableIn (off := 1491) (tgt := 1530) hx hb dL_law_39 (by decide +kernel) (by decide +kernel) (by decide +kernel) (by decide) ?_
        exact law_inventory l hlt F9 ad gd o i cells slots hi4 hL8 (by omega) (by omega) kont z ws H locs ls hI9
      · refine lv_tableOut (tgt := 1543) hx hb dL_law_39 (Or.inr (by rw [nI_toInt (by omega)]; omega)) (by decide) ?_
        exact kont z ws H locs ls cells slots (by omega) (by omega) hI9
