/-! sets of what is left, as the model has them: pure -/
def sb (s : Nat) : Nat → Bool := fun x => s.testBit x
theorem zxor (a b : Nat) : nI a ^^^ nI b = nI (a ^^^ b) := by
  rw [← Int32.toBitVec_inj]
  show BitVec.ofNat 32 a ^^^ BitVec.ofNat 32 b = BitVec.ofNat 32 (a ^^^ b)
  rw [BitVec.ofNat_xor]
theorem sb_bit {s k : Nat} : sb s k = decide (s / 2 ^ k % 2 = 1) := Nat.testBit_eq_decide_div_mod_eq
theorem sb_xor {s b : Nat} (h : sb s b = true) : sb (s ^^^ 2 ^ b) = rem (sb s) b := by
  funext x
  show (s ^^^ 2 ^ b).testBit x = (sb s x && !(x == b))
  rw [Nat.testBit_xor]
  by_cases e : x = b
  · subst e
    have h2 : s.testBit x = true := h
    rw [h2, Nat.testBit_two_pow_self]; simp
  · rw [Nat.testBit_two_pow_of_ne (Ne.symm e), Bool.xor_false]
    have h3 : (x == b) = false := by simp [e]
    rw [h3]; simp [sb]
theorem sb_lt {s b : Nat} (h : sb s b = true) : s ^^^ 2 ^ b < s := by
  have h1 : np (s ^^^ 2 ^ b) b = true := by
    have h2 := congrFun (sb_xor h) b
    show (!(s ^^^ 2 ^ b).testBit b) = true
    have h3 : (s ^^^ 2 ^ b).testBit b = rem (sb s) b b := h2
    rw [h3]; simp [rem]
  have h4 := np_gt h1
  have h5 : (s ^^^ 2 ^ b) ||| 2 ^ b = s := by
    refine Nat.eq_of_testBit_eq fun x => ?_
    rw [Nat.testBit_or]
    by_cases e : x = b
    · subst e
      have h6 : s.testBit x = true := h
      rw [Nat.testBit_two_pow_self, h6, Bool.or_true]
    · rw [Nat.testBit_xor, Nat.testBit_two_pow_of_ne (Ne.symm e), Bool.xor_false, Bool.or_false]
  omega
theorem sb_full {m x : Nat} (h : x < m) : sb (2 ^ m - 1) x = true := by
  show (2 ^ m - 1).testBit x = true
  rw [Nat.testBit_two_pow_sub_one]; exact decide_eq_true h
theorem BT_full {lg : Nat → Nat → Nat} {m : Nat} : BT lg m (sb (2 ^ m - 1)) 7 = BT lg m (np 0) 7 := BT_congr 7 (fun x hx => by rw [sb_full hx, np_0])
theorem BO_full {lg : Nat → Nat → Nat} {m : Nat} : BO lg m (sb (2 ^ m - 1)) 7 = BO lg m (np 0) 7 := BO_congr 7 (fun x hx => by rw [sb_full hx, np_0])
theorem sb_ex {s m : Nat} (h0 : s ≠ 0) (h : s < 2 ^ m) : ∃ x, x < m ∧ sb s x = true := by
  obtain ⟨i, hi⟩ := Nat.exists_testBit_of_ne_zero h0
  refine ⟨i, ?_, hi⟩
  rcases Nat.lt_or_ge i m with q | q
  · exact q
  · have h1 : s < 2 ^ i := Nat.lt_of_lt_of_le h (Nat.pow_le_pow_right (by omega) q)
    rw [Nat.testBit_lt_two_pow h1] at hi; cases hi
/-- the least time so far -/
def af (t : Nat → Nat) (p : Nat → Bool) (i0 k : Nat) : Nat := match aminP t p k with
  | none => i0
  | some b => t b
theorem af_n {t : Nat → Nat} {p : Nat → Bool} {i0 k : Nat} (h : p k = false) : af t p i0 (k + 1) = af t p i0 k := by unfold af; rw [aminP_n h]
theorem af_y {t : Nat → Nat} {p : Nat → Bool} {i0 k : Nat} (h : p k = true) (h2 : t k < i0) : af t p i0 (k + 1) = if t k < af t p i0 k then t k else af t p i0 k := by
  unfold af; rw [aminP_y h]
  cases aminP t p k with
  | none => rw [if_pos h2]; rfl
  | some j =>
    show (match (if t k < t j then some k else some j) with | none => i0 | some b => t b) = if t k < t j then t k else t j
    by_cases h9 : t k < t j
    · rw [if_pos h9, if_pos h9]
    · rw [if_neg h9, if_neg h9]
theorem af_lt {t : Nat → Nat} {p : Nat → Bool} {i0 k x : Nat} (h : p k = true) (h2 : t k < i0) (hx : x = af t p i0 k) (h3 : t k < x) : t k = af t p i0 (k + 1) := by
  rw [af_y h h2, ← hx, if_pos h3]
theorem af_ge {t : Nat → Nat} {p : Nat → Bool} {i0 k x : Nat} (h : p k = true) (h2 : t k < i0) (hx : x = af t p i0 k) (h3 : x ≤ t k) : x = af t p i0 (k + 1) := by
  rw [af_y h h2, ← hx, if_neg (by omega)]
theorem af_BT {lg : Nat → Nat → Nat} {m s a : Nat} (hs : s < 2 ^ m) : af (fun b => lg a b + BT lg m (rem (sb s) b) b) (sb s) (if s = 0 then 0 else 10000000) m = BT lg m (sb s) a := by
  unfold af; rw [BT_eq]
  cases h : aminP (fun b => lg a b + BT lg m (rem (sb s) b) b) (sb s) m with
  | some b => rfl
  | none =>
    show (if s = 0 then 0 else 10000000) = 0
    by_cases e : s = 0
    · rw [if_pos e]
    · obtain ⟨x, hx, hx2⟩ := sb_ex e hs
      have h3 := aminP_none m h x hx
      rw [hx2] at h3; cases h3
/-- the jobs that wait at a tape, in the model's rows -/
theorem mJ_of {n : Nat} {tr le sl : Nat → Nat} {mo : Nat → Option Nat} {la : Nat → Bool} {fc : Nat → Nat} {bo : Nat → Nat → Nat} {nd : Nat} {mk : Nat → Nat} {ck : Nat → Int32} {ct : Nat → Nat} {hd : Nat → Option Nat} {pq pf : Nat → Int32} {nj : Nat} {fw jt : Nat → Int32} {jf dl : Nat → Nat} {fin : Nat → Bool} {sf bf : Nat → Int32} {dn : Nat} (hI : zI n tr le sl mo fc bo nd mk ct hd pq nj fw jf dl) (hM : mI n la fc bo nd ck ct hd pq pf nj fw jt fin sf bf dn) {t : Nat} (ht : t < n) (fls : Nat → Int32) : mJ tr le bo jf sf bf jt (colF fls (wl fw (nI t) nj)) t (wl fw (nI t) nj) := by
  obtain ⟨hn8, hd3, hj60, hIT, hID, hIJ, hIdl, hIw⟩ := hI
  obtain ⟨hM1, hM2, hM3, hM4, hM5, hM6, hM7⟩ := hM
  refine ⟨hIw t ht, fun p hp => colF_in hp, fun x hx => ?_⟩
  obtain ⟨g1, g2⟩ := wl_mem hx
  have g3 := hIJ x g1 t g2 ht
  obtain ⟨k1, k2, k3, k4, k5, k6, k7, k8, k9, k10⟩ := hIT t ht
  obtain ⟨e1, e2⟩ := hM3 t (jf x) ht g3
  have e3 := k9 _ g3
  have e4 := bmono _ k9 (jf x + 1) (by omega)
  refine ⟨by omega, ?_, by omega, e1, e2, by omega, by omega⟩
  obtain ⟨e5, -⟩ := hM5 x g1
  rw [g2] at e5
  by_cases e6 : fin x = true
  · rw [if_pos e6] at e5; exact absurd e5 (nI_nm1 (by omega))
  · rw [if_neg e6] at e5; exact e5.symm
theorem LG_of {n : Nat} {tr le sl : Nat → Nat} {mo : Nat → Option Nat} {fc : Nat → Nat} {bo : Nat → Nat → Nat} {nd : Nat} {mk : Nat → Nat} {ct : Nat → Nat} {hd : Nat → Option Nat} {pq : Nat → Int32} {nj : Nat} {fw : Nat → Int32} {jf dl : Nat → Nat} (hI : zI n tr le sl mo fc bo nd mk ct hd pq nj fw jf dl) {t : Nat} (ht : t < n) (j P a b : Nat) : LG mk tr le bo jf j t P (wl fw (nI t) nj) a b ≤ 100000 := by
  obtain ⟨hn8, hd3, hj60, hIT, hID, hIJ, hIdl, hIw⟩ := hI
  obtain ⟨k1, k2, k3, k4, k5, k6, k7, k8, k9, k10⟩ := hIT t ht
  have k11 : tr t * le t ≤ 8 * 200 := Nat.mul_le_mul k2 k4
  exact LG_le k1 k2 k3 k4 (fun x hx => by
    obtain ⟨g1, g2⟩ := wl_mem hx
    have g3 := hIJ x g1 t g2 ht
    have g5 := bmono _ k9 (jf x + 1) (by omega)
    omega) a b
