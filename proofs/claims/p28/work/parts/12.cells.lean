/-! what the cells of the class hold -/
abbrev zTape (nu tr le sl : Nat) (dn : Option Nat) (hl : Bool) (fc b : Nat) : va_E := .inr (3, [.int (nI nu), .int (nI tr), .int (nI le), .int (nI sl), .int (oI dn), .int (bI hl), .int (nI fc), .ref b])
abbrev zDrive (nu pa sp : Nat) (mt : Option Nat) (pl tm : Int32) (ct : Nat) : va_E := .inr (0, [.int (nI nu), .int (nI pa), .int (nI sp), va_rf mt, .int pl, .int tm, .int (nI ct)])
abbrev zJobs (nc dn w f d : Nat) : va_E := .inr (1, [.int (nI nc), .int (nI dn), .ref w, .ref f, .ref d])
abbrev zOrd (oc an al ar ab ao : Nat) : va_E := .inr (2, [.int (nI oc), .ref an, .ref al, .ref ar, .ref ab, .ref ao])
abbrev zInts (cA : Nat → ClassId) (n : Nat) (f : Nat → Int32) : va_E := .inl (cA 0, n, .inl f)
theorem zm_min {a b : Nat} (ha : a < 2 ^ 31) (hb : b < 2 ^ 31) : (if nI b < nI a then nI b else nI a) = nI (min a b) := by
  by_cases h : b < a
  · rw [if_pos (nI_lt h ha), Nat.min_eq_right (Nat.le_of_lt h)]
  · rw [if_neg (fun q => h ((nI_ltI hb ha).mp q)), Nat.min_eq_left (Nat.le_of_not_lt h)]
theorem zm_max {a b : Nat} (ha : a < 2 ^ 31) (hb : b < 2 ^ 31) : (if nI a < nI b then nI b else nI a) = nI (max a b) := by
  by_cases h : a < b
  · rw [if_pos (nI_lt h hb), Nat.max_eq_right (Nat.le_of_lt h)]
  · rw [if_neg (fun q => h ((nI_ltI ha hb).mp q)), Nat.max_eq_left (Nat.le_of_not_lt h)]
def dif (a b : Nat) : Nat := if a ≤ b then b - a else a - b
theorem zsub_toInt {a b : Nat} (ha : a < 2 ^ 30) (hb : b < 2 ^ 30) : (nI a - nI b).toInt = (a : Int) - b := pk_sub_toInt ha hb
theorem zm_abs {a b : Nat} (ha : a < 2 ^ 30) (hb : b < 2 ^ 30) : (if 0 ≤ (nI a) - (nI b) then (nI a) - (nI b) else 0 - ((nI a) - (nI b))) = nI (dif a b) := by
  by_cases h : b ≤ a
  · rw [pk_sub h, if_pos (nI_pos' (by omega))]
    congr 1; unfold dif; split <;> omega
  · have h1 : ¬ (0 : Int32) ≤ nI a - nI b := by
      rw [Int32.le_iff_toInt_le, zsub_toInt ha hb, Int32.toInt_zero]; omega
    rw [if_neg h1]
    have h2 : (0 : Int32) - (nI a - nI b) = nI b - nI a := by
      have : ∀ x y : Int32, (0 : Int32) - (x - y) = y - x := by
        intro x y
        rw [← Int32.toBitVec_inj]; simp only [Int32.toBitVec_sub]
        have : (0 : Int32).toBitVec = 0#32 := rfl
        rw [this]; generalize x.toBitVec = u; generalize y.toBitVec = v; bv_omega
      exact this _ _
    rw [h2, pk_sub (by omega)]
    congr 1; unfold dif; split <;> omega
theorem zinc (k : Nat) (a : Nat) {x : Int32} (h : Int32.ofInt (k : Int) = x := by rfl) : nI a + x = nI (a + k) := by
  rw [← h, ← nI_add]; rfl
theorem zdec {a : Nat} (h : 0 < a) : nI a + Int32.ofInt (-1) = nI (a - 1) := by
  obtain ⟨b, rfl⟩ : ∃ b, a = b + 1 := ⟨a - 1, by omega⟩
  exact pk_m1 b
theorem narB (b : Bool) : narrow .boolean (.int (bI b)) = .int (bI b) := by cases b <;> rfl
theorem fitB (b : Bool) : fits .boolean (.int (bI b)) = true := by cases b <;> rfl
/-- the track of a place, how far along it lies -/
def trk (tr le p : Nat) : Nat := if p / le < tr then p / le else tr - 1
def alo (tr le p : Nat) : Nat := if trk tr le p % 2 = 0 then min (p - trk tr le p * le) (le - 1) else le - 1 - min (p - trk tr le p * le) (le - 1)
theorem z_and1 {n : Nat} (h : n < 2 ^ 31) : nI n &&& nI 1 = nI (n % 2) := pk_andN (k := 1) (by omega) (by decide)
theorem trk_le {tr le p : Nat} (h : 0 < tr) : trk tr le p < tr := by unfold trk; split <;> omega
theorem trk_mul {tr le p : Nat} : trk tr le p * le ≤ p := by
  unfold trk
  split
  · exact Nat.div_mul_le_self p le
  · rename_i h
    refine Nat.le_trans (Nat.mul_le_mul_right le (show tr - 1 ≤ p / le by omega)) (Nat.div_mul_le_self p le)
theorem alo_lt {tr le p : Nat} (h : 0 < le) : alo tr le p < le := by unfold alo; split <;> omega
/-- the time of a way -/
def wayT (pa sp tr le a b : Nat) : Nat := dif (alo tr le a) (alo tr le b) * pa + dif (trk tr le a) (trk tr le b) * sp
theorem zset_s {ws : va_W} {k : Nat} {q e : Nat × va_E} (h : ws[k]? = some q) : (ws.set k e)[k]? = some e := List.getElem?_set_self (List.getElem?_eq_some_iff.mp h).1
theorem zset_n {ws : va_W} {k j : Nat} {q e : Nat × va_E} (h : ws[j]? = some q) (hn : k ≠ j) : (ws.set k e)[j]? = some q := by rw [List.getElem?_set_ne hn]; exact h
theorem zset2 {ws : va_W} {k : Nat} {e e' : Nat × va_E} : (ws.set k e).set k e' = ws.set k e' := List.set_set ..
theorem zset_self {ws : va_W} {k : Nat} {q : Nat × va_E} (h : ws[k]? = some q) : ws.set k q = ws := by
  obtain ⟨h1, h2⟩ := List.getElem?_eq_some_iff.mp h
  rw [← h2, List.set_getElem_self]
theorem zapc {ws : va_W} {k j a b c c' : Nat} {fs fs' : List Value} (h : ws[k]? = some (a, .inr (c, fs))) (h' : ws[j]? = some (b, .inr (c', fs'))) (hc : c ≠ c') : k ≠ j := fun q => by
  rw [q, h'] at h
  injection h with h; injection h with _ h; injection h with h; injection h with h _
  exact hc h.symm
theorem zapo {ws : va_W} {k j a b : Nat} {x : Nat × List Value} {y : ClassId × vp_A} (h : ws[k]? = some (a, .inr x)) (h' : ws[j]? = some (b, .inl y)) : k ≠ j := fun q => by
  rw [q, h'] at h
  injection h with h; injection h with _ h; cases h
theorem zapo' {ws : va_W} {k j a b : Nat} {x : Nat × List Value} {y : ClassId × vp_A} (h : ws[k]? = some (a, .inl y)) (h' : ws[j]? = some (b, .inr x)) : k ≠ j := fun q => zapo h' h q.symm
/-- the jobs that wait at x, by rising numbers -/
def wl (f : Nat → Int32) (x : Int32) (n : Nat) : List Nat := (List.range n).filter (fun k => decide (f k = x))
theorem wl_0 {f : Nat → Int32} {x : Int32} : wl f x 0 = [] := rfl
theorem wl_y {f : Nat → Int32} {x : Int32} {n : Nat} (h : f n = x) : wl f x (n + 1) = wl f x n ++ [n] := by simp [wl, List.range_succ, h]
theorem wl_n {f : Nat → Int32} {x : Int32} {n : Nat} (h : ¬ f n = x) : wl f x (n + 1) = wl f x n := by simp [wl, List.range_succ, h]
theorem wl_le {f : Nat → Int32} {x : Int32} : ∀ n, (wl f x n).length ≤ n
  | 0 => Nat.le_refl 0
  | n + 1 => by
    have ih := wl_le (f := f) (x := x) n
    by_cases h : f n = x
    · rw [wl_y h, List.length_append]; simp; omega
    · rw [wl_n h]; omega
theorem wl_mono {f : Nat → Int32} {x : Int32} {m : Nat} : ∀ n, m ≤ n → (wl f x m).length ≤ (wl f x n).length
  | 0, h => by rw [Nat.le_zero.mp h]; exact Nat.le_refl _
  | n + 1, h => by
    rcases Nat.lt_or_ge n m with h2 | h2
    · rw [show m = n + 1 by omega]; exact Nat.le_refl _
    · have ih := wl_mono (f := f) (x := x) n h2
      by_cases h : f n = x
      · rw [wl_y h, List.length_append]; omega
      · rw [wl_n h]; exact ih
def erl (f : Nat → Int32) (x : Int32) (dl : Nat → Nat) (n : Nat) : Nat := (wl f x n).foldl (fun a k => min a (dl k)) 99999
theorem erl_y {f : Nat → Int32} {x : Int32} {dl : Nat → Nat} {n : Nat} (h : f n = x) : erl f x dl (n + 1) = min (erl f x dl n) (dl n) := by simp [erl, wl_y h]
theorem erl_n {f : Nat → Int32} {x : Int32} {dl : Nat → Nat} {n : Nat} (h : ¬ f n = x) : erl f x dl (n + 1) = erl f x dl n := by simp [erl, wl_n h]
theorem erl_le {f : Nat → Int32} {x : Int32} {dl : Nat → Nat} : ∀ n, erl f x dl n ≤ 99999
  | 0 => Nat.le_refl _
  | n + 1 => by
    have ih := erl_le (f := f) (x := x) (dl := dl) n
    by_cases h : f n = x
    · rw [erl_y h]; omega
    · rw [erl_n h]; exact ih
/-- a row with the list L at its head -/
def colF (f0 : Nat → Int32) (L : List Nat) : Nat → Int32 := fun i => if i < L.length then nI (L.getD i 0) else f0 i
theorem colF_0 (f0 : Nat → Int32) : colF f0 [] = f0 := by funext i; simp [colF]
theorem colF_y (f0 : Nat → Int32) (L : List Nat) (j : Nat) : upd (colF f0 L) L.length (nI j) = colF f0 (L ++ [j]) := by
  funext i
  by_cases h : i = L.length
  · subst h; rw [pk_us]; simp [colF]
  · rw [pk_un h]
    unfold colF
    by_cases h2 : i < L.length
    · rw [if_pos h2, if_pos (by simp; omega), List.getD_eq_getElem?_getD, List.getD_eq_getElem?_getD, List.getElem?_append_left h2]
    · rw [if_neg h2, if_neg (by simp; omega)]
