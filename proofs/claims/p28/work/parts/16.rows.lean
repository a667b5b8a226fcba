/-! rows for swaps and steps down -/
def pI (k : Nat) : Int32 := nI k - nI 1
theorem pI_0 : pI 0 < 0 := by decide +kernel
theorem pI_n0 : ¬ (0 : Int32) ≤ pI 0 := by decide +kernel
theorem pI_s (k : Nat) : pI (k + 1) = nI k := by unfold pI; rw [pk_sub (by omega), Nat.add_sub_cancel]
theorem pI_dec (k : Nat) : nI k + Int32.ofInt (-1) = pI k := by
  unfold pI
  rw [← Int32.toBitVec_inj]
  simp only [Int32.toBitVec_add, Int32.toBitVec_sub]
  have h1 : (Int32.ofInt (-1)).toBitVec = -1#32 := by decide +kernel
  have h2 : (nI 1).toBitVec = 1#32 := by decide +kernel
  rw [h1, h2]
  generalize (nI k).toBitVec = u
  bv_omega
theorem pI_2 {n : Nat} (h : 0 < n) : nI n - nI 2 = pI (n - 1) := by
  obtain ⟨k, rfl⟩ : ∃ k, n = k + 1 := ⟨n - 1, by omega⟩
  rw [Nat.add_sub_cancel, ← nI_add]
  unfold pI
  rw [← Int32.toBitVec_inj]
  simp only [Int32.toBitVec_add, Int32.toBitVec_sub]
  have h1 : (nI 2).toBitVec = 2#32 := by decide +kernel
  have h2 : (nI 1).toBitVec = 1#32 := by decide +kernel
  rw [h1, h2]
  generalize (nI k).toBitVec = u
  bv_omega
theorem neg2 : nI 0 - nI 2 < 0 := by decide +kernel
theorem neg2' : ¬ (0 : Int32) ≤ nI 0 - nI 2 := by decide +kernel
theorem colF_y' {f0 : Nat → Int32} {L : List Nat} {n : Nat} (h : L.length = n) (j : Nat) : upd (colF f0 L) n (nI j) = colF f0 (L ++ [j]) := by rw [← h]; exact colF_y f0 L j
theorem getD_lt {l : List Nat} {c : Nat} (h : ∀ x, x ∈ l → x < c) (hc : 0 < c) (i : Nat) : l.getD i 0 < c := by
  rcases Nat.lt_or_ge i l.length with q | q
  · exact h _ (getD_mem q)
  · rw [List.getD_eq_getElem?_getD, List.getElem?_eq_none q]; exact hc
theorem tf_s {l : List Nat} {k : Nat} (h : l.getD (k + 1) 0 < l.getD k 0) : tf l (k + 1) = tf l k := by rw [tf, if_pos h]
theorem tf_e {l : List Nat} {k : Nat} (h : ¬ l.getD (k + 1) 0 < l.getD k 0) : tf l (k + 1) = k + 1 := by rw [tf, if_neg h]
theorem lf_s {l : List Nat} {t g : Nat} (h1 : t < g) (h2 : l.getD g 0 < l.getD t 0) : lf l t g = lf l t (g - 1) := by
  obtain ⟨j, rfl⟩ : ∃ j, g = j + 1 := ⟨g - 1, by omega⟩
  rw [lf, if_pos ⟨h1, h2⟩, Nat.add_sub_cancel]
theorem lf_e1 {l : List Nat} {t g : Nat} (h1 : g ≤ t) : lf l t g = g := by
  cases g with
  | zero => rfl
  | succ j => rw [lf, if_neg (by omega)]
theorem lf_e2 {l : List Nat} {t g : Nat} (h2 : ¬ l.getD g 0 < l.getD t 0) : lf l t g = g := by
  cases g with
  | zero => rfl
  | succ j => rw [lf, if_neg (fun q => h2 q.2)]
theorem rv_s {l : List Nat} {n lo hi : Nat} (h : lo < hi) (hn : 0 < n) : rv n lo hi l = rv (n - 1) (lo + 1) (hi - 1) (lswap l lo hi) := by
  obtain ⟨k, rfl⟩ : ∃ k, n = k + 1 := ⟨n - 1, by omega⟩
  rw [rv, if_pos h, Nat.add_sub_cancel]
theorem rv_e {l : List Nat} {n lo hi : Nat} (h : hi ≤ lo) : rv n lo hi l = l := by
  cases n with
  | zero => rfl
  | succ k => rw [rv, if_neg (by omega)]
theorem insL_s {lg : Nat → Nat → Nat} {k : Nat} : ins lg (insL lg k) (insL lg k).length = insL lg (k + 1) := by rw [insL_len]; rfl
theorem lswap_all {l : List Nat} {a b c : Nat} (h : ∀ x, x ∈ l → x < c) (ha : a < l.length) (hb : b < l.length) : ∀ x, x ∈ lswap l a b → x < c := fun x hx => h x (lswap_mem ha hb hx)
theorem wl_mem {f : Nat → Int32} {x : Int32} {n j : Nat} (h : j ∈ wl f x n) : j < n ∧ f j = x := by
  unfold wl at h
  rw [List.mem_filter, List.mem_range] at h
  exact ⟨h.1, of_decide_eq_true h.2⟩
/-- the time of the file f from the place a, and of the jobs of a list from one another -/
def legT (pa sp tr le : Nat) (bn : Nat → Nat) (a f : Nat) : Nat := wayT pa sp tr le a (bn f) + 3 * (bn (f + 1) - bn f)
def lgs (pa sp tr le : Nat) (bn jf : Nat → Nat) (P : Nat) (L : List Nat) : Nat → Nat → Nat := fun a b => legT pa sp tr le bn (if a = 7 then P else bn (jf (L.getD a 0) + 1)) (jf (L.getD b 0))
theorem lgs_7 {pa sp tr le : Nat} {bn jf : Nat → Nat} {P : Nat} {L : List Nat} {b : Nat} : lgs pa sp tr le bn jf P L 7 b = legT pa sp tr le bn P (jf (L.getD b 0)) := rfl
theorem lgs_n {pa sp tr le : Nat} {bn jf : Nat → Nat} {P : Nat} {L : List Nat} {a b : Nat} (h : a < 7) : lgs pa sp tr le bn jf P L a b = legT pa sp tr le bn (bn (jf (L.getD a 0) + 1)) (jf (L.getD b 0)) := by unfold lgs; rw [if_neg (by omega)]
