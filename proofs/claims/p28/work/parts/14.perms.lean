/-! rows that are swapped, orders by insertion, all orders: pure -/
def lswap (l : List Nat) (a b : Nat) : List Nat := (l.set a (l.getD b 0)).set b (l.getD a 0)
theorem lswap_len (l : List Nat) (a b : Nat) : (lswap l a b).length = l.length := by simp [lswap]
theorem lswap_down : ∀ (q : Nat) (l : List Nat) (j : Nat), q < l.length → lswap (l.insertIdx (q + 1) j) q (q + 1) = l.insertIdx q j
  | 0, [], _, h => absurd h (Nat.not_lt_zero _)
  | 0, a :: l, j, _ => rfl
  | q + 1, [], _, h => absurd h (Nat.not_lt_zero _)
  | q + 1, a :: l, j, h => by
    have ih := lswap_down q l j (by simpa using h)
    rw [List.insertIdx_succ_cons, List.insertIdx_succ_cons, ← ih]; rfl
theorem lswap_up : ∀ (q : Nat) (l : List Nat) (j : Nat), q < l.length → lswap (l.insertIdx q j) q (q + 1) = l.insertIdx (q + 1) j
  | 0, [], _, h => absurd h (Nat.not_lt_zero _)
  | 0, a :: l, j, _ => rfl
  | q + 1, [], _, h => absurd h (Nat.not_lt_zero _)
  | q + 1, a :: l, j, h => by
    have ih := lswap_up q l j (by simpa using h)
    rw [List.insertIdx_succ_cons, List.insertIdx_succ_cons, ← ih]; rfl
theorem colF_in {f0 : Nat → Int32} {l : List Nat} {i : Nat} (h : i < l.length) : colF f0 l i = nI (l.getD i 0) := by unfold colF; rw [if_pos h]
theorem colF_set {f0 : Nat → Int32} {l : List Nat} {i : Nat} (h : i < l.length) (v : Nat) : upd (colF f0 l) i (nI v) = colF f0 (l.set i v) := by
  funext k
  by_cases e : k = i
  · subst e
    rw [pk_us]; unfold colF
    rw [if_pos (by rw [List.length_set]; exact h), List.getD_eq_getElem?_getD, List.getElem?_set_self h]; rfl
  · rw [pk_un e]; unfold colF
    rw [List.length_set, List.getD_eq_getElem?_getD, List.getD_eq_getElem?_getD, List.getElem?_set_ne (Ne.symm e)]
theorem colF_swap {f0 : Nat → Int32} {l : List Nat} {a b : Nat} (ha : a < l.length) (hb : b < l.length) : upd (upd (colF f0 l) a (nI (l.getD b 0))) b (nI (l.getD a 0)) = colF f0 (lswap l a b) := by
  rw [colF_set ha, colF_set (by rw [List.length_set]; exact hb)]; rfl
theorem insertIdx_end (l : List Nat) (j : Nat) : l.insertIdx l.length j = l ++ [j] := by
  induction l with
  | nil => rfl
  | cons a l ih => rw [List.length_cons, List.insertIdx_succ_cons, ih]; rfl
theorem insertIdx_mem : ∀ (q : Nat) (l : List Nat) (j x : Nat), x ∈ l.insertIdx q j → x ∈ l ∨ x = j
  | 0, l, j, x, h => by
    rcases List.mem_cons.mp h with e | e
    · exact Or.inr e
    · exact Or.inl e
  | q + 1, [], j, x, h => by cases h
  | q + 1, a :: l, j, x, h => by
    rw [List.insertIdx_succ_cons] at h
    rcases List.mem_cons.mp h with e | e
    · exact Or.inl (by rw [e]; exact List.mem_cons_self)
    · rcases insertIdx_mem q l j x e with e | e
      · exact Or.inl (List.mem_cons_of_mem _ e)
      · exact Or.inr e
/-- the least place of all -/
def ipos (lg : Nat → Nat → Nat) (l : List Nat) (j : Nat) : Nat := (aminP (fun q => pt lg 7 (l.insertIdx q j)) (fun _ => true) (l.length + 1)).getD 0
def ins (lg : Nat → Nat → Nat) (l : List Nat) (j : Nat) : List Nat := l.insertIdx (ipos lg l j) j
def insL (lg : Nat → Nat → Nat) : Nat → List Nat
  | 0 => []
  | k + 1 => ins lg (insL lg k) k
theorem aminP_uniq {t : Nat → Nat} {n b : Nat} (hb : b < n) (h1 : ∀ x, x < n → t b ≤ t x) (h2 : ∀ x, x < b → t b < t x) : aminP t (fun _ => true) n = some b := by
  rcases h : aminP t (fun _ => true) n with _ | c
  · have := aminP_none n h b hb; cases this
  · obtain ⟨hc, -⟩ := aminP_mem n c h
    obtain ⟨g1, g2⟩ := aminP_least n c h
    have k1 := h1 c hc
    have k2 := g1 b hb rfl
    rcases Nat.lt_trichotomy b c with e | e | e
    · have := g2 b e rfl; omega
    · rw [e]
    · have := h2 c e; omega
theorem ipos_of {lg : Nat → Nat → Nat} {l : List Nat} {j b : Nat} (hb : b ≤ l.length) (h1 : ∀ x, x ≤ l.length → pt lg 7 (l.insertIdx b j) ≤ pt lg 7 (l.insertIdx x j)) (h2 : ∀ x, x < b → pt lg 7 (l.insertIdx b j) < pt lg 7 (l.insertIdx x j)) : ipos lg l j = b := by
  unfold ipos
  rw [aminP_uniq (t := fun q => pt lg 7 (l.insertIdx q j)) (b := b) (by omega) (fun x hx => h1 x (by omega)) h2]; rfl
theorem ipos_le {lg : Nat → Nat → Nat} {l : List Nat} {j : Nat} : ipos lg l j ≤ l.length := by
  unfold ipos
  rcases h : aminP (fun q => pt lg 7 (l.insertIdx q j)) (fun _ => true) (l.length + 1) with _ | c
  · exact Nat.zero_le _
  · have := (aminP_mem _ c h).1
    show c ≤ l.length; omega
theorem ins_len {lg : Nat → Nat → Nat} {l : List Nat} {j : Nat} : (ins lg l j).length = l.length + 1 := List.length_insertIdx_of_le_length ipos_le j
theorem insL_len {lg : Nat → Nat → Nat} : ∀ k, (insL lg k).length = k
  | 0 => rfl
  | k + 1 => by rw [insL, ins_len, insL_len k]
theorem insL_mem {lg : Nat → Nat → Nat} : ∀ (k x : Nat), x ∈ insL lg k → x < k
  | 0, x, h => by cases h
  | k + 1, x, h => by
    rcases insertIdx_mem _ _ _ _ h with e | e
    · have := insL_mem k x e; omega
    · omega
/-! all orders, one behind the other -/
def lexL : Nat → List Nat → List (List Nat)
  | 0, _ => [[]]
  | k + 1, R => R.flatMap (fun b => (lexL k (R.filter (fun x => !(x == b)))).map (fun r => b :: r))
def tf (l : List Nat) : Nat → Nat
  | 0 => 0
  | k + 1 => if l.getD (k + 1) 0 < l.getD k 0 then tf l k else k + 1
def lf (l : List Nat) (t : Nat) : Nat → Nat
  | 0 => 0
  | j + 1 => if t < j + 1 ∧ l.getD (j + 1) 0 < l.getD t 0 then lf l t j else j + 1
def rv : Nat → Nat → Nat → List Nat → List Nat
  | 0, _, _, l => l
  | n + 1, lo, hi, l => if lo < hi then rv n (lo + 1) (hi - 1) (lswap l lo hi) else l
/-- the next order, as in a dictionary -/
def adv (m : Nat) (l : List Nat) : Option (List Nat) :=
  if tf l (m - 1) = 0 then none
  else some (rv m (tf l (m - 1)) (m - 1) (lswap l (tf l (m - 1) - 1) (lf l (tf l (m - 1) - 1) (m - 1))))
def chk (m : Nat) : List (List Nat) → Bool
  | [] => true
  | [l] => decide (adv m l = none)
  | l :: b :: r => decide (adv m l = some b) && chk m (b :: r)
def lexOk (m : Nat) : Bool := chk m (lexL m (List.range m)) && decide ((lexL m (List.range m)).length ≤ 5040) && decide ((lexL m (List.range m)).head? = some (List.range m)) && (lexL m (List.range m)).all (fun l => decide (l.length = m) && l.all (fun x => decide (x < m)))
set_option maxRecDepth 100000 in
set_option maxHeartbeats 4000000 in
theorem lexOk_0 : lexOk 0 = true ∧ lexOk 1 = true ∧ lexOk 2 = true ∧ lexOk 3 = true ∧ lexOk 4 = true ∧ lexOk 5 = true := by decide +kernel
set_option maxRecDepth 100000 in
set_option maxHeartbeats 4000000 in
theorem lexOk_6 : lexOk 6 = true := by decide +kernel
set_option maxRecDepth 100000 in
set_option maxHeartbeats 4000000 in
theorem lexOk_7 : lexOk 7 = true := by decide +kernel
theorem lexOk_all {m : Nat} (h : m ≤ 7) : lexOk m = true := by
  obtain ⟨h0, h1, h2, h3, h4, h5⟩ := lexOk_0
  have : m = 0 ∨ m = 1 ∨ m = 2 ∨ m = 3 ∨ m = 4 ∨ m = 5 ∨ m = 6 ∨ m = 7 := by omega
  rcases this with e | e | e | e | e | e | e | e <;> rw [e]
  · exact h0
  · exact h1
  · exact h2
  · exact h3
  · exact h4
  · exact h5
  · exact lexOk_6
  · exact lexOk_7
