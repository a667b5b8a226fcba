/-! more of slots, places, choices -/
theorem fre_cnt {sl : Nat → Nat} : ∀ (n m : Nat), cnt (fun g => !fre sl g n) m ≤ n
  | 0, m => by
    rw [show cnt (fun g => !fre sl g 0) m = cnt (fun _ => false) m from rfl]
    have h : ∀ m, cnt (fun _ => false) m = 0 := by
      intro m; induction m with
      | zero => rfl
      | succ m ih => rw [cnt, ih]; rfl
    rw [h]; exact Nat.le_refl _
  | n + 1, m => by
    have ih := fre_cnt (sl := sl) n m
    have h : ∀ m, cnt (fun g => !fre sl g (n + 1)) m ≤ cnt (fun g => !fre sl g n) m + if sl n < m then 1 else 0 := by
      intro m; induction m with
      | zero => rw [if_neg (Nat.not_lt_zero _)]; exact Nat.le_refl _
      | succ m ih2 =>
        rw [cnt, cnt]
        by_cases e : sl n = m
        · rw [if_neg (show ¬ sl n < m by omega)] at ih2
          rw [if_pos (show sl n < m + 1 by omega)]
          split <;> split <;> omega
        · have e2 : (!fre sl m (n + 1)) = !fre sl m n := by
            rw [fre]; have : (sl n == m) = false := by simp [e]
            rw [this]; simp
          rw [e2]
          by_cases e3 : sl n < m
          · rw [if_pos e3] at ih2; rw [if_pos (show sl n < m + 1 by omega)]; omega
          · rw [if_neg e3] at ih2; rw [if_neg (show ¬ sl n < m + 1 by omega)]; omega
    have h2 := h m
    split at h2 <;> omega
/-- there are more slots than tapes -/
theorem fre_ex {sl : Nat → Nat} {n m : Nat} (h : n < m) : ∃ g, g < m ∧ fre sl g n = true := by
  refine Decidable.byContradiction fun q => ?_
  have h1 : ∀ g, g < m → (!fre sl g n) = true := fun g hg => by
    cases hf : fre sl g n with
    | false => rfl
    | true => exact absurd ⟨g, hg, hf⟩ q
  have h2 := cnt_congr (p := fun g => !fre sl g n) (q := fun _ => true) m h1
  have h3 := fre_cnt (sl := sl) n m
  rw [h2, cnt_all] at h3
  omega
theorem fstF_lt {f : Nat → Bool} {k : Nat} : ∀ (n : Nat), k < n → f k = true → fstF f n ≤ k
  | 0, h, _ => absurd h (Nat.not_lt_zero k)
  | n + 1, h, hf => by
    rw [fstF]
    by_cases e : k < n
    · have h1 := fstF_lt n e hf
      rw [if_pos (by omega)]; exact h1
    · have e2 : k = n := by omega
      subst e2
      by_cases e3 : fstF f k < k
      · rw [if_pos e3]; omega
      · rw [if_neg e3, if_pos hf]; exact Nat.le_refl _
theorem fst12 {sl : Nat → Nat} {n : Nat} (h : n ≤ 8) : fstF (fun g => fre sl g n) 12 < 12 := by
  obtain ⟨g, hg, hf⟩ := fre_ex (sl := sl) (n := n) (m := 12) (by omega)
  have := fstF_lt (f := fun g => fre sl g n) 12 hg hf
  omega
theorem pq_le {n : Nat} {tr le sl : Nat → Nat} {mo : Nat → Option Nat} {fc : Nat → Nat} {bo : Nat → Nat → Nat} {nd : Nat} {mk : Nat → Nat} {ct : Nat → Nat} {hd : Nat → Option Nat} {pq : Nat → Int32} {nj : Nat} {fw : Nat → Int32} {jf dl : Nat → Nat} {j t P : Nat} (hI : zI n tr le sl mo fc bo nd mk ct hd pq nj fw jf dl) (hj : j < nd) (hht : hd j = some t) (hpq : pq j = nI P) (hP : P ≤ 1600) : P ≤ tr t * le t := by
  obtain ⟨h1, h2, h3, hT, hD, hJ, hd9, hW⟩ := hI
  obtain ⟨b1, b2, q, e1, e2⟩ := (hD j hj).2.2.2 t hht
  obtain ⟨a1, a2, a3, a4, a5⟩ := hT t b1
  have h5 : tr t * le t ≤ 8 * 200 := Nat.mul_le_mul a2 a4
  have h6 := (nI_eq (by omega) (by omega)).mp (hpq.symm.trans e1)
  omega
theorem va_up_eq {α : Type} {f : Nat → α} {i : Nat} {v : α} (h : f i = v) : va_up f i v = f := by rw [← h, va_up_id]
/-- the number of a tape that a choice gives: one that is there, or none -/
theorem tapes_va {n q x : Nat} (hn : n ≤ 4) (hq : q < n + 1) (hx1 : x ≤ 1) : ∃ va : Int32, nI q - nI x = va ∧ ((∃ a, a < n ∧ va = nI a) ∨ ((∀ j, j < n → va ≠ nI j) ∧ (va = -1 ∨ va = nI n))) := by
  refine ⟨_, rfl, ?_⟩
  by_cases h : x ≤ q
  · rw [pk_sub h]
    by_cases h2 : q - x < n
    · exact Or.inl ⟨q - x, h2, rfl⟩
    · obtain e : q - x = n := by omega
      rw [e]
      exact Or.inr ⟨fun j hj e2 => by have := (nI_eq (by omega) (by omega)).mp e2; omega, Or.inr rfl⟩
  · obtain ⟨rfl, rfl⟩ : q = 0 ∧ x = 1 := by omega
    have e : nI 0 - nI 1 = -1 := by decide
    rw [e]
    exact Or.inr ⟨fun j hj e2 => nI_nm1 (by omega) e2.symm, Or.inl rfl⟩
theorem fst_of {sl : Nat → Nat} {n s : Nat} (hs : s < 12) (h : ∀ j, j < s → fre sl j n = false) (h2 : fre sl s n = true) : fstF (fun g => fre sl g n) 12 = s := fstF_eq 12 (by omega) h (fun _ => h2)
theorem fst_step {sl : Nat → Nat} {n s : Nat} (hn : n ≤ 8) (hs : s < 12) (h : ∀ j, j < s → fre sl j n = false) (h2 : fre sl s n = false) : s + 1 < 12 := by
  obtain ⟨g, hg, hf⟩ := fre_ex (sl := sl) (n := n) (m := 12) (by omega)
  rcases Nat.lt_trichotomy g s with e | e | e
  · rw [h g e] at hf; cases hf
  · rw [e, h2] at hf; cases hf
  · omega
theorem zexA_of {K : Nat} {E : String} (h : zexAS K E) (h2 : K ≠ 2) : zexA K E := h.elim id (fun q => absurd q.1 h2)
