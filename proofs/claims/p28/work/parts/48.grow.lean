/-! a new tape, a new drive in the class's world -/
theorem va_up_rng {n q : Nat} {T : Nat → Nat} : va_up (rng n T) n (some q) = rng (n + 1) (va_up T n q) := by
  funext i
  by_cases e : i = n
  · subst e; rw [va_up_self]; unfold rng; rw [if_pos (by omega), va_up_self]
  · rw [va_up_ne _ _ e]; unfold rng
    by_cases h : i < n
    · rw [if_pos h, if_pos (by omega), va_up_ne _ _ e]
    · rw [if_neg h, if_neg (by omega)]
theorem zKeep_app {ws u es : va_W} (h : zKeep ws u) (hl : 0 ≤ u.length) : zKeep ws (u ++ es) := fun k hk => by
  rw [List.getElem?_append_left (by omega)]; exact h k hk
section ZLG
variable {cA : Nat → ClassId} {ws : va_W} {ad : Nat → Nat} {T : Nat → Nat} {Bd : Nat → Nat} {E : Nat → Nat} {PT : Nat → Nat} {PB : Nat → Nat} {PE : Nat → Nat} {n : Nat} {tr : Nat → Nat} {le : Nat → Nat} {sl : Nat → Nat} {mo : Nat → Option Nat} {la : Nat → Bool} {fc : Nat → Nat} {bo : Nat → Nat → Nat} {nd : Nat} {mk : Nat → Nat} {ck : Nat → Int32} {ct : Nat → Nat} {hd : Nat → Option Nat} {pq : Nat → Int32} {nj : Nat} {fw : Nat → Int32} {jf : Nat → Nat} {dl : Nat → Nat} {dn : Nat} {oc : Nat} {s8 : Nat → Int32} {s9 : Nat → Int32} {s10 : Nat → Int32} {s11 : Nat → Int32} {s12 : Nat → Int32}
theorem zL_newT (h : zL cA ws ad T Bd E PT PB PE n tr le sl mo la fc bo nd mk ck ct hd pq nj fw jf dl dn oc s8 s9 s10 s11 s12) (hI : ∀ j, j < nd → ∀ i, hd j = some i → i < n) (q u a b v9 : Nat) (d9 : va_E) : zL cA (((((ws ++ [(q, d9)]) ++ [(u, zInts cA 11 (fun _ => nI 0))]).set ws.length (q, zTape n a b v9 none true 0 u)).set 1 (ad 1, zRefs cA 1 8 (rng (n + 1) (va_up T n q)))).set 0 (ad 0, zTR (ad 1) (n + 1) (ad 2) nd (ad 3) (ad 4))) ad (va_up T n q) (va_up Bd n u) E (va_up PT n ws.length) (va_up PB n (ws.length + 1)) PE (n + 1) (va_up tr n a) (va_up le n b) (va_up sl n v9) (va_up mo n none) (va_up la n true) (va_up fc n 0) (va_up bo n (fun _ => 0)) nd mk ck ct hd pq nj fw jf dl dn oc s8 s9 s10 s11 s12 := by
  obtain ⟨⟨l22, l23, l24, l25, l26, l27, l28, l29, l30, l31, l32, l33, l34⟩, hT, hE, hB⟩ := h
  have hlen : 13 ≤ ws.length := zlt l34
  refine ⟨⟨zset_s (zset_n (zset_n (zapp (zapp l22)) (by omega)) (by decide)), zset_n (zset_s (zset_n (zapp (zapp l23)) (by omega))) (by decide), zset_n (zset_n (zset_n (zapp (zapp l24)) (by omega)) (by decide)) (by decide), zset_n (zset_n (zset_n (zapp (zapp l25)) (by omega)) (by decide)) (by decide), zset_n (zset_n (zset_n (zapp (zapp l26)) (by omega)) (by decide)) (by decide), zset_n (zset_n (zset_n (zapp (zapp l27)) (by omega)) (by decide)) (by decide), zset_n (zset_n (zset_n (zapp (zapp l28)) (by omega)) (by decide)) (by decide), zset_n (zset_n (zset_n (zapp (zapp l29)) (by omega)) (by decide)) (by decide), zset_n (zset_n (zset_n (zapp (zapp l30)) (by omega)) (by decide)) (by decide), zset_n (zset_n (zset_n (zapp (zapp l31)) (by omega)) (by decide)) (by decide), zset_n (zset_n (zset_n (zapp (zapp l32)) (by omega)) (by decide)) (by decide), zset_n (zset_n (zset_n (zapp (zapp l33)) (by omega)) (by decide)) (by decide), zset_n (zset_n (zset_n (zapp (zapp l34)) (by omega)) (by decide)) (by decide)⟩, fun i hi => ?_, fun j hj => ?_, fun i k hi hk hik => ?_⟩
  · by_cases e : i = n
    · subst e
      simp only [va_up_self]
      exact ⟨zset_n (zset_n (zset_s (zapp zend)) (by omega)) (by omega), zset_n (zset_n (zset_n (zendn (by rw [List.length_append]; rfl) rfl) (by omega)) (by omega)) (by omega), by omega, by omega⟩
    · obtain ⟨g1, g2, g3, g4⟩ := hT i (by omega)
      have h1 := zlt g1
      have h2 := zlt g2
      simp only [va_up_ne _ _ e]
      exact ⟨zset_n (zset_n (zset_n (zapp (zapp g1)) (by omega)) (by omega)) (by omega), zset_n (zset_n (zset_n (zapp (zapp g2)) (by omega)) (by omega)) (by omega), g3, g4⟩
  · obtain ⟨g1, g2⟩ := hE j hj
    have h1 := zlt g1
    have e : (hd j).map (va_up T n q) = (hd j).map T := by
      cases h9 : hd j with
      | none => rfl
      | some i => show some _ = some _; rw [va_up_ne _ _ (Nat.ne_of_lt (hI j hj i h9))]
    rw [e]
    exact ⟨zset_n (zset_n (zset_n (zapp (zapp g1)) (by omega)) (by omega)) (by omega), g2⟩
  · by_cases e : i = n
    · subst e
      have h2 := zlt (hT k (by omega)).2.1
      rw [va_up_self, va_up_ne _ _ (Ne.symm hik)]; omega
    · by_cases e2 : k = n
      · subst e2
        have h2 := zlt (hT i (by omega)).2.1
        rw [va_up_self, va_up_ne _ _ e]; omega
      · rw [va_up_ne _ _ e, va_up_ne _ _ e2]; exact hB i k (by omega) (by omega) hik
theorem zL_newD (h : zL cA ws ad T Bd E PT PB PE n tr le sl mo la fc bo nd mk ck ct hd pq nj fw jf dl dn oc s8 s9 s10 s11 s12) (q m9 : Nat) (d9 : va_E) : zL cA ((((ws ++ [(q, d9)]).set ws.length (q, zDrive nd (zpa m9) (zsp m9) none (-1) 0 0)).set 2 (ad 2, zRefs cA 2 3 (rng (nd + 1) (va_up E nd q)))).set 0 (ad 0, zTR (ad 1) n (ad 2) (nd + 1) (ad 3) (ad 4))) ad T Bd (va_up E nd q) PT PB (va_up PE nd ws.length) n tr le sl mo la fc bo (nd + 1) (va_up mk nd m9) (va_up ck nd 0) (va_up ct nd 0) (va_up hd nd none) (va_up pq nd (-1)) nj fw jf dl dn oc s8 s9 s10 s11 s12 := by
  obtain ⟨⟨l22, l23, l24, l25, l26, l27, l28, l29, l30, l31, l32, l33, l34⟩, hT, hE, hB⟩ := h
  have hlen : 13 ≤ ws.length := zlt l34
  refine ⟨⟨zset_s (zset_n (zset_n (zapp l22) (by omega)) (by decide)), zset_n (zset_n (zset_n (zapp l23) (by omega)) (by decide)) (by decide), zset_n (zset_s (zset_n (zapp l24) (by omega))) (by decide), zset_n (zset_n (zset_n (zapp l25) (by omega)) (by decide)) (by decide), zset_n (zset_n (zset_n (zapp l26) (by omega)) (by decide)) (by decide), zset_n (zset_n (zset_n (zapp l27) (by omega)) (by decide)) (by decide), zset_n (zset_n (zset_n (zapp l28) (by omega)) (by decide)) (by decide), zset_n (zset_n (zset_n (zapp l29) (by omega)) (by decide)) (by decide), zset_n (zset_n (zset_n (zapp l30) (by omega)) (by decide)) (by decide), zset_n (zset_n (zset_n (zapp l31) (by omega)) (by decide)) (by decide), zset_n (zset_n (zset_n (zapp l32) (by omega)) (by decide)) (by decide), zset_n (zset_n (zset_n (zapp l33) (by omega)) (by decide)) (by decide), zset_n (zset_n (zset_n (zapp l34) (by omega)) (by decide)) (by decide)⟩, fun i hi => ?_, fun j hj => ?_, hB⟩
  · obtain ⟨g1, g2, g3, g4⟩ := hT i hi
    have h1 := zlt g1
    have h2 := zlt g2
    exact ⟨zset_n (zset_n (zset_n (zapp g1) (by omega)) (by omega)) (by omega), zset_n (zset_n (zset_n (zapp g2) (by omega)) (by omega)) (by omega), g3, g4⟩
  · by_cases e : j = nd
    · subst e
      simp only [va_up_self]
      exact ⟨zset_n (zset_n (zset_s zend) (by omega)) (by omega), by omega⟩
    · obtain ⟨g1, g2⟩ := hE j (by omega)
      have h1 := zlt g1
      simp only [va_up_ne _ _ e]
      exact ⟨zset_n (zset_n (zset_n (zapp g1) (by omega)) (by omega)) (by omega), g2⟩
end ZLG
