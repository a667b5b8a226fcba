/-! one cell of the class's world is set -/
theorem va_up_id {α : Type} (f : Nat → α) (i : Nat) : va_up f i (f i) = f := by
  funext j
  by_cases h : j = i
  · rw [h, va_up_self]
  · rw [va_up_ne _ _ h]
theorem va_up_up {α : Type} (f : Nat → α) (i : Nat) (a b : α) : va_up (va_up f i a) i b = va_up f i b := by
  funext j
  by_cases h : j = i
  · rw [h, va_up_self, va_up_self]
  · rw [va_up_ne _ _ h, va_up_ne _ _ h, va_up_ne _ _ h]
section ZLS
variable {cA : Nat → ClassId} {ws : va_W} {ad : Nat → Nat} {T : Nat → Nat} {Bd : Nat → Nat} {E : Nat → Nat} {PT : Nat → Nat} {PB : Nat → Nat} {PE : Nat → Nat} {n : Nat} {tr : Nat → Nat} {le : Nat → Nat} {sl : Nat → Nat} {mo : Nat → Option Nat} {la : Nat → Bool} {fc : Nat → Nat} {bo : Nat → Nat → Nat} {nd : Nat} {mk : Nat → Nat} {ck : Nat → Int32} {ct : Nat → Nat} {hd : Nat → Option Nat} {pq : Nat → Int32} {nj : Nat} {fw : Nat → Int32} {jf : Nat → Nat} {dl : Nat → Nat} {dn : Nat} {oc : Nat} {s8 : Nat → Int32} {s9 : Nat → Int32} {s10 : Nat → Int32} {s11 : Nat → Int32} {s12 : Nat → Int32}
theorem zL_T (h : zL cA ws ad T Bd E PT PB PE n tr le sl mo la fc bo nd mk ck ct hd pq nj fw jf dl dn oc s8 s9 s10 s11 s12) (hn : n ≤ 8) {i : Nat} (hi : i < n) (s' : Nat) (m' : Option Nat) (x' : Bool) (f' : Nat) : zL cA (ws.set (PT i) (T i, zTape i (tr i) (le i) s' m' x' f' (Bd i))) ad T Bd E PT PB PE n tr le (va_up sl i s') (va_up mo i m') (va_up la i x') (va_up fc i f') bo nd mk ck ct hd pq nj fw jf dl dn oc s8 s9 s10 s11 s12 := by
  obtain ⟨⟨l22, l23, l24, l25, l26, l27, l28, l29, l30, l31, l32, l33, l34⟩, hT, hE, hB⟩ := h
  obtain ⟨t1, t2, t3, t4⟩ := hT i hi
  refine ⟨⟨zset_n l22 (by omega), zset_n l23 (by omega), zset_n l24 (by omega), zset_n l25 (by omega), zset_n l26 (by omega), zset_n l27 (by omega), zset_n l28 (by omega), zset_n l29 (by omega), zset_n l30 (by omega), zset_n l31 (by omega), zset_n l32 (by omega), zset_n l33 (by omega), zset_n l34 (by omega)⟩, fun k hk => ?_, fun j hj => ?_, hB⟩
  · obtain ⟨g1, g2, g3, g4⟩ := hT k hk
    by_cases e : k = i
    · subst e
      rw [va_up_self, va_up_self, va_up_self, va_up_self]
      exact ⟨zset_s t1, zset_n g2 (zapo t1 g2), g3, g4⟩
    · rw [va_up_ne _ _ e, va_up_ne _ _ e, va_up_ne _ _ e, va_up_ne _ _ e]
      refine ⟨zset_n g1 (fun q => ?_), zset_n g2 (zapo t1 g2), g3, g4⟩
      rw [q, g1] at t1
      injection t1 with t1; injection t1 with _ t1; injection t1 with t1; injection t1 with _ t1; injection t1 with t1 _; injection t1 with t1
      exact e ((nI_eq (by omega) (by omega)).mp t1)
  · obtain ⟨g1, g2⟩ := hE j hj
    exact ⟨zset_n g1 (zapc t1 g1 (by decide)), g2⟩
theorem zL_B (h : zL cA ws ad T Bd E PT PB PE n tr le sl mo la fc bo nd mk ck ct hd pq nj fw jf dl dn oc s8 s9 s10 s11 s12) {i : Nat} (hi : i < n) (b' : Nat → Nat) : zL cA (ws.set (PB i) (Bd i, zInts cA 11 (fun k => nI (b' k)))) ad T Bd E PT PB PE n tr le sl mo la fc (va_up bo i b') nd mk ck ct hd pq nj fw jf dl dn oc s8 s9 s10 s11 s12 := by
  obtain ⟨⟨l22, l23, l24, l25, l26, l27, l28, l29, l30, l31, l32, l33, l34⟩, hT, hE, hB⟩ := h
  obtain ⟨t1, t2, t3, t4⟩ := hT i hi
  refine ⟨⟨zset_n l22 (by omega), zset_n l23 (by omega), zset_n l24 (by omega), zset_n l25 (by omega), zset_n l26 (by omega), zset_n l27 (by omega), zset_n l28 (by omega), zset_n l29 (by omega), zset_n l30 (by omega), zset_n l31 (by omega), zset_n l32 (by omega), zset_n l33 (by omega), zset_n l34 (by omega)⟩, fun k hk => ?_, fun j hj => ?_, hB⟩
  · obtain ⟨g1, g2, g3, g4⟩ := hT k hk
    by_cases e : k = i
    · subst e
      rw [va_up_self]
      exact ⟨zset_n g1 (zapo' t2 g1), zset_s t2, g3, g4⟩
    · rw [va_up_ne _ _ e]
      exact ⟨zset_n g1 (zapo' t2 g1), zset_n g2 (hB i k hi hk (Ne.symm e)), g3, g4⟩
  · obtain ⟨g1, g2⟩ := hE j hj
    exact ⟨zset_n g1 (zapo' t2 g1), g2⟩
theorem zL_E (h : zL cA ws ad T Bd E PT PB PE n tr le sl mo la fc bo nd mk ck ct hd pq nj fw jf dl dn oc s8 s9 s10 s11 s12) (hn : nd ≤ 3) {j : Nat} (hj : j < nd) (h' : Option Nat) (p' c' : Int32) (t' : Nat) : zL cA (ws.set (PE j) (E j, zDrive j (zpa (mk j)) (zsp (mk j)) (h'.map T) p' c' t')) ad T Bd E PT PB PE n tr le sl mo la fc bo nd mk (va_up ck j c') (va_up ct j t') (va_up hd j h') (va_up pq j p') nj fw jf dl dn oc s8 s9 s10 s11 s12 := by
  obtain ⟨⟨l22, l23, l24, l25, l26, l27, l28, l29, l30, l31, l32, l33, l34⟩, hT, hE, hB⟩ := h
  obtain ⟨t1, t2⟩ := hE j hj
  refine ⟨⟨zset_n l22 (by omega), zset_n l23 (by omega), zset_n l24 (by omega), zset_n l25 (by omega), zset_n l26 (by omega), zset_n l27 (by omega), zset_n l28 (by omega), zset_n l29 (by omega), zset_n l30 (by omega), zset_n l31 (by omega), zset_n l32 (by omega), zset_n l33 (by omega), zset_n l34 (by omega)⟩, fun k hk => ?_, fun k hk => ?_, hB⟩
  · obtain ⟨g1, g2, g3, g4⟩ := hT k hk
    exact ⟨zset_n g1 (zapc t1 g1 (by decide)), zset_n g2 (zapo t1 g2), g3, g4⟩
  · obtain ⟨g1, g2⟩ := hE k hk
    by_cases e : k = j
    · subst e
      rw [va_up_self, va_up_self, va_up_self, va_up_self]
      exact ⟨zset_s t1, g2⟩
    · rw [va_up_ne _ _ e, va_up_ne _ _ e, va_up_ne _ _ e, va_up_ne _ _ e]
      refine ⟨zset_n g1 (fun q => ?_), g2⟩
      rw [q, g1] at t1
      injection t1 with t1; injection t1 with _ t1; injection t1 with t1; injection t1 with _ t1; injection t1 with t1 _; injection t1 with t1
      exact e ((nI_eq (by omega) (by omega)).mp t1)
theorem zL_25 (h : zL cA ws ad T Bd E PT PB PE n tr le sl mo la fc bo nd mk ck ct hd pq nj fw jf dl dn oc s8 s9 s10 s11 s12) (nj' dn' : Nat) : zL cA (ws.set 3 (ad 3, zJobs nj' dn' (ad 5) (ad 6) (ad 7))) ad T Bd E PT PB PE n tr le sl mo la fc bo nd mk ck ct hd pq nj' fw jf dl dn' oc s8 s9 s10 s11 s12 := by
  obtain ⟨⟨l22, l23, l24, l25, l26, l27, l28, l29, l30, l31, l32, l33, l34⟩, hT, hE, hB⟩ := h
  refine ⟨⟨zset_n l22 (by decide), zset_n l23 (by decide), zset_n l24 (by decide), zset_s l25, zset_n l26 (by decide), zset_n l27 (by decide), zset_n l28 (by decide), zset_n l29 (by decide), zset_n l30 (by decide), zset_n l31 (by decide), zset_n l32 (by decide), zset_n l33 (by decide), zset_n l34 (by decide)⟩, fun i hi => ?_, fun j hj => ?_, hB⟩
  · obtain ⟨g1, g2, g3, g4⟩ := hT i hi
    exact ⟨zset_n g1 (by omega), zset_n g2 (by omega), g3, g4⟩
  · obtain ⟨g1, g2⟩ := hE j hj
    exact ⟨zset_n g1 (by omega), g2⟩
theorem zL_26 (h : zL cA ws ad T Bd E PT PB PE n tr le sl mo la fc bo nd mk ck ct hd pq nj fw jf dl dn oc s8 s9 s10 s11 s12) (oc' : Nat) : zL cA (ws.set 4 (ad 4, zOrd oc' (ad 8) (ad 9) (ad 10) (ad 11) (ad 12))) ad T Bd E PT PB PE n tr le sl mo la fc bo nd mk ck ct hd pq nj fw jf dl dn oc' s8 s9 s10 s11 s12 := by
  obtain ⟨⟨l22, l23, l24, l25, l26, l27, l28, l29, l30, l31, l32, l33, l34⟩, hT, hE, hB⟩ := h
  refine ⟨⟨zset_n l22 (by decide), zset_n l23 (by decide), zset_n l24 (by decide), zset_n l25 (by decide), zset_s l26, zset_n l27 (by decide), zset_n l28 (by decide), zset_n l29 (by decide), zset_n l30 (by decide), zset_n l31 (by decide), zset_n l32 (by decide), zset_n l33 (by decide), zset_n l34 (by decide)⟩, fun i hi => ?_, fun j hj => ?_, hB⟩
  · obtain ⟨g1, g2, g3, g4⟩ := hT i hi
    exact ⟨zset_n g1 (by omega), zset_n g2 (by omega), g3, g4⟩
  · obtain ⟨g1, g2⟩ := hE j hj
    exact ⟨zset_n g1 (by omega), g2⟩
theorem zL_27 (h : zL cA ws ad T Bd E PT PB PE n tr le sl mo la fc bo nd mk ck ct hd pq nj fw jf dl dn oc s8 s9 s10 s11 s12) (f' : Nat → Int32) : zL cA (ws.set 5 (ad 5, zInts cA 60 f')) ad T Bd E PT PB PE n tr le sl mo la fc bo nd mk ck ct hd pq nj f' jf dl dn oc s8 s9 s10 s11 s12 := by
  obtain ⟨⟨l22, l23, l24, l25, l26, l27, l28, l29, l30, l31, l32, l33, l34⟩, hT, hE, hB⟩ := h
  refine ⟨⟨zset_n l22 (by decide), zset_n l23 (by decide), zset_n l24 (by decide), zset_n l25 (by decide), zset_n l26 (by decide), zset_s l27, zset_n l28 (by decide), zset_n l29 (by decide), zset_n l30 (by decide), zset_n l31 (by decide), zset_n l32 (by decide), zset_n l33 (by decide), zset_n l34 (by decide)⟩, fun i hi => ?_, fun j hj => ?_, hB⟩
  · obtain ⟨g1, g2, g3, g4⟩ := hT i hi
    exact ⟨zset_n g1 (by omega), zset_n g2 (by omega), g3, g4⟩
  · obtain ⟨g1, g2⟩ := hE j hj
    exact ⟨zset_n g1 (by omega), g2⟩
theorem zL_28 (h : zL cA ws ad T Bd E PT PB PE n tr le sl mo la fc bo nd mk ck ct hd pq nj fw jf dl dn oc s8 s9 s10 s11 s12) (f' : Nat → Nat) : zL cA (ws.set 6 (ad 6, zInts cA 60 (fun k => nI (f' k)))) ad T Bd E PT PB PE n tr le sl mo la fc bo nd mk ck ct hd pq nj fw f' dl dn oc s8 s9 s10 s11 s12 := by
  obtain ⟨⟨l22, l23, l24, l25, l26, l27, l28, l29, l30, l31, l32, l33, l34⟩, hT, hE, hB⟩ := h
  refine ⟨⟨zset_n l22 (by decide), zset_n l23 (by decide), zset_n l24 (by decide), zset_n l25 (by decide), zset_n l26 (by decide), zset_n l27 (by decide), zset_s l28, zset_n l29 (by decide), zset_n l30 (by decide), zset_n l31 (by decide), zset_n l32 (by decide), zset_n l33 (by decide), zset_n l34 (by decide)⟩, fun i hi => ?_, fun j hj => ?_, hB⟩
  · obtain ⟨g1, g2, g3, g4⟩ := hT i hi
    exact ⟨zset_n g1 (by omega), zset_n g2 (by omega), g3, g4⟩
  · obtain ⟨g1, g2⟩ := hE j hj
    exact ⟨zset_n g1 (by omega), g2⟩
theorem zL_29 (h : zL cA ws ad T Bd E PT PB PE n tr le sl mo la fc bo nd mk ck ct hd pq nj fw jf dl dn oc s8 s9 s10 s11 s12) (f' : Nat → Nat) : zL cA (ws.set 7 (ad 7, zInts cA 60 (fun k => nI (f' k)))) ad T Bd E PT PB PE n tr le sl mo la fc bo nd mk ck ct hd pq nj fw jf f' dn oc s8 s9 s10 s11 s12 := by
  obtain ⟨⟨l22, l23, l24, l25, l26, l27, l28, l29, l30, l31, l32, l33, l34⟩, hT, hE, hB⟩ := h
  refine ⟨⟨zset_n l22 (by decide), zset_n l23 (by decide), zset_n l24 (by decide), zset_n l25 (by decide), zset_n l26 (by decide), zset_n l27 (by decide), zset_n l28 (by decide), zset_s l29, zset_n l30 (by decide), zset_n l31 (by decide), zset_n l32 (by decide), zset_n l33 (by decide), zset_n l34 (by decide)⟩, fun i hi => ?_, fun j hj => ?_, hB⟩
  · obtain ⟨g1, g2, g3, g4⟩ := hT i hi
    exact ⟨zset_n g1 (by omega), zset_n g2 (by omega), g3, g4⟩
  · obtain ⟨g1, g2⟩ := hE j hj
    exact ⟨zset_n g1 (by omega), g2⟩
theorem zL_30 (h : zL cA ws ad T Bd E PT PB PE n tr le sl mo la fc bo nd mk ck ct hd pq nj fw jf dl dn oc s8 s9 s10 s11 s12) (f' : Nat → Int32) : zL cA (ws.set 8 (ad 8, zInts cA 7 f')) ad T Bd E PT PB PE n tr le sl mo la fc bo nd mk ck ct hd pq nj fw jf dl dn oc f' s9 s10 s11 s12 := by
  obtain ⟨⟨l22, l23, l24, l25, l26, l27, l28, l29, l30, l31, l32, l33, l34⟩, hT, hE, hB⟩ := h
  refine ⟨⟨zset_n l22 (by decide), zset_n l23 (by decide), zset_n l24 (by decide), zset_n l25 (by decide), zset_n l26 (by decide), zset_n l27 (by decide), zset_n l28 (by decide), zset_n l29 (by decide), zset_s l30, zset_n l31 (by decide), zset_n l32 (by decide), zset_n l33 (by decide), zset_n l34 (by decide)⟩, fun i hi => ?_, fun j hj => ?_, hB⟩
  · obtain ⟨g1, g2, g3, g4⟩ := hT i hi
    exact ⟨zset_n g1 (by omega), zset_n g2 (by omega), g3, g4⟩
  · obtain ⟨g1, g2⟩ := hE j hj
    exact ⟨zset_n g1 (by omega), g2⟩
theorem zL_31 (h : zL cA ws ad T Bd E PT PB PE n tr le sl mo la fc bo nd mk ck ct hd pq nj fw jf dl dn oc s8 s9 s10 s11 s12) (f' : Nat → Int32) : zL cA (ws.set 9 (ad 9, zInts cA 56 f')) ad T Bd E PT PB PE n tr le sl mo la fc bo nd mk ck ct hd pq nj fw jf dl dn oc s8 f' s10 s11 s12 := by
  obtain ⟨⟨l22, l23, l24, l25, l26, l27, l28, l29, l30, l31, l32, l33, l34⟩, hT, hE, hB⟩ := h
  refine ⟨⟨zset_n l22 (by decide), zset_n l23 (by decide), zset_n l24 (by decide), zset_n l25 (by decide), zset_n l26 (by decide), zset_n l27 (by decide), zset_n l28 (by decide), zset_n l29 (by decide), zset_n l30 (by decide), zset_s l31, zset_n l32 (by decide), zset_n l33 (by decide), zset_n l34 (by decide)⟩, fun i hi => ?_, fun j hj => ?_, hB⟩
  · obtain ⟨g1, g2, g3, g4⟩ := hT i hi
    exact ⟨zset_n g1 (by omega), zset_n g2 (by omega), g3, g4⟩
  · obtain ⟨g1, g2⟩ := hE j hj
    exact ⟨zset_n g1 (by omega), g2⟩
theorem zL_32 (h : zL cA ws ad T Bd E PT PB PE n tr le sl mo la fc bo nd mk ck ct hd pq nj fw jf dl dn oc s8 s9 s10 s11 s12) (f' : Nat → Int32) : zL cA (ws.set 10 (ad 10, zInts cA 896 f')) ad T Bd E PT PB PE n tr le sl mo la fc bo nd mk ck ct hd pq nj fw jf dl dn oc s8 s9 f' s11 s12 := by
  obtain ⟨⟨l22, l23, l24, l25, l26, l27, l28, l29, l30, l31, l32, l33, l34⟩, hT, hE, hB⟩ := h
  refine ⟨⟨zset_n l22 (by decide), zset_n l23 (by decide), zset_n l24 (by decide), zset_n l25 (by decide), zset_n l26 (by decide), zset_n l27 (by decide), zset_n l28 (by decide), zset_n l29 (by decide), zset_n l30 (by decide), zset_n l31 (by decide), zset_s l32, zset_n l33 (by decide), zset_n l34 (by decide)⟩, fun i hi => ?_, fun j hj => ?_, hB⟩
  · obtain ⟨g1, g2, g3, g4⟩ := hT i hi
    exact ⟨zset_n g1 (by omega), zset_n g2 (by omega), g3, g4⟩
  · obtain ⟨g1, g2⟩ := hE j hj
    exact ⟨zset_n g1 (by omega), g2⟩
theorem zL_33 (h : zL cA ws ad T Bd E PT PB PE n tr le sl mo la fc bo nd mk ck ct hd pq nj fw jf dl dn oc s8 s9 s10 s11 s12) (f' : Nat → Int32) : zL cA (ws.set 11 (ad 11, zInts cA 7 f')) ad T Bd E PT PB PE n tr le sl mo la fc bo nd mk ck ct hd pq nj fw jf dl dn oc s8 s9 s10 f' s12 := by
  obtain ⟨⟨l22, l23, l24, l25, l26, l27, l28, l29, l30, l31, l32, l33, l34⟩, hT, hE, hB⟩ := h
  refine ⟨⟨zset_n l22 (by decide), zset_n l23 (by decide), zset_n l24 (by decide), zset_n l25 (by decide), zset_n l26 (by decide), zset_n l27 (by decide), zset_n l28 (by decide), zset_n l29 (by decide), zset_n l30 (by decide), zset_n l31 (by decide), zset_n l32 (by decide), zset_s l33, zset_n l34 (by decide)⟩, fun i hi => ?_, fun j hj => ?_, hB⟩
  · obtain ⟨g1, g2, g3, g4⟩ := hT i hi
    exact ⟨zset_n g1 (by omega), zset_n g2 (by omega), g3, g4⟩
  · obtain ⟨g1, g2⟩ := hE j hj
    exact ⟨zset_n g1 (by omega), g2⟩
theorem zL_34 (h : zL cA ws ad T Bd E PT PB PE n tr le sl mo la fc bo nd mk ck ct hd pq nj fw jf dl dn oc s8 s9 s10 s11 s12) (f' : Nat → Int32) : zL cA (ws.set 12 (ad 12, zInts cA 7 f')) ad T Bd E PT PB PE n tr le sl mo la fc bo nd mk ck ct hd pq nj fw jf dl dn oc s8 s9 s10 s11 f' := by
  obtain ⟨⟨l22, l23, l24, l25, l26, l27, l28, l29, l30, l31, l32, l33, l34⟩, hT, hE, hB⟩ := h
  refine ⟨⟨zset_n l22 (by decide), zset_n l23 (by decide), zset_n l24 (by decide), zset_n l25 (by decide), zset_n l26 (by decide), zset_n l27 (by decide), zset_n l28 (by decide), zset_n l29 (by decide), zset_n l30 (by decide), zset_n l31 (by decide), zset_n l32 (by decide), zset_n l33 (by decide), zset_s l34⟩, fun i hi => ?_, fun j hj => ?_, hB⟩
  · obtain ⟨g1, g2, g3, g4⟩ := hT i hi
    exact ⟨zset_n g1 (by omega), zset_n g2 (by omega), g3, g4⟩
  · obtain ⟨g1, g2⟩ := hE j hj
    exact ⟨zset_n g1 (by omega), g2⟩
end ZLS
/-- what stands below the class's cells stays -/
def zKeep (ws u : va_W) : Prop := ∀ k, k < 0 → u[k]? = ws[k]?
theorem zKeep_rf {ws : va_W} : zKeep ws ws := fun _ _ => rfl
theorem zKeep_set {ws u : va_W} {k : Nat} {q : Nat × va_E} (h : zKeep ws u) (hk : 0 ≤ k) : zKeep ws (u.set k q) := fun j hj => by
  rw [List.getElem?_set_ne (by omega)]; exact h j hj
/-- an argument as a number below n -/
def ix (v : Int32) (n : Nat) : Option Nat := if v < 0 then none else if v.toNatClampNeg < n then some v.toNatClampNeg else none
theorem ix_neg {v : Int32} {n : Nat} (h : v < 0) : ix v n = none := if_pos h
theorem ix_nI {j n : Nat} (h : j < 2 ^ 31) : ix (nI j) n = if j < n then some j else none := by
  unfold ix
  rw [if_neg (nI_pos h), nI_clamp h]
theorem ix_in {j n : Nat} (h : j < 2 ^ 31) (hj : j < n) : ix (nI j) n = some j := by rw [ix_nI h, if_pos hj]
theorem ix_none {v : Int32} {n : Nat} (hn : n < 2 ^ 31) (h : ∀ j, j < n → v ≠ nI j) : ix v n = none := by
  rcases zI_split v with q | ⟨j, hj, rfl⟩
  · exact ix_neg q
  · rw [ix_nI hj, if_neg (fun q => h j q rfl)]
theorem ix_some {v : Int32} {n j : Nat} (h : ix v n = some j) : j < n ∧ v = nI j := by
  rcases zI_split v with q | ⟨k, hk, rfl⟩
  · rw [ix_neg q] at h; cases h
  · rw [ix_nI hk] at h
    split at h
    · cases h; exact ⟨by assumption, rfl⟩
    · cases h
