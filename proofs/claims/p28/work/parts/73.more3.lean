/-! the earliest deadline, told anew -/
def ear (dl : Nat → Nat) (L : List Nat) (k : Nat) : Nat := (L.take k).foldl (fun a x => min a (dl x)) 100000
theorem ear_s {dl : Nat → Nat} {L : List Nat} {k : Nat} (h : k < L.length) : ear dl L (k + 1) = min (ear dl L k) (dl (L.getD k 0)) := by
  have e : L.take (k + 1) = L.take k ++ [L.getD k 0] := by
    rw [List.take_succ, List.getD_eq_getElem?_getD, List.getElem?_eq_getElem h]; rfl
  unfold ear
  rw [e, List.foldl_append]; rfl
theorem fold_min {dl : Nat → Nat} : ∀ (L : List Nat), 0 < L.length → (∀ x, dl x ≤ 99999) → L.foldl (fun a x => min a (dl x)) 100000 = L.foldl (fun a x => min a (dl x)) 99999
  | [], h, _ => absurd h (Nat.lt_irrefl 0)
  | x :: r, _, h => by
    have h1 := h x
    show r.foldl (fun a x => min a (dl x)) (min 100000 (dl x)) = r.foldl (fun a x => min a (dl x)) (min 99999 (dl x))
    rw [show min 100000 (dl x) = min 99999 (dl x) by omega]
theorem ear_all {dl : Nat → Nat} {fw : Nat → Int32} {x : Int32} {nj : Nat} (h : 0 < (wl fw x nj).length) (hd : ∀ x, dl x ≤ 99999) : ear dl (wl fw x nj) (wl fw x nj).length = erl fw x dl nj := by
  unfold ear
  rw [List.take_length, fold_min _ h hd]; rfl
theorem ear_le {dl : Nat → Nat} {L : List Nat} : ∀ k, k ≤ L.length → ear dl L k ≤ 100000
  | 0, _ => Nat.le_refl _
  | k + 1, h => by
    have := ear_le (dl := dl) (L := L) k (by omega)
    rw [ear_s h]; omega
theorem k1_1 {o : Option Nat} (h : o = none) : k1 o = 1 := by subst h; rfl
theorem k1_0 {o : Option Nat} {t : Nat} (h : o = some t) : k1 o = 0 := by subst h; rfl
theorem k1b_0 {o : Option Nat} {q : Nat → Option Nat} {t f : Nat} (h : o = some t) (h2 : q t = some f) : k1b o q = 0 := by subst h; simp [k1b, h2]
section ZJF
variable {p : Program} {l : Launch} {e : Env} {R : Room} {s : State} {m : MethodId} {args : Array Value} {below : List Frame} {meth : Method} {c : Code} {H : Heap} {locs : List Loc} {cells slots : Nat} {Q : State → Prop}
variable {cc : ByteArray} {pc : Nat} {ls : Array Slot} {rest st0 As : List Value} {own C T9 host : String} {index maxL n nL q0 ci N b : Nat} {y : MethodName} {bytes : ByteArray} {ret : Option FieldType} {Ts wsC wsC' : List Cond} {rm : Room} {D : va_G} {cA : Nat → ClassId} {ws : va_W} {fs : List Value} {T : u_T}
/-- a join behind calls -/
theorem z_joinF {α : Type} {pc' : Nat} {st : List Value} (kc ks : Nat) (P : α → Heap → List Loc → Array Slot → Prop) (st' : α → List Value) (hJ : ∀ v H1 locs1 ls', P v H1 locs1 ls' → W p l e R s m args below meth c H1 locs1 kc ks Q (F0 m pc' ls' (st' v))) (k : (∀ v H1 locs1 ls', P v H1 locs1 ls' → W p l e R s m args below meth c H1 locs1 kc ks Q (F0 m pc' ls' (st' v))) → W p l e R s m args below meth c H locs cells slots Q (F0 m pc ls st)) : W p l e R s m args below meth c H locs cells slots Q (F0 m pc ls st) := k hJ
end ZJF
