/-! the jobs of a list, done one behind the other: after i of them -/
section WK
variable (mk : Nat → Nat) (tr le : Nat → Nat) (bo : Nat → Nat → Nat) (jf dl : Nat → Nat) (j t : Nat) (Js : Nat → Nat)
def wkP (P : Nat) : Nat → Nat
  | 0 => P
  | i + 1 => bo t (jf (Js i) + 1)
def wkC (P : Nat) (c : Int32) : Nat → Int32
  | 0 => c
  | i + 1 => wkC P c i + nI (legT (zpa (mk j)) (zsp (mk j)) (tr t) (le t) (bo t) (wkP bo jf t Js P i) (jf (Js i)))
def wkL (P : Nat) (c : Int32) : Nat → Nat
  | 0 => 0
  | i + 1 => wkL P c i + if wkC mk tr le bo jf j t Js P c (i + 1) ≤ nI (dl (Js i)) then 0 else 1
def wkF (fw : Nat → Int32) : Nat → Nat → Int32
  | 0 => fw
  | i + 1 => upd (wkF fw i) (Js i) (-1)
end WK
theorem wkL_le {mk tr le : Nat → Nat} {bo : Nat → Nat → Nat} {jf dl : Nat → Nat} {j t : Nat} {Js : Nat → Nat} {P : Nat} {c : Int32} : ∀ i, wkL mk tr le bo jf dl j t Js P c i ≤ i
  | 0 => Nat.le_refl 0
  | i + 1 => by
    have ih := wkL_le (mk := mk) (tr := tr) (le := le) (bo := bo) (jf := jf) (dl := dl) (j := j) (t := t) (Js := Js) (P := P) (c := c) i
    rw [wkL]; split <;> omega
