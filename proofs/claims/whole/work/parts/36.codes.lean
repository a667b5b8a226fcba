/-! which exception each call owes, by its place in the throws clause; 0: none -/
def zex1 (c : Nat) (E : String) : Prop := c = 1 ∧ E = eI
def zexIS (c : Nat) (E : String) : Prop := (c = 1 ∧ E = eI) ∨ (c = 2 ∧ E = eS)
def zexAS (c : Nat) (E : String) : Prop := (c = 1 ∧ E = eA) ∨ (c = 2 ∧ E = eS)
def zexIAS (c : Nat) (E : String) : Prop := (c = 1 ∧ E = eI) ∨ (c = 2 ∧ E = eA) ∨ (c = 3 ∧ E = eS)
/-- one index; two -/
def k1 (o : Option Nat) : Nat := match o with
  | none => 1
  | some _ => 0
def k2 (o q : Option Nat) (c : Nat → Nat → Bool) : Nat := match o, q with
  | some a, some b => if c a b then 0 else 2
  | _, _ => 1
theorem k2_l {o q : Option Nat} {c : Nat → Nat → Bool} (h : o = none) : k2 o q c = 1 := by subst h; rfl
theorem k2_r {o q : Option Nat} {c : Nat → Nat → Bool} (h : q = none) : k2 o q c = 1 := by subst h; cases o <;> rfl
theorem k2_y {o q : Option Nat} {c : Nat → Nat → Bool} {a b : Nat} (h : o = some a) (h2 : q = some b) (h3 : c a b = true) : k2 o q c = 0 := by subst h; subst h2; simp [k2, h3]
theorem k2_n {o q : Option Nat} {c : Nat → Nat → Bool} {a b : Nat} (h : o = some a) (h2 : q = some b) (h3 : c a b = false) : k2 o q c = 2 := by subst h; subst h2; simp [k2, h3]
/-- an index, then a condition -/
def kS (o : Option Nat) (c : Nat → Bool) : Nat := match o with
  | some a => if c a then 0 else 2
  | none => 1
theorem kS_1 {o : Option Nat} {c : Nat → Bool} (h : o = none) : kS o c = 1 := by subst h; rfl
theorem kS_y {o : Option Nat} {c : Nat → Bool} {a : Nat} (h : o = some a) (h3 : c a = true) : kS o c = 0 := by subst h; simp [kS, h3]
theorem kS_n {o : Option Nat} {c : Nat → Bool} {a : Nat} (h : o = some a) (h3 : c a = false) : kS o c = 2 := by subst h; simp [kS, h3]
def k1b (o : Option Nat) (q : Nat → Option Nat) : Nat := match o with
  | none => 1
  | some t => match q t with
    | none => 1
    | some _ => 0
theorem k1b_1 {o : Option Nat} {q : Nat → Option Nat} (h : o = none) : k1b o q = 1 := by subst h; rfl
theorem k1b_2 {o : Option Nat} {q : Nat → Option Nat} {t : Nat} (h : o = some t) (h2 : q t = none) : k1b o q = 1 := by subst h; simp [k1b, h2]
def placeR (mo : Nat → Option Nat) (sl : Nat → Nat) (t : Nat) : Int32 := if (mo t).isSome then -1 - oI (mo t) else nI (sl t)
