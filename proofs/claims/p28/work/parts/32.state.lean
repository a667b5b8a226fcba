/-! the class's whole world, by lookups: its cells stand at places 0 and on -/
abbrev zTR (ta n da nd jj oo : Nat) : va_E := .inr (4, [.ref ta, .int (nI n), .ref da, .int (nI nd), .ref jj, .ref oo])
abbrev zRefs (cA : Nat → ClassId) (k n : Nat) (f : Nat → Option Nat) : va_E := .inl (cA k, n, .inr (.inr (.inr (.inr f))))
def rng (n : Nat) (T : Nat → Nat) : Nat → Option Nat := fun i => if i < n then some (T i) else none
theorem rng_in {n i : Nat} {T : Nat → Nat} (h : i < n) : rng n T i = some (T i) := if_pos h
theorem rng_out {n i : Nat} {T : Nat → Nat} (h : ¬ i < n) : rng n T i = none := if_neg h
def zpa (m : Nat) : Nat := if m = 0 then 1 else 2
def zsp (m : Nat) : Nat := if m = 0 then 9 else 1
def zL (cA : Nat → ClassId) (ws : va_W) (ad T Bd E PT PB PE : Nat → Nat) (n : Nat) (tr le sl : Nat → Nat) (mo : Nat → Option Nat) (la : Nat → Bool) (fc : Nat → Nat) (bo : Nat → Nat → Nat) (nd : Nat) (mk : Nat → Nat) (ck : Nat → Int32) (ct : Nat → Nat) (hd : Nat → Option Nat) (pq : Nat → Int32) (nj : Nat) (fw : Nat → Int32) (jf dl : Nat → Nat) (dn oc : Nat) (s8 s9 s10 s11 s12 : Nat → Int32) : Prop :=
  (ws[0]? = some (ad 0, zTR (ad 1) n (ad 2) nd (ad 3) (ad 4)) ∧ ws[1]? = some (ad 1, zRefs cA 1 8 (rng n T)) ∧ ws[2]? = some (ad 2, zRefs cA 2 3 (rng nd E)) ∧ ws[3]? = some (ad 3, zJobs nj dn (ad 5) (ad 6) (ad 7)) ∧ ws[4]? = some (ad 4, zOrd oc (ad 8) (ad 9) (ad 10) (ad 11) (ad 12)) ∧
    ws[5]? = some (ad 5, zInts cA 60 fw) ∧ ws[6]? = some (ad 6, zInts cA 60 (fun k => nI (jf k))) ∧ ws[7]? = some (ad 7, zInts cA 60 (fun k => nI (dl k))) ∧ ws[8]? = some (ad 8, zInts cA 7 s8) ∧ ws[9]? = some (ad 9, zInts cA 56 s9) ∧ ws[10]? = some (ad 10, zInts cA 896 s10) ∧ ws[11]? = some (ad 11, zInts cA 7 s11) ∧ ws[12]? = some (ad 12, zInts cA 7 s12)) ∧
  (∀ i, i < n → ws[PT i]? = some (T i, zTape i (tr i) (le i) (sl i) (mo i) (la i) (fc i) (Bd i)) ∧ ws[PB i]? = some (Bd i, zInts cA 11 (fun k => nI (bo i k))) ∧ 13 ≤ PT i ∧ 13 ≤ PB i) ∧
  (∀ j, j < nd → ws[PE j]? = some (E j, zDrive j (zpa (mk j)) (zsp (mk j)) ((hd j).map T) (pq j) (ck j) (ct j)) ∧ 13 ≤ PE j) ∧
  (∀ i k, i < n → k < n → i ≠ k → PB i ≠ PB k)
/-- what holds of its numbers -/
def zI (n : Nat) (tr le sl : Nat → Nat) (mo : Nat → Option Nat) (fc : Nat → Nat) (bo : Nat → Nat → Nat) (nd : Nat) (mk : Nat → Nat) (ct : Nat → Nat) (hd : Nat → Option Nat) (pq : Nat → Int32) (nj : Nat) (fw : Nat → Int32) (jf dl : Nat → Nat) : Prop :=
  n ≤ 8 ∧ nd ≤ 3 ∧ nj ≤ 60 ∧
  (∀ i, i < n → 1 ≤ tr i ∧ tr i ≤ 8 ∧ 4 ≤ le i ∧ le i ≤ 200 ∧ sl i < 12 ∧ (∀ j, mo i = some j → j < nd ∧ hd j = some i) ∧ fc i ≤ 10 ∧ bo i 0 = 0 ∧ (∀ k, k < fc i → bo i k < bo i (k + 1)) ∧ bo i (fc i) ≤ tr i * le i) ∧
  (∀ j, j < nd → mk j ≤ 1 ∧ ct j ≤ 12 ∧ (hd j = none → pq j = -1) ∧ ∀ i, hd j = some i → i < n ∧ mo i = some j ∧ ∃ q, pq j = nI q ∧ q ≤ tr i * le i) ∧
  (∀ k, k < nj → ∀ t, fw k = nI t → t < n → jf k < fc t) ∧ (∀ k, dl k ≤ 99999) ∧
  (∀ t, t < n → (wl fw (nI t) nj).length ≤ 7)
theorem zx_v {p : Program} {l : Launch} {e : Env} {R : Room} {s : State} {m : MethodId} {args : Array Value} {below : List Frame} {meth : Method} {c : Code} {H : Heap} {locs : List Loc} {cells slots : Nat} {Q : State → Prop} {pc : Nat} {ls : Array Slot} {rest : List Value} {a b : Value} (h : a = b) (k : W p l e R s m args below meth c H locs cells slots Q (F0 m pc ls (b :: rest))) : W p l e R s m args below meth c H locs cells slots Q (F0 m pc ls (a :: rest)) := by rw [h]; exact k
/-- is a slot free; the first number with a property; the highest slot -/
def fre (sl : Nat → Nat) (s : Nat) : Nat → Bool
  | 0 => true
  | n + 1 => fre sl s n && !(sl n == s)
theorem fre_y {sl : Nat → Nat} {s : Nat} : ∀ (n : Nat), (∀ i, i < n → sl i ≠ s) → fre sl s n = true
  | 0, _ => rfl
  | n + 1, h => by rw [fre, fre_y n (fun i hi => h i (by omega))]; simp [h n (by omega)]
theorem fre_n {sl : Nat → Nat} {s i : Nat} (he : sl i = s) : ∀ (n : Nat), i < n → fre sl s n = false
  | 0, h => absurd h (Nat.not_lt_zero _)
  | n + 1, h => by
    rw [fre]
    by_cases e : i = n
    · rw [← e, he]; simp
    · rw [fre_n he n (by omega)]; rfl
def fstF (f : Nat → Bool) : Nat → Nat
  | 0 => 0
  | n + 1 => if fstF f n < n then fstF f n else if f n then n else n + 1
theorem fstF_le (f : Nat → Bool) : ∀ n, fstF f n ≤ n
  | 0 => Nat.le_refl 0
  | n + 1 => by
    have ih := fstF_le f n
    rw [fstF]; split
    · omega
    · split <;> omega
theorem fstF_eq {f : Nat → Bool} {k : Nat} : ∀ (n : Nat), k ≤ n → (∀ j, j < k → f j = false) → (k < n → f k = true) → fstF f n = k
  | 0, h, _, _ => by rw [fstF]; omega
  | n + 1, h, h1, h2 => by
    rw [fstF]
    by_cases e : k < n
    · rw [fstF_eq n (by omega) h1 (fun _ => h2 (by omega)), if_pos e]
    · by_cases e2 : k = n
      · have h3 := fstF_eq (f := f) n (by omega : k ≤ n) h1 (fun h => absurd h e)
        rw [h3, if_neg e, ← e2, h2 (by omega)]; rfl
      · have h3 : fstF f n = n := fstF_eq n (Nat.le_refl n) (fun j hj => h1 j (by omega)) (fun h => absurd h (Nat.lt_irrefl n))
        have h4 := h1 n (by omega)
        rw [h3, if_neg (Nat.lt_irrefl n), h4]
        show n + 1 = k; omega
def hiS (sl : Nat → Nat) (mo : Nat → Option Nat) : Nat → Nat
  | 0 => 0
  | n + 1 => if (mo n).isSome then hiS sl mo n else max (hiS sl mo n) (sl n)
theorem hiS_lt {sl : Nat → Nat} {mo : Nat → Option Nat} {c : Nat} : ∀ n, (∀ i, i < n → sl i < c) → 0 < c → hiS sl mo n < c
  | 0, _, h => h
  | n + 1, h, hc => by
    have ih := hiS_lt (mo := mo) n (fun i hi => h i (by omega)) hc
    have h2 := h n (by omega)
    rw [hiS]; split <;> omega
theorem min_in {i n : Nat} (h : i < n) : min (i + 1) n = min i n + 1 ∧ min i n = i := by omega
theorem min_out {i n : Nat} (h : ¬ i < n) : min (i + 1) n = min i n := by omega
