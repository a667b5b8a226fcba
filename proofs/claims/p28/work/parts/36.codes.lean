/-! which exception each call owes, by its place in the throws clause; 0: none -/
def zex1 (c : Nat) (E : String) : Prop := c = 1 ∧ E = eI
def zexIS (c : Nat) (E : String) : Prop := (c = 1 ∧ E = eI) ∨ (c = 2 ∧ E = eS)
def zexAS (c : Nat) (E : String) : Prop := (c = 1 ∧ E = eA) ∨ (c = 2 ∧ E = eS)
def zexIAS (c : Nat) (E : String) : Prop := (c = 1 ∧ E = eI) ∨ (c = 2 ∧ E = eA) ∨ (c = 3 ∧ E = eS)
/-- one index; two -/
def k1 (o : Option Nat) : Nat := match o with
  | none => 1
  | some _ => 0
def k2 (o q : Option Nat) (c : Nat → Nat → Bool) : Nat := match o, q with
  | some a, some b => if c a b then 0 else 2
  | _, _ => 1
theorem k2_l {o q : Option Nat} {c : Nat → Nat → Bool} (h : o = none) : k2 o q c = 1 := by subst h; rfl
theorem k2_r {o q : Option Nat} {c : Nat → Nat → Bool} (h : q = none) : k2 o q c = 1 := by subst h; cases o <;> rfl
theorem k2_y {o q : Option Nat} {c : Nat → Nat → Bool} {a b : Nat} (h : o = some a) (h2 : q = some b) (h3 : c a b = true) : k2 o q c = 0 := by subst h; subst h2; simp [k2, h3]
theorem k2_n {o q : Option Nat} {c : Nat → Nat → Bool} {a b : Nat} (h : o = some a) (h2 : q = some b) (h3 : c a b = false) : k2 o q c = 2 := by subst h; subst h2; simp [k2, h3]
/-- an index, then a condition -/
def kS (o : Option Nat) (c : Nat → Bool) : Nat := match o with
  | some a => if c a then 0 else 2
  | none => 1
theorem kS_1 {o : Option Nat} {c : Nat → Bool} (h : o = none) : kS o c = 1 := by subst h; rfl
theorem kS_y {o : Option Nat} {c : Nat → Bool} {a : Nat} (h : o = some a) (h3 : c a = true) : kS o c = 0 := by subst h; simp [kS, h3]
theorem kS_n {o : Option Nat} {c : Nat → Bool} {a : Nat} (h : o = some a) (h3 : c a = false) : kS o c = 2 := by subst h; simp [kS, h3]
def k1b (o : Option Nat) (q : Nat → Option Nat) : Nat := match o with
  | none => 1
  | some t => match q t with
    | none => 1
    | some _ => 0
theorem k1b_1 {o : Option Nat} {q : Nat → Option Nat} (h : o = none) : k1b o q = 1 := by subst h; rfl
theorem k1b_2 {o : Option Nat} {q : Nat → Option Nat} {t : Nat} (h : o = some t) (h2 : q t = none) : k1b o q = 1 := by subst h; simp [k1b, h2]
def placeR (mo : Nat → Option Nat) (sl : Nat → Nat) (t : Nat) : Int32 := if (mo t).isSome then -1 - oI (mo t) else nI (sl t)
theorem upd_nI (g : Nat → Nat) (i v : Nat) : upd (fun k => nI (g k)) i (nI v) = fun k => nI (va_up g i v k) := by
  funext k
  by_cases h : k = i
  · rw [h, pk_us, va_up_self]
  · rw [pk_un h, va_up_ne _ _ h]
theorem bmono {b : Nat → Nat} : ∀ (m : Nat), (∀ k, k < m → b k < b (k + 1)) → ∀ k, k ≤ m → b k ≤ b m
  | 0, _, k, hk => by rw [Nat.le_zero.mp hk]; exact Nat.le_refl _
  | m + 1, h, k, hk => by
    by_cases e : k = m + 1
    · rw [e]; exact Nat.le_refl _
    · have h1 := bmono m (fun k hk => h k (by omega)) k (by omega)
      have h2 := h m (by omega)
      omega
/-- a number from lo to hi -/
def rg (v : Int32) (lo hi : Nat) : Option Nat := match ix v (hi + 1) with
  | some b => if lo ≤ b then some b else none
  | none => none
theorem rg_neg {v : Int32} {lo hi : Nat} (h : v < 0) : rg v lo hi = none := by unfold rg; rw [ix_neg h]
theorem rg_in {b lo hi : Nat} (h : b < 2 ^ 31) (h1 : lo ≤ b) (h2 : b ≤ hi) : rg (nI b) lo hi = some b := by unfold rg; rw [ix_in h (by omega)]; exact if_pos h1
theorem rg_out {b lo hi : Nat} (h : b < 2 ^ 31) (h1 : b < lo ∨ hi < b) : rg (nI b) lo hi = none := by
  unfold rg
  rw [ix_nI h]
  by_cases e : b < hi + 1
  · rw [if_pos e]; exact if_neg (by omega)
  · rw [if_neg e]
theorem rg_some {v : Int32} {lo hi b : Nat} (h : rg v lo hi = some b) : v = nI b ∧ lo ≤ b ∧ b ≤ hi := by
  unfold rg at h
  cases h2 : ix v (hi + 1) with
  | none => rw [h2] at h; cases h
  | some c =>
    rw [h2] at h
    obtain ⟨g1, g2⟩ := ix_some h2
    dsimp only at h
    split at h
    · cases h; exact ⟨g2, by assumption, by omega⟩
    · cases h
def k3 (o q : Option Nat) (c : Nat → Nat → Bool) : Nat := match o with
  | none => 1
  | some a => match q with
    | none => 2
    | some b => if c a b then 0 else 3
theorem k3_1 {o q : Option Nat} {c : Nat → Nat → Bool} (h : o = none) : k3 o q c = 1 := by subst h; rfl
theorem k3_2 {o q : Option Nat} {c : Nat → Nat → Bool} {a : Nat} (h : o = some a) (h2 : q = none) : k3 o q c = 2 := by subst h; subst h2; rfl
theorem k3_3 {o q : Option Nat} {c : Nat → Nat → Bool} {a b : Nat} (h : o = some a) (h2 : q = some b) (h3 : c a b = false) : k3 o q c = 3 := by subst h; subst h2; simp [k3, h3]
theorem k3_0 {o q : Option Nat} {c : Nat → Nat → Bool} {a b : Nat} (h : o = some a) (h2 : q = some b) (h3 : c a b = true) : k3 o q c = 0 := by subst h; subst h2; simp [k3, h3]
/-- read: the drive, its tape, the file, and that it is clean -/
def kR (o : Option Nat) (hd : Nat → Option Nat) (q : Nat → Option Nat) (c : Nat → Bool) : Nat := match o with
  | none => 1
  | some j => match hd j with
    | none => 2
    | some t => match q t with
      | none => 1
      | some _ => if c j then 0 else 2
theorem kR_1 {o : Option Nat} {hd q : Nat → Option Nat} {c : Nat → Bool} (h : o = none) : kR o hd q c = 1 := by subst h; rfl
theorem kR_2 {o : Option Nat} {hd q : Nat → Option Nat} {c : Nat → Bool} {j : Nat} (h : o = some j) (h2 : hd j = none) : kR o hd q c = 2 := by subst h; simp [kR, h2]
theorem kR_3 {o : Option Nat} {hd q : Nat → Option Nat} {c : Nat → Bool} {j t : Nat} (h : o = some j) (h2 : hd j = some t) (h3 : q t = none) : kR o hd q c = 1 := by subst h; simp [kR, h2, h3]
theorem kR_4 {o : Option Nat} {hd q : Nat → Option Nat} {c : Nat → Bool} {j t f : Nat} (h : o = some j) (h2 : hd j = some t) (h3 : q t = some f) (h4 : c j = false) : kR o hd q c = 2 := by subst h; simp [kR, h2, h3, h4]
theorem kR_0 {o : Option Nat} {hd q : Nat → Option Nat} {c : Nat → Bool} {j t f : Nat} (h : o = some j) (h2 : hd j = some t) (h3 : q t = some f) (h4 : c j = true) : kR o hd q c = 0 := by subst h; simp [kR, h2, h3, h4]
/-- job: the tape, its file, the deadline, and that there is room -/
def kJ (o : Option Nat) (q : Nat → Option Nat) (d : Option Nat) (c : Nat → Bool) : Nat := match o with
  | none => 1
  | some t => match q t with
    | none => 1
    | some _ => match d with
      | none => 2
      | some _ => if c t then 0 else 3
theorem kJ_1 {o d : Option Nat} {q : Nat → Option Nat} {c : Nat → Bool} (h : o = none) : kJ o q d c = 1 := by subst h; rfl
theorem kJ_2 {o d : Option Nat} {q : Nat → Option Nat} {c : Nat → Bool} {t : Nat} (h : o = some t) (h2 : q t = none) : kJ o q d c = 1 := by subst h; simp [kJ, h2]
theorem kJ_3 {o d : Option Nat} {q : Nat → Option Nat} {c : Nat → Bool} {t f : Nat} (h : o = some t) (h2 : q t = some f) (h3 : d = none) : kJ o q d c = 2 := by subst h; subst h3; simp [kJ, h2]
theorem kJ_4 {o d : Option Nat} {q : Nat → Option Nat} {c : Nat → Bool} {t f e : Nat} (h : o = some t) (h2 : q t = some f) (h3 : d = some e) (h4 : c t = false) : kJ o q d c = 3 := by subst h; subst h3; simp [kJ, h2, h4]
theorem kJ_0 {o d : Option Nat} {q : Nat → Option Nat} {c : Nat → Bool} {t f e : Nat} (h : o = some t) (h2 : q t = some f) (h3 : d = some e) (h4 : c t = true) : kJ o q d c = 0 := by subst h; subst h3; simp [kJ, h2, h4]
theorem zneg_lt {v : Int32} (h : v < 0) : v < nI 1 := by
  rw [Int32.lt_iff_toInt_lt] at h ⊢
  have h1 : (nI 1).toInt = 1 := by decide +kernel
  have h2 : (0 : Int32).toInt = 0 := by decide +kernel
  omega
theorem zneg_le {v : Int32} {n : Nat} (hn : n < 2 ^ 31) (h : v < 0) : v ≤ nI n := by
  rw [Int32.lt_iff_toInt_lt] at h
  rw [Int32.le_iff_toInt_le, nI_toInt hn]
  have h2 : (0 : Int32).toInt = 0 := by decide +kernel
  omega
/-- labels found up to the tape m -/
def laM (la : Nat → Bool) (m : Nat) : Nat → Bool := fun k => if k < m then true else la k
theorem laM_0 (la : Nat → Bool) : laM la 0 = la := by funext k; simp [laM]
theorem laM_s (la : Nat → Bool) (m : Nat) : va_up (laM la m) m true = laM la (m + 1) := by
  funext k
  by_cases h : k = m
  · rw [h, va_up_self]; simp [laM]
  · rw [va_up_ne _ _ h]; unfold laM
    by_cases h2 : k < m
    · rw [if_pos h2, if_pos (by omega)]
    · rw [if_neg h2, if_neg (by omega)]
/-- the tape that should be mounted next, of the first i -/
def nxt (mo : Nat → Option Nat) (la : Nat → Bool) (cw el : Nat → Nat) : Nat → Option Nat
  | 0 => none
  | i + 1 => if ((mo i).isNone && la i && decide (0 < cw i) && (match nxt mo la cw el i with
      | none => true
      | some b => decide (el i < el b) || (decide (el i = el b) && decide (cw b < cw i)))) then some i else nxt mo la cw el i
section NX
variable {mo : Nat → Option Nat} {la : Nat → Bool} {cw el : Nat → Nat} {i : Nat}
theorem nxt_mo (h : (mo i).isSome = true) : nxt mo la cw el (i + 1) = nxt mo la cw el i := by
  rw [nxt, show (mo i).isNone = false by rcases hm : mo i with _ | a; rw [hm] at h; cases h; rfl]; rfl
theorem nxt_la (h : la i = false) : nxt mo la cw el (i + 1) = nxt mo la cw el i := by rw [nxt, h, Bool.and_false]; rfl
theorem nxt_cw (h : cw i = 0) : nxt mo la cw el (i + 1) = nxt mo la cw el i := by rw [nxt, decide_eq_false (by omega), Bool.and_false]; rfl
theorem nxt_hn {o : Option Nat} (h : o.isSome = false) : o.isNone = true := by cases o with
  | none => rfl
  | some _ => cases h
theorem nxt_new (h1 : (mo i).isSome = false) (h2 : la i = true) (h3 : 0 < cw i) (h4 : nxt mo la cw el i = none) : nxt mo la cw el (i + 1) = some i := by
  rw [nxt, h4]
  exact if_pos (by rw [nxt_hn h1, h2, decide_eq_true h3]; rfl)
theorem nxt_lt {b : Nat} (h1 : (mo i).isSome = false) (h2 : la i = true) (h3 : 0 < cw i) (h4 : nxt mo la cw el i = some b) (h5 : el i < el b) : nxt mo la cw el (i + 1) = some i := by
  rw [nxt, h4]
  exact if_pos (by rw [nxt_hn h1, h2, decide_eq_true h3]; dsimp only; rw [decide_eq_true h5]; rfl)
theorem nxt_eq {b : Nat} (h1 : (mo i).isSome = false) (h2 : la i = true) (h3 : 0 < cw i) (h4 : nxt mo la cw el i = some b) (h5 : el i = el b) (h6 : cw b < cw i) : nxt mo la cw el (i + 1) = some i := by
  rw [nxt, h4]
  exact if_pos (by rw [nxt_hn h1, h2, decide_eq_true h3]; dsimp only; rw [decide_eq_true h5, decide_eq_true h6, Bool.and_self, Bool.or_true]; rfl)
theorem nxt_no {b : Nat} (h4 : nxt mo la cw el i = some b) (h5 : ¬ el i < el b) (h6 : el i = el b → ¬ cw b < cw i) : nxt mo la cw el (i + 1) = nxt mo la cw el i := by
  rw [nxt, h4]
  refine if_neg ?_
  dsimp only
  rw [decide_eq_false h5]
  by_cases e : el i = el b
  · rw [decide_eq_false (h6 e), Bool.and_false, Bool.false_or, Bool.and_false]; exact Bool.noConfusion
  · rw [decide_eq_false e, Bool.false_and, Bool.false_or, Bool.and_false]; exact Bool.noConfusion
theorem nxt_b : ∀ (m : Nat) {b : Nat}, nxt mo la cw el m = some b → b < m ∧ 0 < cw b ∧ (mo b).isSome = false ∧ la b = true
  | 0, b, h => by cases h
  | m + 1, b, h => by
    rw [nxt] at h
    generalize (match nxt mo la cw el m with
      | none => true
      | some b => decide (el m < el b) || (decide (el m = el b) && decide (cw b < cw m))) = x at h
    by_cases hc : ((mo m).isNone && la m && decide (0 < cw m) && x) = true
    · rw [if_pos hc] at h
      cases h
      simp only [Bool.and_eq_true, decide_eq_true_eq] at hc
      exact ⟨by omega, hc.1.2, by rcases hm : mo m with _ | a; rfl; rw [hm] at hc; exact absurd hc.1.1.1 Bool.noConfusion, hc.1.1.2⟩
    · rw [if_neg hc] at h
      obtain ⟨h1, h2⟩ := nxt_b m h
      exact ⟨by omega, h2⟩
end NX
/-- the times of a list of jobs from one another, none behind its end -/
def LG (mk : Nat → Nat) (tr le : Nat → Nat) (bo : Nat → Nat → Nat) (jf : Nat → Nat) (j t P : Nat) (L : List Nat) : Nat → Nat → Nat := fun a b => if b < L.length then lgs (zpa (mk j)) (zsp (mk j)) (tr t) (le t) (bo t) jf P L a b else 0
theorem LG_in {mk tr le : Nat → Nat} {bo : Nat → Nat → Nat} {jf : Nat → Nat} {j t P a b : Nat} {L : List Nat} (h : b < L.length) : LG mk tr le bo jf j t P L a b = lgs (zpa (mk j)) (zsp (mk j)) (tr t) (le t) (bo t) jf P L a b := if_pos h
theorem dif_le {a b c : Nat} (ha : a ≤ c) (hb : b ≤ c) : dif a b ≤ c := by unfold dif; split <;> omega
theorem wayT_le {m tr le a b : Nat} (htr : 1 ≤ tr) (htr8 : tr ≤ 8) (hle : 1 ≤ le) (hle2 : le ≤ 200) : wayT (zpa m) (zsp m) tr le a b ≤ 472 := by
  have h1 := alo_lt (tr := tr) (le := le) (p := a) hle
  have h2 := alo_lt (tr := tr) (le := le) (p := b) hle
  have h3 := trk_le (tr := tr) (le := le) (p := a) htr
  have h4 := trk_le (tr := tr) (le := le) (p := b) htr
  have h5 := dif_le (a := alo tr le a) (b := alo tr le b) (c := 200) (by omega) (by omega)
  have h6 := dif_le (a := trk tr le a) (b := trk tr le b) (c := 8) (by omega) (by omega)
  have h7 : zpa m ≤ 2 := by unfold zpa; split <;> omega
  have h8 : zsp m ≤ 9 := by unfold zsp; split <;> omega
  have h9 := Nat.mul_le_mul h5 h7
  have h10 := Nat.mul_le_mul h6 h8
  unfold wayT; omega
theorem LG_le {mk tr le : Nat → Nat} {bo : Nat → Nat → Nat} {jf : Nat → Nat} {j t P : Nat} {L : List Nat} (htr : 1 ≤ tr t) (htr8 : tr t ≤ 8) (hle : 4 ≤ le t) (hle2 : le t ≤ 200) (hb : ∀ x, x ∈ L → bo t (jf x + 1) ≤ 1600) (a b : Nat) : LG mk tr le bo jf j t P L a b ≤ 100000 := by
  unfold LG
  split
  · rename_i h
    have h1 := hb _ (getD_mem h)
    have h2 := wayT_le (m := mk j) (tr := tr t) (le := le t) (a := if a = 7 then P else bo t (jf (L.getD a 0) + 1)) (b := bo t (jf (L.getD b 0))) htr htr8 (by omega) hle2
    unfold lgs legT
    omega
  · omega
