/-! p28: the law's state -/
def pB (n nd nj : Nat) : Prop := n ≤ 4 ∧ nd ≤ 2 ∧ nj ≤ 20
def pC (n nd nj dn : Nat) (cf : Nat → Int32) : Prop := cf 0 = nI n ∧ cf 1 = nI nd ∧ cf 2 = nI nj ∧ cf 3 = nI dn
def pT (n : Nat) (tr le sl : Nat → Nat) (mo : Nat → Option Nat) (la : Nat → Bool) (fc : Nat → Nat) (tf : Nat → Int32) : Prop := ∀ i, i < n → tf i = nI (tr i) ∧ tf (4 + i) = nI (le i) ∧ tf (8 + i) = nI (sl i) ∧ tf (12 + i) = oI (mo i) ∧ tf (16 + i) = bI (!la i) ∧ tf (20 + i) = nI (fc i) ∧ fc i ≤ 6
def pT0 (n : Nat) (tf : Nat → Int32) : Prop := ∀ i, n ≤ i → i < 4 → tf (16 + i) = nI 0 ∧ tf (20 + i) = nI 0
def pF (n : Nat) (fc : Nat → Nat) (bo : Nat → Nat → Nat) (ff : Nat → Int32) : Prop := ∀ i, i < n → ∀ k, k < fc i → ff (6 * i + k) = nI (bo i (k + 1) - bo i k)
def pV (nd : Nat) (mk : Nat → Nat) (ck : Nat → Int32) (ct : Nat → Nat) (hd : Nat → Option Nat) (pq : Nat → Int32) (vf : Nat → Int32) : Prop := ∀ j, j < nd → vf j = nI (mk j) ∧ vf (2 + j) = ck j ∧ vf (4 + j) = nI (ct j) ∧ vf (6 + j) = oI (hd j) ∧ ∀ t, hd j = some t → vf (8 + j) = pq j
def pV0 (nd : Nat) (vf : Nat → Int32) : Prop := ∀ j, nd ≤ j → j < 2 → vf (2 + j) = nI 0 ∧ vf (4 + j) = nI 0
def pJ (n nj : Nat) (fc : Nat → Nat) (fw : Nat → Int32) (jf dl : Nat → Nat) (jj lt dd : Nat → Int32) (jt : Nat → Nat) (fin : Nat → Bool) : Prop := ∀ k, k < nj → jj k = nI (jt k) ∧ jt k < n ∧ jj (20 + k) = nI (jf k) ∧ jf k < fc (jt k) ∧ lt k = nI (dl k) ∧ dd k = bI (fin k) ∧ fw k = (if fin k then -1 else nI (jt k))
def pJ0 (nj : Nat) (dd : Nat → Int32) : Prop := ∀ k, nj ≤ k → k < 20 → dd k = nI 0
def pW (n nj : Nat) (fw : Nat → Int32) : Prop := ∀ t, t < n → (wl fw (nI t) nj).length ≤ 5
def pL (n : Nat) (tr : Nat → Nat) (le : Nat → Nat) (sl : Nat → Nat) (mo : Nat → Option Nat) (la : Nat → Bool) (fc : Nat → Nat) (bo : Nat → Nat → Nat) (nd : Nat) (mk : Nat → Nat) (ck : Nat → Int32) (ct : Nat → Nat) (hd : Nat → Option Nat) (pq : Nat → Int32) (nj : Nat) (fw : Nat → Int32) (jf : Nat → Nat) (dl : Nat → Nat) (dn : Nat) (cf : Nat → Int32) (tf : Nat → Int32) (ff : Nat → Int32) (vf : Nat → Int32) (jj : Nat → Int32) (lt : Nat → Int32) (dd : Nat → Int32) (jt : Nat → Nat) (fin : Nat → Bool) : Prop := pB n nd nj ∧ pC n nd nj dn cf ∧ pT n tr le sl mo la fc tf ∧ pT0 n tf ∧ pF n fc bo ff ∧ pV nd mk ck ct hd pq vf ∧ pV0 nd vf ∧ pJ n nj fc fw jf dl jj lt dd jt fin ∧ pJ0 nj dd ∧ pW n nj fw
def LV (cA : Nat → ClassId) (ad g : Nat → Nat) (u : va_W) : Prop := ∃ (T : Nat → Nat), ∃ (Bd : Nat → Nat), ∃ (E : Nat → Nat), ∃ (PT : Nat → Nat), ∃ (PB : Nat → Nat), ∃ (PE : Nat → Nat), ∃ (n : Nat), ∃ (tr : Nat → Nat), ∃ (le : Nat → Nat), ∃ (sl : Nat → Nat), ∃ (mo : Nat → Option Nat), ∃ (la : Nat → Bool), ∃ (fc : Nat → Nat), ∃ (bo : Nat → Nat → Nat), ∃ (nd : Nat), ∃ (mk : Nat → Nat), ∃ (ck : Nat → Int32), ∃ (ct : Nat → Nat), ∃ (hd : Nat → Option Nat), ∃ (pq : Nat → Int32), ∃ (nj : Nat), ∃ (fw : Nat → Int32), ∃ (jf : Nat → Nat), ∃ (dl : Nat → Nat), ∃ (dn : Nat), ∃ (oc : Nat), ∃ (s8 : Nat → Int32), ∃ (s9 : Nat → Int32), ∃ (s10 : Nat → Int32), ∃ (s11 : Nat → Int32), ∃ (s12 : Nat → Int32), ∃ (cf : Nat → Int32), ∃ (tf : Nat → Int32), ∃ (ff : Nat → Int32), ∃ (vf : Nat → Int32), ∃ (jj : Nat → Int32), ∃ (lt : Nat → Int32), ∃ (dd : Nat → Int32), ∃ (jt : Nat → Nat), ∃ (fin : Nat → Bool), ∃ cw : va_W, u = (g 0, zInts cA 4 cf) :: (g 1, zInts cA 24 tf) :: (g 2, zInts cA 24 ff) :: (g 3, zInts cA 10 vf) :: (g 4, zInts cA 40 jj) :: (g 5, zInts cA 20 lt) :: (g 6, zInts cA 20 dd) :: cw ∧ zL cA cw ad T Bd E PT PB PE n tr le sl mo la fc bo nd mk ck ct hd pq nj fw jf dl dn oc s8 s9 s10 s11 s12 ∧ zI n tr le sl mo fc bo nd mk ct hd pq nj fw jf dl ∧ pL n tr le sl mo la fc bo nd mk ck ct hd pq nj fw jf dl dn cf tf ff vf jj lt dd jt fin
theorem wl_congr {f g : Nat → Int32} {x : Int32} : ∀ (m : Nat), (∀ k, k < m → f k = g k) → wl f x m = wl g x m
  | 0, _ => rfl
  | m + 1, h => by
    have ih := wl_congr (f := f) (g := g) (x := x) m (fun k hk => h k (by omega))
    have h2 := h m (by omega)
    by_cases e : f m = x
    · rw [wl_y e, wl_y (by rw [← h2]; exact e), ih]
    · rw [wl_n e, wl_n (by rw [← h2]; exact e), ih]
theorem wl_none {f : Nat → Int32} {x : Int32} : ∀ (m : Nat), (∀ k, k < m → f k ≠ x) → wl f x m = []
  | 0, _ => rfl
  | m + 1, h => by rw [wl_n (h m (by omega)), wl_none m (fun k hk => h k (by omega))]
theorem wl_upd_le {f : Nat → Int32} {x y : Int32} {j : Nat} (hy : y ≠ x) : ∀ (m : Nat), (wl (upd f j y) x m).length ≤ (wl f x m).length
  | 0 => Nat.le_refl _
  | m + 1 => by
    have ih := wl_upd_le (f := f) (x := x) (y := y) (j := j) hy m
    by_cases e : upd f j y m = x
    · have e2 : m ≠ j := fun q => by rw [q, pk_us] at e; exact hy e
      rw [wl_y e, wl_y (by rw [pk_un e2] at e; exact e), List.length_append, List.length_append]
      omega
    · rw [wl_n e]
      by_cases e3 : f m = x
      · rw [wl_y e3, List.length_append]; omega
      · rw [wl_n e3]; exact ih
section PLU
variable {n : Nat} {tr : Nat → Nat} {le : Nat → Nat} {sl : Nat → Nat} {mo : Nat → Option Nat} {la : Nat → Bool} {fc : Nat → Nat} {bo : Nat → Nat → Nat} {nd : Nat} {mk : Nat → Nat} {ck : Nat → Int32} {ct : Nat → Nat} {hd : Nat → Option Nat} {pq : Nat → Int32} {nj : Nat} {fw : Nat → Int32} {jf : Nat → Nat} {dl : Nat → Nat} {dn : Nat} {cf : Nat → Int32} {tf : Nat → Int32} {ff : Nat → Int32} {vf : Nat → Int32} {jj : Nat → Int32} {lt : Nat → Int32} {dd : Nat → Int32} {jt : Nat → Nat} {fin : Nat → Bool}
theorem J_tape {a b g : Nat} (hI : zI n tr le sl mo fc bo nd mk ct hd pq nj fw jf dl) (hp : pL n tr le sl mo la fc bo nd mk ck ct hd pq nj fw jf dl dn cf tf ff vf jj lt dd jt fin) (hn : n < 4) (ha : 1 ≤ a ∧ a ≤ 8) (hb : 4 ≤ b ∧ b ≤ 200) (hg : g < 12) : zI (n + 1) (va_up tr n a) (va_up le n b) (va_up sl n g) (va_up mo n none) (va_up fc n 0) (va_up bo n (fun _ => 0)) nd mk ct hd pq nj fw jf dl ∧ pL (n + 1) (va_up tr n a) (va_up le n b) (va_up sl n g) (va_up mo n none) (va_up la n true) (va_up fc n 0) (va_up bo n (fun _ => 0)) nd mk ck ct hd pq nj fw jf dl dn (upd cf 0 (nI (n + 1))) (upd (upd (upd (upd tf n (nI a)) (4 + n) (nI b)) (8 + n) (nI g)) (12 + n) (-1)) ff vf jj lt dd jt fin := by
  obtain ⟨h1, h2, h3, hT, hD, hJ, hd9, hW⟩ := hI
  obtain ⟨⟨k1, k2, k3⟩, ⟨c0, c1, c2, c3⟩, qT, qT0, qF, qV, qV0, qJ, qJ0, qW⟩ := hp
  have hno : ∀ k, k < nj → fw k ≠ nI n := fun k hk q => by
    obtain ⟨-, e2, -, -, -, -, e7⟩ := qJ k hk
    rw [e7] at q
    by_cases e : fin k = true
    · rw [if_pos e] at q; exact nI_nm1 (by omega) q.symm
    · rw [if_neg e] at q
      have := (nI_eq (by omega) (by omega)).mp q
      omega
  have hwn : wl fw (nI n) nj = [] := wl_none nj hno
  refine ⟨⟨by omega, h2, h3, fun i hi => ?_, fun j hj => ?_, fun k hk t q ht => ?_, hd9, fun t ht => ?_⟩, ⟨by omega, k2, k3⟩, ⟨by simp (disch := omega) only [pk_us, pk_un, va_up_self, va_up_ne], by simp (disch := omega) only [pk_us, pk_un, va_up_self, va_up_ne]; exact c1, by simp (disch := omega) only [pk_us, pk_un, va_up_self, va_up_ne]; exact c2, by simp (disch := omega) only [pk_us, pk_un, va_up_self, va_up_ne]; exact c3⟩, fun i hi => ?_, fun i hi h4 => ?_, fun i hi k hk => ?_, qV, qV0, fun k hk => ?_, qJ0, fun t ht => ?_⟩
  · by_cases e : i = n
    · subst e
      simp only [va_up_self]
      exact ⟨ha.1, ha.2, hb.1, hb.2, hg, (fun j q => nomatch q), by omega, trivial, (fun k hk => absurd hk (Nat.not_lt_zero k)), Nat.zero_le _⟩
    · simp only [va_up_ne _ _ e]; exact hT i (by omega)
  · obtain ⟨a1, a2, a3, a4⟩ := hD j hj
    refine ⟨a1, a2, a3, fun i q => ?_⟩
    obtain ⟨b1, b2, b3⟩ := a4 i q
    have e : i ≠ n := by omega
    rw [va_up_ne _ _ e, va_up_ne _ _ e, va_up_ne _ _ e]
    exact ⟨by omega, b2, b3⟩
  · have e : t ≠ n := fun e => by rw [e] at q; exact hno k hk q
    rw [va_up_ne _ _ e]; exact hJ k hk t q (by omega)
  · by_cases e : t = n
    · rw [e, hwn]; exact Nat.zero_le _
    · exact hW t (by omega)
  · by_cases e : i = n
    · subst e
      obtain ⟨z1, z2⟩ := qT0 i (Nat.le_refl i) hn
      simp (disch := omega) only [pk_us, pk_un, va_up_self, va_up_ne]
      exact ⟨trivial, trivial, trivial, rfl, z1, z2, by omega⟩
    · have hi2 : i < n := by omega
      obtain ⟨a1, a2, a3, a4, a5, a6, a7⟩ := qT i hi2
      simp (disch := omega) only [pk_us, pk_un, va_up_self, va_up_ne]
      exact ⟨a1, a2, a3, a4, a5, a6, a7⟩
  · simp (disch := omega) only [pk_us, pk_un, va_up_self, va_up_ne]
    exact qT0 i (by omega) h4
  · by_cases e : i = n
    · rw [e, va_up_self] at hk; exact absurd hk (Nat.not_lt_zero k)
    · rw [va_up_ne _ _ e] at hk ⊢; exact qF i (by omega) k hk
  · obtain ⟨e1, e2, e3, e4, e5, e6, e7⟩ := qJ k hk
    exact ⟨e1, by omega, e3, by rw [va_up_ne _ _ (by omega)]; exact e4, e5, e6, e7⟩
  · by_cases e : t = n
    · rw [e, hwn]; exact Nat.zero_le _
    · exact qW t (by omega)
theorem J_drive {a : Nat} (hI : zI n tr le sl mo fc bo nd mk ct hd pq nj fw jf dl) (hp : pL n tr le sl mo la fc bo nd mk ck ct hd pq nj fw jf dl dn cf tf ff vf jj lt dd jt fin) (hn : nd < 2) (ha : a ≤ 1) : zI n tr le sl mo fc bo (nd + 1) (va_up mk nd a) (va_up ct nd 0) (va_up hd nd none) (va_up pq nd (-1)) nj fw jf dl ∧ pL n tr le sl mo la fc bo (nd + 1) (va_up mk nd a) (va_up ck nd 0) (va_up ct nd 0) (va_up hd nd none) (va_up pq nd (-1)) nj fw jf dl dn (upd cf 1 (nI (nd + 1))) tf ff (upd (upd vf nd (nI a)) (6 + nd) (-1)) jj lt dd jt fin := by
  obtain ⟨h1, h2, h3, hT, hD, hJ, hd9, hW⟩ := hI
  obtain ⟨⟨k1, k2, k3⟩, ⟨c0, c1, c2, c3⟩, qT, qT0, qF, qV, qV0, qJ, qJ0, qW⟩ := hp
  refine ⟨⟨h1, by omega, h3, fun i hi => ?_, fun j hj => ?_, hJ, hd9, hW⟩, ⟨k1, by omega, k3⟩, ⟨by simp (disch := omega) only [pk_us, pk_un, va_up_self, va_up_ne]; exact c0, by simp (disch := omega) only [pk_us, pk_un, va_up_self, va_up_ne], by simp (disch := omega) only [pk_us, pk_un, va_up_self, va_up_ne]; exact c2, by simp (disch := omega) only [pk_us, pk_un, va_up_self, va_up_ne]; exact c3⟩, qT, qT0, qF, fun j hj => ?_, fun j hj h4 => ?_, qJ, qJ0, qW⟩
  · obtain ⟨a1, a2, a3, a4, a5, a6, a7⟩ := hT i hi
    refine ⟨a1, a2, a3, a4, a5, fun j q => ?_, a7⟩
    obtain ⟨b1, b2⟩ := a6 j q
    rw [va_up_ne _ _ (show j ≠ nd by omega)]
    exact ⟨by omega, b2⟩
  · by_cases e : j = nd
    · subst e
      simp only [va_up_self]
      exact ⟨ha, by omega, fun _ => trivial, fun i q => nomatch q⟩
    · simp only [va_up_ne _ _ e]
      exact hD j (by omega)
  · by_cases e : j = nd
    · subst e
      obtain ⟨z1, z2⟩ := qV0 j (Nat.le_refl j) hn
      simp (disch := omega) only [pk_us, pk_un, va_up_self, va_up_ne]
      exact ⟨trivial, z1, z2, rfl, fun t q => nomatch q⟩
    · have hj2 : j < nd := by omega
      simp (disch := omega) only [pk_us, pk_un, va_up_self, va_up_ne]
      exact qV j hj2
  · simp (disch := omega) only [pk_us, pk_un, va_up_self, va_up_ne]
    exact qV0 j (by omega) h4
theorem J_carry {t g : Nat} (hI : zI n tr le sl mo fc bo nd mk ct hd pq nj fw jf dl) (hp : pL n tr le sl mo la fc bo nd mk ck ct hd pq nj fw jf dl dn cf tf ff vf jj lt dd jt fin) (ht : t < n) (hg : g < 12) : zI n tr le (va_up sl t g) mo fc bo nd mk ct hd pq nj fw jf dl ∧ pL n tr le (va_up sl t g) mo la fc bo nd mk ck ct hd pq nj fw jf dl dn cf (upd tf (8 + t) (nI g)) ff vf jj lt dd jt fin := by
  obtain ⟨h1, h2, h3, hT, hD, hJ, hd9, hW⟩ := hI
  obtain ⟨⟨k1, k2, k3⟩, ⟨c0, c1, c2, c3⟩, qT, qT0, qF, qV, qV0, qJ, qJ0, qW⟩ := hp
  refine ⟨⟨h1, h2, h3, fun i hi => ?_, hD, hJ, hd9, hW⟩, ⟨k1, k2, k3⟩, ⟨c0, c1, c2, c3⟩, fun i hi => ?_, fun i hi h4 => ?_, qF, qV, qV0, qJ, qJ0, qW⟩
  · obtain ⟨a1, a2, a3, a4, a5, a6⟩ := hT i hi
    refine ⟨a1, a2, a3, a4, ?_, a6⟩
    by_cases e : i = t
    · rw [e, va_up_self]; exact hg
    · rw [va_up_ne _ _ e]; exact a5
  · obtain ⟨a1, a2, a3, a4, a5, a6, a7⟩ := qT i hi
    by_cases e : i = t
    · subst e; simp (disch := omega) only [pk_us, pk_un, va_up_self, va_up_ne]; exact ⟨a1, a2, trivial, a4, a5, a6, a7⟩
    · simp (disch := omega) only [pk_us, pk_un, va_up_self, va_up_ne]; exact ⟨a1, a2, a3, a4, a5, a6, a7⟩
  · simp (disch := omega) only [pk_us, pk_un, va_up_self, va_up_ne]; exact qT0 i hi h4
theorem J_mount {j t : Nat} {c9 : Int32} (hI : zI n tr le sl mo fc bo nd mk ct hd pq nj fw jf dl) (hp : pL n tr le sl mo la fc bo nd mk ck ct hd pq nj fw jf dl dn cf tf ff vf jj lt dd jt fin) (hj : j < nd) (ht : t < n) (hhj : hd j = none) (hmt : mo t = none) : zI n tr le sl (va_up mo t (some j)) fc bo nd mk ct (va_up hd j (some t)) (va_up pq j (nI 0)) nj fw jf dl ∧ pL n tr le sl (va_up mo t (some j)) la fc bo nd mk (va_up ck j c9) ct (va_up hd j (some t)) (va_up pq j (nI 0)) nj fw jf dl dn cf (upd tf (12 + t) (nI j)) ff (upd (upd (upd vf (6 + j) (nI t)) (8 + j) (nI 0)) (2 + j) c9) jj lt dd jt fin := by
  obtain ⟨h1, h2, h3, hT, hD, hJ, hd9, hW⟩ := hI
  obtain ⟨⟨k1, k2, k3⟩, ⟨c0, c1, c2, c3⟩, qT, qT0, qF, qV, qV0, qJ, qJ0, qW⟩ := hp
  refine ⟨⟨h1, h2, h3, fun i hi => ?_, fun k hk => ?_, hJ, hd9, hW⟩, ⟨k1, k2, k3⟩, ⟨c0, c1, c2, c3⟩, fun i hi => ?_, fun i hi h4 => ?_, qF, fun k hk => ?_, fun k hk h4 => ?_, qJ, qJ0, qW⟩
  · obtain ⟨a1, a2, a3, a4, a5, a6, a7⟩ := hT i hi
    refine ⟨a1, a2, a3, a4, a5, fun k q => ?_, a7⟩
    by_cases e : i = t
    · rw [e, va_up_self] at q
      cases q
      rw [va_up_self, e]; exact ⟨hj, rfl⟩
    · rw [va_up_ne _ _ e] at q
      obtain ⟨b1, b2⟩ := a6 k q
      rw [va_up_ne _ _ (show k ≠ j from fun e2 => by rw [e2, hhj] at b2; cases b2)]
      exact ⟨b1, b2⟩
  · obtain ⟨a1, a2, a3, a4⟩ := hD k hk
    by_cases e : k = j
    · subst e
      rw [va_up_self, va_up_self]
      refine ⟨a1, a2, (fun q => nomatch q), fun i q => ?_⟩
      cases q
      rw [va_up_self]
      exact ⟨ht, rfl, 0, rfl, Nat.zero_le _⟩
    · rw [va_up_ne _ _ e, va_up_ne _ _ e]
      refine ⟨a1, a2, a3, fun i q => ?_⟩
      obtain ⟨b1, b2, b3⟩ := a4 i q
      rw [va_up_ne _ _ (show i ≠ t from fun e2 => by rw [e2, hmt] at b2; cases b2)]
      exact ⟨b1, b2, b3⟩
  · obtain ⟨a1, a2, a3, a4, a5, a6, a7⟩ := qT i hi
    by_cases e : i = t
    · subst e; simp (disch := omega) only [pk_us, pk_un, va_up_self, va_up_ne]; exact ⟨a1, a2, a3, rfl, a5, a6, a7⟩
    · simp (disch := omega) only [pk_us, pk_un, va_up_self, va_up_ne]; exact ⟨a1, a2, a3, a4, a5, a6, a7⟩
  · simp (disch := omega) only [pk_us, pk_un, va_up_self, va_up_ne]; exact qT0 i hi h4
  · obtain ⟨a1, a2, a3, a4, a5⟩ := qV k hk
    by_cases e : k = j
    · subst e; simp (disch := omega) only [pk_us, pk_un, va_up_self, va_up_ne]; exact ⟨a1, trivial, a3, rfl, fun _ _ => trivial⟩
    · simp (disch := omega) only [pk_us, pk_un, va_up_self, va_up_ne]; exact ⟨a1, a2, a3, a4, a5⟩
  · simp (disch := omega) only [pk_us, pk_un, va_up_self, va_up_ne]; exact qV0 k hk h4
theorem J_unmount {j t : Nat} {c9 : Int32} (hI : zI n tr le sl mo fc bo nd mk ct hd pq nj fw jf dl) (hp : pL n tr le sl mo la fc bo nd mk ck ct hd pq nj fw jf dl dn cf tf ff vf jj lt dd jt fin) (hj : j < nd) (hht : hd j = some t) : zI n tr le sl (va_up mo t none) fc bo nd mk ct (va_up hd j none) (va_up pq j (-1)) nj fw jf dl ∧ pL n tr le sl (va_up mo t none) la fc bo nd mk (va_up ck j c9) ct (va_up hd j none) (va_up pq j (-1)) nj fw jf dl dn cf (upd tf (12 + t) (-1)) ff (upd (upd vf (6 + j) (-1)) (2 + j) c9) jj lt dd jt fin := by
  obtain ⟨h1, h2, h3, hT, hD, hJ, hd9, hW⟩ := hI
  obtain ⟨⟨k1, k2, k3⟩, ⟨c0, c1, c2, c3⟩, qT, qT0, qF, qV, qV0, qJ, qJ0, qW⟩ := hp
  obtain ⟨htn, hmt, -⟩ := (hD j hj).2.2.2 t hht
  refine ⟨⟨h1, h2, h3, fun i hi => ?_, fun k hk => ?_, hJ, hd9, hW⟩, ⟨k1, k2, k3⟩, ⟨c0, c1, c2, c3⟩, fun i hi => ?_, fun i hi h4 => ?_, qF, fun k hk => ?_, fun k hk h4 => ?_, qJ, qJ0, qW⟩
  · obtain ⟨a1, a2, a3, a4, a5, a6, a7⟩ := hT i hi
    refine ⟨a1, a2, a3, a4, a5, fun k q => ?_, a7⟩
    by_cases e : i = t
    · rw [e, va_up_self] at q; cases q
    · rw [va_up_ne _ _ e] at q
      obtain ⟨b1, b2⟩ := a6 k q
      rw [va_up_ne _ _ (show k ≠ j from fun e2 => by rw [e2, hht] at b2; cases b2; exact e rfl)]
      exact ⟨b1, b2⟩
  · obtain ⟨a1, a2, a3, a4⟩ := hD k hk
    by_cases e : k = j
    · subst e
      rw [va_up_self, va_up_self]
      exact ⟨a1, a2, fun _ => rfl, fun i q => nomatch q⟩
    · rw [va_up_ne _ _ e, va_up_ne _ _ e]
      refine ⟨a1, a2, a3, fun i q => ?_⟩
      obtain ⟨b1, b2, b3⟩ := a4 i q
      rw [va_up_ne _ _ (show i ≠ t from fun e2 => by rw [e2, hmt] at b2; cases b2; exact e rfl)]
      exact ⟨b1, b2, b3⟩
  · obtain ⟨a1, a2, a3, a4, a5, a6, a7⟩ := qT i hi
    by_cases e : i = t
    · subst e; simp (disch := omega) only [pk_us, pk_un, va_up_self, va_up_ne]; exact ⟨a1, a2, a3, rfl, a5, a6, a7⟩
    · simp (disch := omega) only [pk_us, pk_un, va_up_self, va_up_ne]; exact ⟨a1, a2, a3, a4, a5, a6, a7⟩
  · simp (disch := omega) only [pk_us, pk_un, va_up_self, va_up_ne]; exact qT0 i hi h4
  · obtain ⟨a1, a2, a3, a4, a5⟩ := qV k hk
    by_cases e : k = j
    · subst e; simp (disch := omega) only [pk_us, pk_un, va_up_self, va_up_ne]; exact ⟨a1, trivial, a3, rfl, fun _ q => nomatch q⟩
    · simp (disch := omega) only [pk_us, pk_un, va_up_self, va_up_ne]; exact ⟨a1, a2, a3, a4, a5⟩
  · simp (disch := omega) only [pk_us, pk_un, va_up_self, va_up_ne]; exact qV0 k hk h4
theorem J_clean {j : Nat} {c9 : Int32} (hI : zI n tr le sl mo fc bo nd mk ct hd pq nj fw jf dl) (hp : pL n tr le sl mo la fc bo nd mk ck ct hd pq nj fw jf dl dn cf tf ff vf jj lt dd jt fin) (hj : j < nd) : zI n tr le sl mo fc bo nd mk (va_up ct j 0) hd pq nj fw jf dl ∧ pL n tr le sl mo la fc bo nd mk (va_up ck j c9) (va_up ct j 0) hd pq nj fw jf dl dn cf tf ff (upd (upd vf (4 + j) (nI 0)) (2 + j) c9) jj lt dd jt fin := by
  obtain ⟨h1, h2, h3, hT, hD, hJ, hd9, hW⟩ := hI
  obtain ⟨⟨k1, k2, k3⟩, ⟨c0, c1, c2, c3⟩, qT, qT0, qF, qV, qV0, qJ, qJ0, qW⟩ := hp
  refine ⟨⟨h1, h2, h3, hT, fun k hk => ?_, hJ, hd9, hW⟩, ⟨k1, k2, k3⟩, ⟨c0, c1, c2, c3⟩, qT, qT0, qF, fun k hk => ?_, fun k hk h4 => ?_, qJ, qJ0, qW⟩
  · obtain ⟨a1, a2, a3, a4⟩ := hD k hk
    by_cases e : k = j
    · rw [e, va_up_self, ← e]; exact ⟨a1, Nat.zero_le _, a3, a4⟩
    · rw [va_up_ne _ _ e]; exact ⟨a1, a2, a3, a4⟩
  · obtain ⟨a1, a2, a3, a4, a5⟩ := qV k hk
    by_cases e : k = j
    · subst e; simp (disch := omega) only [pk_us, pk_un, va_up_self, va_up_ne]; exact ⟨a1, trivial, trivial, a4, a5⟩
    · simp (disch := omega) only [pk_us, pk_un, va_up_self, va_up_ne]; exact ⟨a1, a2, a3, a4, a5⟩
  · simp (disch := omega) only [pk_us, pk_un, va_up_self, va_up_ne]; exact qV0 k hk h4
theorem J_lose {t : Nat} (hI : zI n tr le sl mo fc bo nd mk ct hd pq nj fw jf dl) (hp : pL n tr le sl mo la fc bo nd mk ck ct hd pq nj fw jf dl dn cf tf ff vf jj lt dd jt fin) (ht : t < n) : zI n tr le sl mo fc bo nd mk ct hd pq nj fw jf dl ∧ pL n tr le sl mo (va_up la t false) fc bo nd mk ck ct hd pq nj fw jf dl dn cf (upd tf (16 + t) (nI 1)) ff vf jj lt dd jt fin := by
  obtain ⟨h1, h2, h3, hT, hD, hJ, hd9, hW⟩ := hI
  obtain ⟨⟨k1, k2, k3⟩, ⟨c0, c1, c2, c3⟩, qT, qT0, qF, qV, qV0, qJ, qJ0, qW⟩ := hp
  refine ⟨⟨h1, h2, h3, hT, hD, hJ, hd9, hW⟩, ⟨k1, k2, k3⟩, ⟨c0, c1, c2, c3⟩, fun i hi => ?_, fun i hi h4 => ?_, qF, qV, qV0, qJ, qJ0, qW⟩
  · obtain ⟨a1, a2, a3, a4, a5, a6, a7⟩ := qT i hi
    by_cases e : i = t
    · subst e; simp (disch := omega) only [pk_us, pk_un, va_up_self, va_up_ne]; exact ⟨a1, a2, a3, a4, rfl, a6, a7⟩
    · simp (disch := omega) only [pk_us, pk_un, va_up_self, va_up_ne]; exact ⟨a1, a2, a3, a4, a5, a6, a7⟩
  · simp (disch := omega) only [pk_us, pk_un, va_up_self, va_up_ne]; exact qT0 i hi h4
theorem J_inv {t9 : Nat → Int32} (hI : zI n tr le sl mo fc bo nd mk ct hd pq nj fw jf dl) (hp : pL n tr le sl mo la fc bo nd mk ck ct hd pq nj fw jf dl dn cf tf ff vf jj lt dd jt fin) (hz : ∀ i, i < 4 → t9 (16 + i) = nI 0) (ho : ∀ i, i < 16 ∨ 20 ≤ i → t9 i = tf i) : zI n tr le sl mo fc bo nd mk ct hd pq nj fw jf dl ∧ pL n tr le sl mo (laM la n) fc bo nd mk ck ct hd pq nj fw jf dl dn cf t9 ff vf jj lt dd jt fin := by
  obtain ⟨h1, h2, h3, hT, hD, hJ, hd9, hW⟩ := hI
  obtain ⟨⟨k1, k2, k3⟩, ⟨c0, c1, c2, c3⟩, qT, qT0, qF, qV, qV0, qJ, qJ0, qW⟩ := hp
  refine ⟨⟨h1, h2, h3, hT, hD, hJ, hd9, hW⟩, ⟨k1, k2, k3⟩, ⟨c0, c1, c2, c3⟩, fun i hi => ?_, fun i hi h4 => ?_, qF, qV, qV0, qJ, qJ0, qW⟩
  · obtain ⟨a1, a2, a3, a4, a5, a6, a7⟩ := qT i hi
    rw [ho i (by omega), ho (4 + i) (by omega), ho (8 + i) (by omega), ho (12 + i) (by omega), ho (20 + i) (by omega), hz i (by omega)]
    exact ⟨a1, a2, a3, a4, by unfold laM; rw [if_pos hi]; rfl, a6, a7⟩
  · rw [ho (20 + i) (by omega), hz i h4]
    exact ⟨rfl, (qT0 i hi h4).2⟩
theorem J_go {j t q9 d9 : Nat} {c9 : Int32} (hI : zI n tr le sl mo fc bo nd mk ct hd pq nj fw jf dl) (hp : pL n tr le sl mo la fc bo nd mk ck ct hd pq nj fw jf dl dn cf tf ff vf jj lt dd jt fin) (hj : j < nd) (hht : hd j = some t) (hq9 : q9 ≤ tr t * le t) (hc : d9 ≤ 12) : zI n tr le sl mo fc bo nd mk (va_up ct j d9) hd (va_up pq j (nI q9)) nj fw jf dl ∧ pL n tr le sl mo la fc bo nd mk (va_up ck j c9) (va_up ct j d9) hd (va_up pq j (nI q9)) nj fw jf dl dn cf tf ff (upd (upd (upd vf (2 + j) c9) (4 + j) (nI d9)) (8 + j) (nI q9)) jj lt dd jt fin := by
  obtain ⟨h1, h2, h3, hT, hD, hJ, hd9, hW⟩ := hI
  obtain ⟨⟨k1, k2, k3⟩, ⟨c0, c1, c2, c3⟩, qT, qT0, qF, qV, qV0, qJ, qJ0, qW⟩ := hp
  refine ⟨⟨h1, h2, h3, hT, fun k hk => ?_, hJ, hd9, hW⟩, ⟨k1, k2, k3⟩, ⟨c0, c1, c2, c3⟩, qT, qT0, qF, fun k hk => ?_, fun k hk h4 => ?_, qJ, qJ0, qW⟩
  · obtain ⟨a1, a2, a3, a4⟩ := hD k hk
    by_cases e : k = j
    · subst e
      rw [va_up_self, va_up_self]
      refine ⟨a1, hc, (fun q => by rw [hht] at q; cases q), fun i q => ?_⟩
      obtain ⟨b1, b2, -⟩ := a4 i q
      rw [hht] at q; cases q
      exact ⟨b1, b2, q9, rfl, hq9⟩
    · rw [va_up_ne _ _ e, va_up_ne _ _ e]; exact ⟨a1, a2, a3, a4⟩
  · obtain ⟨a1, a2, a3, a4, a5⟩ := qV k hk
    by_cases e : k = j
    · subst e; simp (disch := omega) only [pk_us, pk_un, va_up_self, va_up_ne]; exact ⟨a1, trivial, trivial, a4, fun _ _ => trivial⟩
    · simp (disch := omega) only [pk_us, pk_un, va_up_self, va_up_ne]; exact ⟨a1, a2, a3, a4, a5⟩
  · simp (disch := omega) only [pk_us, pk_un, va_up_self, va_up_ne]; exact qV0 k hk h4
theorem J_file {t b : Nat} (hI : zI n tr le sl mo fc bo nd mk ct hd pq nj fw jf dl) (hp : pL n tr le sl mo la fc bo nd mk ck ct hd pq nj fw jf dl dn cf tf ff vf jj lt dd jt fin) (ht : t < n) (hf : fc t < 6) (hb : 1 ≤ b) (hfit : bo t (fc t) + b ≤ tr t * le t) : zI n tr le sl mo (va_up fc t (fc t + 1)) (va_up bo t (va_up (bo t) (fc t + 1) (bo t (fc t) + b))) nd mk ct hd pq nj fw jf dl ∧ pL n tr le sl mo la (va_up fc t (fc t + 1)) (va_up bo t (va_up (bo t) (fc t + 1) (bo t (fc t) + b))) nd mk ck ct hd pq nj fw jf dl dn cf (upd tf (20 + t) (nI (fc t + 1))) (upd ff (6 * t + fc t) (nI b)) vf jj lt dd jt fin := by
  obtain ⟨h1, h2, h3, hT, hD, hJ, hd9, hW⟩ := hI
  obtain ⟨⟨k1, k2, k3⟩, ⟨c0, c1, c2, c3⟩, qT, qT0, qF, qV, qV0, qJ, qJ0, qW⟩ := hp
  refine ⟨⟨h1, h2, h3, fun i hi => ?_, hD, fun k hk i q hi => ?_, hd9, hW⟩, ⟨k1, k2, k3⟩, ⟨c0, c1, c2, c3⟩, fun i hi => ?_, fun i hi h4 => ?_, fun i hi k hk => ?_, qV, qV0, fun k hk => ?_, qJ0, qW⟩
  · obtain ⟨a1, a2, a3, a4, a5, a6, a7, a8, a9, a10⟩ := hT i hi
    by_cases e : i = t
    · subst e
      rw [va_up_self, va_up_self]
      refine ⟨a1, a2, a3, a4, a5, a6, by omega, ?_, fun k hk => ?_, ?_⟩
      · rw [va_up_ne _ _ (show 0 ≠ fc i + 1 by omega)]; exact a8
      · rw [va_up_ne _ _ (show k ≠ fc i + 1 by omega)]
        by_cases e2 : k = fc i
        · rw [e2, va_up_self]; omega
        · rw [va_up_ne _ _ (show k + 1 ≠ fc i + 1 by omega)]; exact a9 k (by omega)
      · rw [va_up_self]; exact hfit
    · rw [va_up_ne _ _ e, va_up_ne _ _ e]
      exact ⟨a1, a2, a3, a4, a5, a6, a7, a8, a9, a10⟩
  · have h9 := hJ k hk i q hi
    by_cases e : i = t
    · rw [e, va_up_self]; rw [e] at h9; omega
    · rw [va_up_ne _ _ e]; exact h9
  · obtain ⟨a1, a2, a3, a4, a5, a6, a7⟩ := qT i hi
    by_cases e : i = t
    · subst e; simp (disch := omega) only [pk_us, pk_un, va_up_self, va_up_ne]; exact ⟨a1, a2, a3, a4, a5, trivial, by omega⟩
    · simp (disch := omega) only [pk_us, pk_un, va_up_self, va_up_ne]; exact ⟨a1, a2, a3, a4, a5, a6, a7⟩
  · simp (disch := omega) only [pk_us, pk_un, va_up_self, va_up_ne]; exact qT0 i hi h4
  · by_cases e : i = t
    · subst e
      rw [va_up_self] at hk ⊢
      by_cases e2 : k = fc i
      · subst e2
        rw [pk_us, va_up_self, va_up_ne _ _ (show fc i ≠ fc i + 1 by omega), Nat.add_sub_cancel_left]
      · rw [pk_un (by omega), va_up_ne _ _ (show k ≠ fc i + 1 by omega), va_up_ne _ _ (show k + 1 ≠ fc i + 1 by omega)]
        exact qF i hi k (by omega)
    · rw [va_up_ne _ _ e] at hk ⊢
      have h7 := (qT i hi).2.2.2.2.2.2
      rw [pk_un (by omega)]
      exact qF i hi k hk
  · obtain ⟨e1, e2, e3, e4, e5, e6, e7⟩ := qJ k hk
    refine ⟨e1, e2, e3, ?_, e5, e6, e7⟩
    by_cases e : jt k = t
    · rw [e, va_up_self]; rw [e] at e4; omega
    · rw [va_up_ne _ _ e]; exact e4
theorem J_job {t f d : Nat} (hI : zI n tr le sl mo fc bo nd mk ct hd pq nj fw jf dl) (hp : pL n tr le sl mo la fc bo nd mk ck ct hd pq nj fw jf dl dn cf tf ff vf jj lt dd jt fin) (ht : t < n) (hf : f < fc t) (hd8 : d ≤ 99999) (hnj : nj < 20) (hw : (wl fw (nI t) nj).length < 5) : zI n tr le sl mo fc bo nd mk ct hd pq (nj + 1) (upd fw nj (nI t)) (va_up jf nj f) (va_up dl nj d) ∧ pL n tr le sl mo la fc bo nd mk ck ct hd pq (nj + 1) (upd fw nj (nI t)) (va_up jf nj f) (va_up dl nj d) dn (upd cf 2 (nI (nj + 1))) tf ff vf (upd (upd jj nj (nI t)) (20 + nj) (nI f)) (upd lt nj (nI d)) dd (va_up jt nj t) (va_up fin nj false) := by
  obtain ⟨h1, h2, h3, hT, hD, hJ, hd9, hW⟩ := hI
  obtain ⟨⟨k1, k2, k3⟩, ⟨c0, c1, c2, c3⟩, qT, qT0, qF, qV, qV0, qJ, qJ0, qW⟩ := hp
  have hwl : ∀ i, i < n → (wl (upd fw nj (nI t)) (nI i) (nj + 1)).length = (wl fw (nI i) nj).length + (if i = t then 1 else 0) := fun i hi => by
    have e2 : wl (upd fw nj (nI t)) (nI i) nj = wl fw (nI i) nj := wl_congr nj (fun k hk => pk_un (by omega))
    by_cases e : i = t
    · rw [wl_y (by rw [pk_us, e]), e2, List.length_append, if_pos e]; rfl
    · rw [wl_n (by rw [pk_us]; exact fun q => e ((nI_eq (by omega) (by omega)).mp q).symm), e2, if_neg e]; rfl
  refine ⟨⟨h1, h2, by omega, hT, hD, fun k hk i q hi => ?_, fun k => ?_, fun i hi => ?_⟩, ⟨k1, k2, by omega⟩, ⟨by simp (disch := omega) only [pk_us, pk_un, va_up_self, va_up_ne]; exact c0, by simp (disch := omega) only [pk_us, pk_un, va_up_self, va_up_ne]; exact c1, by simp (disch := omega) only [pk_us, pk_un, va_up_self, va_up_ne], by simp (disch := omega) only [pk_us, pk_un, va_up_self, va_up_ne]; exact c3⟩, qT, qT0, qF, qV, qV0, fun k hk => ?_, fun k hk h4 => qJ0 k (by omega) h4, fun i hi => ?_⟩
  · by_cases e : k = nj
    · rw [e, pk_us] at q
      have e2 := (nI_eq (by omega) (by omega)).mp q
      rw [e, va_up_self, ← e2]; exact hf
    · rw [pk_un e] at q
      rw [va_up_ne _ _ e]; exact hJ k (by omega) i q hi
  · by_cases e : k = nj
    · rw [e, va_up_self]; exact hd8
    · rw [va_up_ne _ _ e]; exact hd9 k
  · have h8 := hwl i hi
    have h7 := qW i hi
    split at h8 <;> omega
  · by_cases e : k = nj
    · subst e
      have z := qJ0 k (Nat.le_refl k) hnj
      simp (disch := omega) only [pk_us, pk_un, va_up_self, va_up_ne]
      exact ⟨trivial, ht, trivial, hf, trivial, z, rfl⟩
    · have hk2 : k < nj := by omega
      obtain ⟨e1, e2, e3, e4, e5, e6, e7⟩ := qJ k hk2
      simp (disch := omega) only [pk_us, pk_un, va_up_self, va_up_ne]
      exact ⟨e1, e2, e3, e4, e5, e6, e7⟩
  · have h8 := hwl i hi
    have h7 := qW i hi
    by_cases e : i = t
    · rw [if_pos e] at h8; rw [e] at h8 ⊢; omega
    · rw [if_neg e] at h8; omega
theorem J_done {k9 : Nat} (hI : zI n tr le sl mo fc bo nd mk ct hd pq nj fw jf dl) (hp : pL n tr le sl mo la fc bo nd mk ck ct hd pq nj fw jf dl dn cf tf ff vf jj lt dd jt fin) (hk9 : k9 < nj) : zI n tr le sl mo fc bo nd mk ct hd pq nj (upd fw k9 (-1)) jf dl ∧ pL n tr le sl mo la fc bo nd mk ck ct hd pq nj (upd fw k9 (-1)) jf dl (dn + 1) (upd cf 3 (nI (dn + 1))) tf ff vf jj lt (upd dd k9 (nI 1)) jt (va_up fin k9 true) := by
  obtain ⟨h1, h2, h3, hT, hD, hJ, hd9, hW⟩ := hI
  obtain ⟨⟨k1, k2, k3⟩, ⟨c0, c1, c2, c3⟩, qT, qT0, qF, qV, qV0, qJ, qJ0, qW⟩ := hp
  refine ⟨⟨h1, h2, h3, hT, hD, fun k hk i q hi => ?_, hd9, fun i hi => ?_⟩, ⟨k1, k2, k3⟩, ⟨by simp (disch := omega) only [pk_us, pk_un, va_up_self, va_up_ne]; exact c0, by simp (disch := omega) only [pk_us, pk_un, va_up_self, va_up_ne]; exact c1, by simp (disch := omega) only [pk_us, pk_un, va_up_self, va_up_ne]; exact c2, by simp (disch := omega) only [pk_us, pk_un, va_up_self, va_up_ne]⟩, qT, qT0, qF, qV, qV0, fun k hk => ?_, fun k hk h4 => ?_, fun i hi => ?_⟩
  · by_cases e : k = k9
    · rw [e, pk_us] at q; exact absurd q.symm (nI_nm1 (by omega))
    · rw [pk_un e] at q; exact hJ k hk i q hi
  · exact Nat.le_trans (wl_upd_le (fun q => nI_nm1 (by omega) q.symm) nj) (hW i hi)
  · obtain ⟨e1, e2, e3, e4, e5, e6, e7⟩ := qJ k hk
    by_cases e : k = k9
    · subst e
      simp (disch := omega) only [pk_us, pk_un, va_up_self, va_up_ne]
      exact ⟨e1, e2, e3, e4, e5, rfl, rfl⟩
    · simp (disch := omega) only [pk_us, pk_un, va_up_self, va_up_ne]
      exact ⟨e1, e2, e3, e4, e5, e6, e7⟩
  · simp (disch := omega) only [pk_us, pk_un, va_up_self, va_up_ne]; exact qJ0 k hk h4
  · exact Nat.le_trans (wl_upd_le (fun q => nI_nm1 (by omega) q.symm) nj) (qW i hi)
end PLU
/-! no job stands twice in a list -/
theorem nodup_getD : ∀ (l : List Nat), l.Pairwise (· ≠ ·) → ∀ (a b : Nat), a < b → b < l.length → l.getD a 0 ≠ l.getD b 0
  | [], _, a, b, _, h => absurd h (Nat.not_lt_zero b)
  | x :: l, hp, a, b, hab, hb => by
    obtain ⟨h1, h2⟩ := List.pairwise_cons.mp hp
    cases b with
    | zero => exact absurd hab (Nat.not_lt_zero a)
    | succ b =>
      have hb2 : b < l.length := Nat.lt_of_succ_lt_succ hb
      cases a with
      | zero => exact h1 _ (getD_mem hb2)
      | succ a => exact nodup_getD l h2 a b (by omega) hb2
theorem wl_pair {f : Nat → Int32} {x : Int32} : ∀ (m : Nat), (wl f x m).Pairwise (· ≠ ·)
  | 0 => List.Pairwise.nil
  | m + 1 => by
    have ih := wl_pair (f := f) (x := x) m
    by_cases e : f m = x
    · rw [wl_y e]
      refine List.pairwise_append.mpr ⟨ih, List.pairwise_singleton _ _, fun a ha b hb => ?_⟩
      rw [List.mem_singleton.mp hb]
      have := (wl_mem ha).1
      omega
    · rw [wl_n e]; exact ih
theorem bo_pair {lg : Nat → Nat → Nat} {m : Nat} : ∀ (k : Nat) (p : Nat → Bool) (a : Nat), (bo lg m k p a).Pairwise (· ≠ ·)
  | 0, _, _ => List.Pairwise.nil
  | k + 1, p, a => by
    rw [bo]
    split
    · exact List.Pairwise.nil
    · rename_i b hb
      refine List.pairwise_cons.mpr ⟨fun x hx q => ?_, bo_pair k _ _⟩
      have h1 := (bo_mem k _ _ x hx).2
      rw [← q] at h1
      simp [rem] at h1
theorem js_ne {lg : Nat → Nat → Nat} {f : Nat → Int32} {x : Int32} {m : Nat} (a b : Nat) (hab : a < b) (hb : b < (wl f x m).length) : (wl f x m).getD ((BO lg (wl f x m).length (np 0) 7).getD a 0) 0 ≠ (wl f x m).getD ((BO lg (wl f x m).length (np 0) 7).getD b 0) 0 := by
  have hlen : (BO lg (wl f x m).length (np 0) 7).length = (wl f x m).length := by rw [BO_length, np_0, cnt_all]
  have h1 := nodup_getD _ (bo_pair (lg := lg) (m := (wl f x m).length) (cnt (np 0) (wl f x m).length) (np 0) 7) a b hab (by
    show b < (BO lg (wl f x m).length (np 0) 7).length
    rw [hlen]; exact hb)
  have h1 : (BO lg (wl f x m).length (np 0) 7).getD a 0 ≠ (BO lg (wl f x m).length (np 0) 7).getD b 0 := h1
  have ha2 := (BO_mem (getD_mem (L := BO lg (wl f x m).length (np 0) 7) (i := a) (by rw [hlen]; omega))).1
  have hb2 := (BO_mem (getD_mem (L := BO lg (wl f x m).length (np 0) 7) (i := b) (by rw [hlen]; exact hb))).1
  rcases Nat.lt_or_gt_of_ne h1 with q | q
  · exact nodup_getD _ (wl_pair m) _ _ q hb2
  · exact (nodup_getD _ (wl_pair m) _ _ q ha2).symm
