/-! what holds of the numbers goes on holding: pure -/
section INV
variable {n : Nat} {tr le sl : Nat → Nat} {mo : Nat → Option Nat} {la : Nat → Bool} {fc : Nat → Nat} {bo : Nat → Nat → Nat} {nd : Nat} {mk : Nat → Nat} {ck : Nat → Int32} {ct : Nat → Nat} {hd : Nat → Option Nat} {pq pf : Nat → Int32} {nj : Nat} {fw jt : Nat → Int32} {jf dl : Nat → Nat} {fin : Nat → Bool} {sf bf : Nat → Int32} {dn : Nat}
theorem wl_congr {f g : Nat → Int32} {x : Int32} : ∀ (m : Nat), (∀ k, k < m → f k = g k) → wl f x m = wl g x m
  | 0, _ => rfl
  | m + 1, h => by
    have ih := wl_congr (f := f) (g := g) (x := x) m (fun k hk => h k (by omega))
    have h2 := h m (by omega)
    by_cases e : f m = x
    · rw [wl_y e, wl_y (by rw [← h2]; exact e), ih]
    · rw [wl_n e, wl_n (by rw [← h2]; exact e), ih]
theorem wl_none {f : Nat → Int32} {x : Int32} : ∀ (m : Nat), (∀ k, k < m → f k ≠ x) → wl f x m = []
  | 0, _ => rfl
  | m + 1, h => by rw [wl_n (h m (by omega)), wl_none m (fun k hk => h k (by omega))]
theorem wl_upd_le {f : Nat → Int32} {x y : Int32} {j : Nat} (hy : y ≠ x) : ∀ (m : Nat), (wl (upd f j y) x m).length ≤ (wl f x m).length
  | 0 => Nat.le_refl _
  | m + 1 => by
    have ih := wl_upd_le (f := f) (x := x) (y := y) (j := j) hy m
    by_cases e : upd f j y m = x
    · have e2 : m ≠ j := fun q => by rw [q, pk_us] at e; exact hy e
      rw [wl_y e, wl_y (by rw [pk_un e2] at e; exact e), List.length_append, List.length_append]
      omega
    · rw [wl_n e]
      by_cases e3 : f m = x
      · rw [wl_y e3, List.length_append]; omega
      · rw [wl_n e3]; exact ih
theorem cnt_up {p : Nat → Bool} {k : Nat} (h : p k = false) : ∀ (m : Nat), k < m → cnt (va_up p k true) m = cnt p m + 1
  | 0, hk => absurd hk (Nat.not_lt_zero k)
  | m + 1, hk => by
    rw [cnt, cnt]
    by_cases e : m = k
    · subst e
      rw [va_up_self, h, cnt_congr (p := va_up p m true) (q := p) m (fun x hx => va_up_ne _ _ (by omega))]
      rfl
    · rw [va_up_ne _ _ e, cnt_up h m (by omega)]; omega
theorem I_carry {t g : Nat} (hI : zI n tr le sl mo fc bo nd mk ct hd pq nj fw jf dl) (hg : g < 12) : zI n tr le (va_up sl t g) mo fc bo nd mk ct hd pq nj fw jf dl := by
  obtain ⟨h1, h2, h3, hT, hD, hJ, hd9, hW⟩ := hI
  refine ⟨h1, h2, h3, fun i hi => ?_, hD, hJ, hd9, hW⟩
  obtain ⟨a1, a2, a3, a4, a5, a6⟩ := hT i hi
  refine ⟨a1, a2, a3, a4, ?_, a6⟩
  by_cases e : i = t
  · rw [e, va_up_self]; exact hg
  · rw [va_up_ne _ _ e]; exact a5
theorem fw_no {n9 : Nat} (hn : n9 < 2 ^ 31) (hM5 : ∀ k, k < nj → fw k = (if fin k then -1 else jt k) ∧ ∃ t, t < n9 ∧ jt k = nI t) : ∀ k, k < nj → fw k ≠ nI n9 := by
  intro k hk q
  obtain ⟨e1, t, ht, e2⟩ := hM5 k hk
  rw [q] at e1
  by_cases e : fin k = true
  · rw [if_pos e] at e1; exact nI_nm1 hn e1
  · rw [if_neg e, e2] at e1
    have := (nI_eq hn (by omega)).mp e1
    omega
theorem I_tape {a b g : Nat} (hI : zI n tr le sl mo fc bo nd mk ct hd pq nj fw jf dl) (hM : mI n la fc bo nd ck ct hd pq pf nj fw jt fin sf bf dn) (hn : n < 8) (ha : 1 ≤ a ∧ a ≤ 8) (hb : 4 ≤ b ∧ b ≤ 200) (hg : g < 12) : zI (n + 1) (va_up tr n a) (va_up le n b) (va_up sl n g) (va_up mo n none) fc (va_up bo n (fun _ => 0)) nd mk ct hd pq nj fw jf dl ∧ mI (n + 1) la fc (va_up bo n (fun _ => 0)) nd ck ct hd pq pf nj fw jt fin sf bf dn := by
  obtain ⟨h1, h2, h3, hT, hD, hJ, hd9, hW⟩ := hI
  obtain ⟨hM1, hM2, hM3, hM4, hM5, hM6, hM7⟩ := hM
  have hno := fw_no (n9 := n) (by omega) hM5
  have hfn := (hM1 n (Nat.le_refl n)).1
  refine ⟨⟨by omega, h2, h3, fun i hi => ?_, fun j hj => ?_, fun k hk t q ht => ?_, hd9, fun t ht => ?_⟩, fun i hi => hM1 i (by omega), hM2, fun t f ht hf => ?_, hM4, fun k hk => ?_, hM6, hM7⟩
  · by_cases e : i = n
    · subst e
      rw [va_up_self, va_up_self, va_up_self, va_up_self, va_up_self, hfn]
      exact ⟨ha.1, ha.2, hb.1, hb.2, hg, (fun j q => nomatch q), by omega, rfl, (fun k hk => absurd hk (Nat.not_lt_zero k)), Nat.zero_le _⟩
    · rw [va_up_ne _ _ e, va_up_ne _ _ e, va_up_ne _ _ e, va_up_ne _ _ e, va_up_ne _ _ e]
      exact hT i (by omega)
  · obtain ⟨a1, a2, a3, a4⟩ := hD j hj
    refine ⟨a1, a2, a3, fun i q => ?_⟩
    obtain ⟨b1, b2, b3⟩ := a4 i q
    have e : i ≠ n := by omega
    rw [va_up_ne _ _ e, va_up_ne _ _ e, va_up_ne _ _ e]
    exact ⟨by omega, b2, b3⟩
  · exact hJ k hk t q (by
      rcases Nat.lt_or_ge t n with h | h
      · exact h
      · have e : t = n := by omega
        rw [e] at q; exact absurd q (hno k hk))
  · rcases Nat.lt_or_ge t n with h | h
    · exact hW t h
    · have e : t = n := by omega
      rw [e, wl_none nj hno]; exact Nat.zero_le _
  · by_cases e : t = n
    · rw [e, hfn] at hf; exact absurd hf (Nat.not_lt_zero f)
    · rw [va_up_ne _ _ e]; exact hM3 t f (by omega) hf
  · obtain ⟨e1, t, ht, e2⟩ := hM5 k hk
    exact ⟨e1, t, by omega, e2⟩
theorem I_drive {a : Nat} (hI : zI n tr le sl mo fc bo nd mk ct hd pq nj fw jf dl) (hM : mI n la fc bo nd ck ct hd pq pf nj fw jt fin sf bf dn) (hn : nd < 3) (ha : a ≤ 1) : zI n tr le sl mo fc bo (nd + 1) (va_up mk nd a) ct (va_up hd nd none) (va_up pq nd (-1)) nj fw jf dl ∧ mI n la fc bo (nd + 1) ck ct (va_up hd nd none) (va_up pq nd (-1)) pf nj fw jt fin sf bf dn := by
  obtain ⟨h1, h2, h3, hT, hD, hJ, hd9, hW⟩ := hI
  obtain ⟨hM1, hM2, hM3, hM4, hM5, hM6, hM7⟩ := hM
  refine ⟨⟨h1, by omega, h3, fun i hi => ?_, fun j hj => ?_, hJ, hd9, hW⟩, hM1, fun j hj => hM2 j (by omega), hM3, fun j t hj q => ?_, hM5, hM6, hM7⟩
  · obtain ⟨a1, a2, a3, a4, a5, a6, a7⟩ := hT i hi
    refine ⟨a1, a2, a3, a4, a5, fun j q => ?_, a7⟩
    obtain ⟨b1, b2⟩ := a6 j q
    rw [va_up_ne _ _ (show j ≠ nd by omega)]
    exact ⟨by omega, b2⟩
  · by_cases e : j = nd
    · subst e
      rw [va_up_self, va_up_self, va_up_self, (hM2 j (Nat.le_refl j)).2]
      exact ⟨ha, by omega, fun _ => rfl, fun i q => nomatch q⟩
    · rw [va_up_ne _ _ e, va_up_ne _ _ e, va_up_ne _ _ e]
      exact hD j (by omega)
  · by_cases e : j = nd
    · rw [e, va_up_self] at q; cases q
    · rw [va_up_ne _ _ e] at q ⊢
      exact hM4 j t (by omega) q
theorem I_mount {j t : Nat} {c9 : Int32} (hI : zI n tr le sl mo fc bo nd mk ct hd pq nj fw jf dl) (hM : mI n la fc bo nd ck ct hd pq pf nj fw jt fin sf bf dn) (hj : j < nd) (ht : t < n) (hhj : hd j = none) (hmt : mo t = none) : zI n tr le sl (va_up mo t (some j)) fc bo nd mk ct (va_up hd j (some t)) (va_up pq j (nI 0)) nj fw jf dl ∧ mI n la fc bo nd (va_up ck j c9) ct (va_up hd j (some t)) (va_up pq j (nI 0)) (va_up pf j (nI 0)) nj fw jt fin sf bf dn := by
  obtain ⟨h1, h2, h3, hT, hD, hJ, hd9, hW⟩ := hI
  obtain ⟨hM1, hM2, hM3, hM4, hM5, hM6, hM7⟩ := hM
  refine ⟨⟨h1, h2, h3, fun i hi => ?_, fun k hk => ?_, hJ, hd9, hW⟩, hM1, fun k hk => ?_, hM3, fun k i hk q => ?_, hM5, hM6, hM7⟩
  · obtain ⟨a1, a2, a3, a4, a5, a6, a7⟩ := hT i hi
    refine ⟨a1, a2, a3, a4, a5, fun k q => ?_, a7⟩
    by_cases e : i = t
    · rw [e, va_up_self] at q
      cases q
      rw [va_up_self, e]; exact ⟨hj, rfl⟩
    · rw [va_up_ne _ _ e] at q
      obtain ⟨b1, b2⟩ := a6 k q
      rw [va_up_ne _ _ (show k ≠ j from fun e2 => by rw [e2, hhj] at b2; cases b2)]
      exact ⟨b1, b2⟩
  · obtain ⟨a1, a2, a3, a4⟩ := hD k hk
    by_cases e : k = j
    · subst e
      rw [va_up_self, va_up_self]
      refine ⟨a1, a2, (fun q => nomatch q), fun i q => ?_⟩
      cases q
      rw [va_up_self]
      exact ⟨ht, rfl, 0, rfl, Nat.zero_le _⟩
    · rw [va_up_ne _ _ e, va_up_ne _ _ e]
      refine ⟨a1, a2, a3, fun i q => ?_⟩
      obtain ⟨b1, b2, b3⟩ := a4 i q
      rw [va_up_ne _ _ (show i ≠ t from fun e2 => by rw [e2, hmt] at b2; cases b2)]
      exact ⟨b1, b2, b3⟩
  · rw [va_up_ne _ _ (show k ≠ j by omega)]; exact hM2 k hk
  · by_cases e : k = j
    · rw [e, va_up_self, va_up_self]
    · rw [va_up_ne _ _ e] at q
      rw [va_up_ne _ _ e, va_up_ne _ _ e]; exact hM4 k i hk q
theorem I_unmount {j t : Nat} {c9 : Int32} (hI : zI n tr le sl mo fc bo nd mk ct hd pq nj fw jf dl) (hM : mI n la fc bo nd ck ct hd pq pf nj fw jt fin sf bf dn) (hj : j < nd) (hht : hd j = some t) : zI n tr le sl (va_up mo t none) fc bo nd mk ct (va_up hd j none) (va_up pq j (-1)) nj fw jf dl ∧ mI n la fc bo nd (va_up ck j c9) ct (va_up hd j none) (va_up pq j (-1)) pf nj fw jt fin sf bf dn := by
  obtain ⟨h1, h2, h3, hT, hD, hJ, hd9, hW⟩ := hI
  obtain ⟨hM1, hM2, hM3, hM4, hM5, hM6, hM7⟩ := hM
  obtain ⟨htn, hmt, -⟩ := (hD j hj).2.2.2 t hht
  refine ⟨⟨h1, h2, h3, fun i hi => ?_, fun k hk => ?_, hJ, hd9, hW⟩, hM1, fun k hk => ?_, hM3, fun k i hk q => ?_, hM5, hM6, hM7⟩
  · obtain ⟨a1, a2, a3, a4, a5, a6, a7⟩ := hT i hi
    refine ⟨a1, a2, a3, a4, a5, fun k q => ?_, a7⟩
    by_cases e : i = t
    · rw [e, va_up_self] at q; cases q
    · rw [va_up_ne _ _ e] at q
      obtain ⟨b1, b2⟩ := a6 k q
      rw [va_up_ne _ _ (show k ≠ j from fun e2 => by rw [e2, hht] at b2; cases b2; exact e rfl)]
      exact ⟨b1, b2⟩
  · obtain ⟨a1, a2, a3, a4⟩ := hD k hk
    by_cases e : k = j
    · subst e
      rw [va_up_self, va_up_self]
      exact ⟨a1, a2, fun _ => rfl, fun i q => nomatch q⟩
    · rw [va_up_ne _ _ e, va_up_ne _ _ e]
      refine ⟨a1, a2, a3, fun i q => ?_⟩
      obtain ⟨b1, b2, b3⟩ := a4 i q
      rw [va_up_ne _ _ (show i ≠ t from fun e2 => by rw [e2, hmt] at b2; cases b2; exact e rfl)]
      exact ⟨b1, b2, b3⟩
  · rw [va_up_ne _ _ (show k ≠ j by omega)]; exact hM2 k hk
  · by_cases e : k = j
    · rw [e, va_up_self] at q; cases q
    · rw [va_up_ne _ _ e] at q ⊢; exact hM4 k i hk q
theorem I_go {j t q9 d9 : Nat} {c9 : Int32} (hI : zI n tr le sl mo fc bo nd mk ct hd pq nj fw jf dl) (hM : mI n la fc bo nd ck ct hd pq pf nj fw jt fin sf bf dn) (hj : j < nd) (hht : hd j = some t) (hq9 : q9 ≤ tr t * le t) (hc : d9 ≤ 12) : zI n tr le sl mo fc bo nd mk (va_up ct j d9) hd (va_up pq j (nI q9)) nj fw jf dl ∧ mI n la fc bo nd (va_up ck j c9) (va_up ct j d9) hd (va_up pq j (nI q9)) (va_up pf j (nI q9)) nj fw jt fin sf bf dn := by
  obtain ⟨h1, h2, h3, hT, hD, hJ, hd9, hW⟩ := hI
  obtain ⟨hM1, hM2, hM3, hM4, hM5, hM6, hM7⟩ := hM
  refine ⟨⟨h1, h2, h3, hT, fun k hk => ?_, hJ, hd9, hW⟩, hM1, fun k hk => ?_, hM3, fun k i hk q => ?_, hM5, hM6, hM7⟩
  · obtain ⟨a1, a2, a3, a4⟩ := hD k hk
    by_cases e : k = j
    · subst e
      rw [va_up_self, va_up_self]
      refine ⟨a1, hc, (fun q => by rw [hht] at q; cases q), fun i q => ?_⟩
      obtain ⟨b1, b2, -⟩ := a4 i q
      rw [hht] at q; cases q
      exact ⟨b1, b2, q9, rfl, hq9⟩
    · rw [va_up_ne _ _ e, va_up_ne _ _ e]; exact ⟨a1, a2, a3, a4⟩
  · rw [va_up_ne _ _ (show k ≠ j by omega), va_up_ne _ _ (show k ≠ j by omega)]; exact hM2 k hk
  · by_cases e : k = j
    · rw [e, va_up_self, va_up_self]
    · rw [va_up_ne _ _ e, va_up_ne _ _ e]; exact hM4 k i hk q
theorem I_clean {j : Nat} {c9 : Int32} (hI : zI n tr le sl mo fc bo nd mk ct hd pq nj fw jf dl) (hM : mI n la fc bo nd ck ct hd pq pf nj fw jt fin sf bf dn) (hj : j < nd) : zI n tr le sl mo fc bo nd mk (va_up ct j 0) hd pq nj fw jf dl ∧ mI n la fc bo nd (va_up ck j c9) (va_up ct j 0) hd pq pf nj fw jt fin sf bf dn := by
  obtain ⟨h1, h2, h3, hT, hD, hJ, hd9, hW⟩ := hI
  obtain ⟨hM1, hM2, hM3, hM4, hM5, hM6, hM7⟩ := hM
  refine ⟨⟨h1, h2, h3, hT, fun k hk => ?_, hJ, hd9, hW⟩, hM1, fun k hk => ?_, hM3, hM4, hM5, hM6, hM7⟩
  · obtain ⟨a1, a2, a3, a4⟩ := hD k hk
    by_cases e : k = j
    · rw [e, va_up_self, ← e]; exact ⟨a1, Nat.zero_le _, a3, a4⟩
    · rw [va_up_ne _ _ e]; exact ⟨a1, a2, a3, a4⟩
  · rw [va_up_ne _ _ (show k ≠ j by omega), va_up_ne _ _ (show k ≠ j by omega)]; exact hM2 k hk
theorem I_file {t b : Nat} (hI : zI n tr le sl mo fc bo nd mk ct hd pq nj fw jf dl) (hM : mI n la fc bo nd ck ct hd pq pf nj fw jt fin sf bf dn) (ht : t < n) (hf : fc t < 10) (hb : 1 ≤ b) (hfit : bo t (fc t) + b ≤ tr t * le t) : zI n tr le sl mo (va_up fc t (fc t + 1)) (va_up bo t (va_up (bo t) (fc t + 1) (bo t (fc t) + b))) nd mk ct hd pq nj fw jf dl ∧ mI n la (va_up fc t (fc t + 1)) (va_up bo t (va_up (bo t) (fc t + 1) (bo t (fc t) + b))) nd ck ct hd pq pf nj fw jt fin (va_up sf (10 * t + fc t) (nI (bo t (fc t)))) (va_up bf (10 * t + fc t) (nI b)) dn := by
  obtain ⟨h1, h2, h3, hT, hD, hJ, hd9, hW⟩ := hI
  obtain ⟨hM1, hM2, hM3, hM4, hM5, hM6, hM7⟩ := hM
  refine ⟨⟨h1, h2, h3, fun i hi => ?_, hD, fun k hk i q hi => ?_, hd9, hW⟩, fun i hi => ?_, hM2, fun i f hi hf9 => ?_, hM4, hM5, hM6, hM7⟩
  · obtain ⟨a1, a2, a3, a4, a5, a6, a7, a8, a9, a10⟩ := hT i hi
    by_cases e : i = t
    · subst e
      rw [va_up_self, va_up_self]
      refine ⟨a1, a2, a3, a4, a5, a6, by omega, ?_, fun k hk => ?_, ?_⟩
      · rw [va_up_ne _ _ (show 0 ≠ fc i + 1 by omega)]; exact a8
      · rw [va_up_ne _ _ (show k ≠ fc i + 1 by omega)]
        by_cases e2 : k = fc i
        · rw [e2, va_up_self]; omega
        · rw [va_up_ne _ _ (show k + 1 ≠ fc i + 1 by omega)]; exact a9 k (by omega)
      · rw [va_up_self]; exact hfit
    · rw [va_up_ne _ _ e, va_up_ne _ _ e]
      exact ⟨a1, a2, a3, a4, a5, a6, a7, a8, a9, a10⟩
  · have h9 := hJ k hk i q hi
    by_cases e : i = t
    · rw [e, va_up_self]; rw [e] at h9; omega
    · rw [va_up_ne _ _ e]; exact h9
  · rw [va_up_ne _ _ (show i ≠ t by omega)]; exact hM1 i hi
  · by_cases e : i = t
    · subst e
      rw [va_up_self] at hf9 ⊢
      by_cases e2 : f = fc i
      · subst e2
        rw [va_up_self, va_up_self, va_up_self, va_up_ne _ _ (show fc i ≠ fc i + 1 by omega), Nat.add_sub_cancel_left]
        exact ⟨rfl, rfl⟩
      · rw [va_up_ne _ _ (show 10 * i + f ≠ 10 * i + fc i by omega), va_up_ne _ _ (show 10 * i + f ≠ 10 * i + fc i by omega), va_up_ne _ _ (show f ≠ fc i + 1 by omega), va_up_ne _ _ (show f + 1 ≠ fc i + 1 by omega)]
        exact hM3 i f hi (by omega)
    · rw [va_up_ne _ _ e] at hf9 ⊢
      have h9 := (hT i hi).2.2.2.2.2.2.1
      rw [va_up_ne _ _ (show 10 * i + f ≠ 10 * t + fc t by omega), va_up_ne _ _ (show 10 * i + f ≠ 10 * t + fc t by omega)]
      exact hM3 i f hi hf9
theorem I_job {t f d : Nat} (hI : zI n tr le sl mo fc bo nd mk ct hd pq nj fw jf dl) (hM : mI n la fc bo nd ck ct hd pq pf nj fw jt fin sf bf dn) (ht : t < n) (hf : f < fc t) (hd8 : d ≤ 99999) (hnj : nj < 60) (hw : (wl fw (nI t) nj).length < 7) : zI n tr le sl mo fc bo nd mk ct hd pq (nj + 1) (upd fw nj (nI t)) (va_up jf nj f) (va_up dl nj d) ∧ mI n la fc bo nd ck ct hd pq pf (nj + 1) (upd fw nj (nI t)) (va_up jt nj (nI t)) fin sf bf dn := by
  obtain ⟨h1, h2, h3, hT, hD, hJ, hd9, hW⟩ := hI
  obtain ⟨hM1, hM2, hM3, hM4, hM5, hM6, hM7⟩ := hM
  refine ⟨⟨h1, h2, by omega, hT, hD, fun k hk i q hi => ?_, fun k => ?_, fun i hi => ?_⟩, hM1, hM2, hM3, hM4, fun k hk => ?_, fun k hk => hM6 k (by omega), ?_⟩
  · by_cases e : k = nj
    · rw [e, pk_us] at q
      have e2 := (nI_eq (by omega) (by omega)).mp q
      rw [e, va_up_self, ← e2]; exact hf
    · rw [pk_un e] at q
      rw [va_up_ne _ _ e]; exact hJ k (by omega) i q hi
  · by_cases e : k = nj
    · rw [e, va_up_self]; exact hd8
    · rw [va_up_ne _ _ e]; exact hd9 k
  · have e2 : wl (upd fw nj (nI t)) (nI i) nj = wl fw (nI i) nj := wl_congr nj (fun k hk => pk_un (by omega))
    by_cases e : upd fw nj (nI t) nj = nI i
    · rw [wl_y e, e2, List.length_append]
      rw [pk_us] at e
      have e3 := (nI_eq (by omega) (by omega)).mp e
      rw [← e3]
      show (wl fw (nI t) nj).length + 1 ≤ 7
      omega
    · rw [wl_n e, e2]; exact hW i hi
  · by_cases e : k = nj
    · rw [e, pk_us, va_up_self, hM6 nj (Nat.le_refl nj)]
      exact ⟨rfl, t, ht, rfl⟩
    · rw [pk_un e, va_up_ne _ _ e]; exact hM5 k (by omega)
  · rw [cnt, hM6 nj (Nat.le_refl nj), hM7]; rfl
theorem I_la {la9 : Nat → Bool} (hM : mI n la fc bo nd ck ct hd pq pf nj fw jt fin sf bf dn) (h : ∀ i, n ≤ i → la9 i = true) : mI n la9 fc bo nd ck ct hd pq pf nj fw jt fin sf bf dn := by
  obtain ⟨hM1, hM2, hM3, hM4, hM5, hM6, hM7⟩ := hM
  exact ⟨fun i hi => ⟨(hM1 i hi).1, h i hi⟩, hM2, hM3, hM4, hM5, hM6, hM7⟩
theorem I_done {k9 : Nat} (hI : zI n tr le sl mo fc bo nd mk ct hd pq nj fw jf dl) (hM : mI n la fc bo nd ck ct hd pq pf nj fw jt fin sf bf dn) (hk9 : k9 < nj) (hfin : fin k9 = false) : zI n tr le sl mo fc bo nd mk ct hd pq nj (upd fw k9 (-1)) jf dl ∧ mI n la fc bo nd ck ct hd pq pf nj (upd fw k9 (-1)) jt (va_up fin k9 true) sf bf (dn + 1) := by
  obtain ⟨h1, h2, h3, hT, hD, hJ, hd9, hW⟩ := hI
  obtain ⟨hM1, hM2, hM3, hM4, hM5, hM6, hM7⟩ := hM
  refine ⟨⟨h1, h2, h3, hT, hD, fun k hk i q hi => ?_, hd9, fun i hi => ?_⟩, hM1, hM2, hM3, hM4, fun k hk => ?_, fun k hk => ?_, ?_⟩
  · by_cases e : k = k9
    · rw [e, pk_us] at q; exact absurd q.symm (nI_nm1 (by omega))
    · rw [pk_un e] at q; exact hJ k hk i q hi
  · exact Nat.le_trans (wl_upd_le (fun q => nI_nm1 (by omega) q.symm) nj) (hW i hi)
  · obtain ⟨e1, e2⟩ := hM5 k hk
    refine ⟨?_, e2⟩
    by_cases e : k = k9
    · rw [e, pk_us, va_up_self]; rfl
    · rw [pk_un e, va_up_ne _ _ e]; exact e1
  · rw [va_up_ne _ _ (show k ≠ k9 by omega)]; exact hM6 k hk
  · rw [cnt_up hfin nj hk9, hM7]
theorem I_works {Js : Nat → Nat} : ∀ (i : Nat), zI n tr le sl mo fc bo nd mk ct hd pq nj fw jf dl → mI n la fc bo nd ck ct hd pq pf nj fw jt fin sf bf dn → (∀ a, a < i → Js a < nj ∧ fin (Js a) = false) → (∀ a b, a < b → b < i → Js a ≠ Js b) → zI n tr le sl mo fc bo nd mk ct hd pq nj (wkF Js fw i) jf dl ∧ mI n la fc bo nd ck ct hd pq pf nj (wkF Js fw i) jt (wkG Js fin i) sf bf (dn + i)
  | 0, hI, hM, _, _ => ⟨hI, hM⟩
  | i + 1, hI, hM, h1, h2 => by
    obtain ⟨g1, g2⟩ := I_works i hI hM (fun a ha => h1 a (by omega)) (fun a b ha hb => h2 a b ha (by omega))
    have h3 : ∀ m, m ≤ i → wkG Js fin m (Js i) = false := by
      intro m
      induction m with
      | zero => intro _; exact (h1 i (by omega)).2
      | succ m ih =>
        intro hm
        show va_up (wkG Js fin m) (Js m) true (Js i) = false
        rw [va_up_ne _ _ (fun q => h2 m i (by omega) (by omega) q.symm)]
        exact ih (by omega)
    exact I_done g1 g2 (h1 i (by omega)).1 (h3 i (Nat.le_refl i))
end INV
/-! no job stands twice in a list -/
theorem nodup_getD : ∀ (l : List Nat), l.Pairwise (· ≠ ·) → ∀ (a b : Nat), a < b → b < l.length → l.getD a 0 ≠ l.getD b 0
  | [], _, a, b, _, h => absurd h (Nat.not_lt_zero b)
  | x :: l, hp, a, b, hab, hb => by
    obtain ⟨h1, h2⟩ := List.pairwise_cons.mp hp
    cases b with
    | zero => exact absurd hab (Nat.not_lt_zero a)
    | succ b =>
      have hb2 : b < l.length := Nat.lt_of_succ_lt_succ hb
      cases a with
      | zero => exact h1 _ (getD_mem hb2)
      | succ a => exact nodup_getD l h2 a b (by omega) hb2
theorem wl_pair {f : Nat → Int32} {x : Int32} : ∀ (m : Nat), (wl f x m).Pairwise (· ≠ ·)
  | 0 => List.Pairwise.nil
  | m + 1 => by
    have ih := wl_pair (f := f) (x := x) m
    by_cases e : f m = x
    · rw [wl_y e]
      refine List.pairwise_append.mpr ⟨ih, List.pairwise_singleton _ _, fun a ha b hb => ?_⟩
      rw [List.mem_singleton.mp hb]
      have := (wl_mem ha).1
      omega
    · rw [wl_n e]; exact ih
theorem bo_pair {lg : Nat → Nat → Nat} {m : Nat} : ∀ (k : Nat) (p : Nat → Bool) (a : Nat), (bo lg m k p a).Pairwise (· ≠ ·)
  | 0, _, _ => List.Pairwise.nil
  | k + 1, p, a => by
    rw [bo]
    split
    · exact List.Pairwise.nil
    · rename_i b hb
      refine List.pairwise_cons.mpr ⟨fun x hx q => ?_, bo_pair k _ _⟩
      have h1 := (bo_mem k _ _ x hx).2
      rw [← q] at h1
      simp [rem] at h1
theorem js_ne {lg : Nat → Nat → Nat} {f : Nat → Int32} {x : Int32} {m : Nat} (a b : Nat) (hab : a < b) (hb : b < (wl f x m).length) : (wl f x m).getD ((BO lg (wl f x m).length (np 0) 7).getD a 0) 0 ≠ (wl f x m).getD ((BO lg (wl f x m).length (np 0) 7).getD b 0) 0 := by
  have hlen : (BO lg (wl f x m).length (np 0) 7).length = (wl f x m).length := by rw [BO_length, np_0, cnt_all]
  have h1 := nodup_getD _ (bo_pair (lg := lg) (m := (wl f x m).length) (cnt (np 0) (wl f x m).length) (np 0) 7) a b hab (by
    show b < (BO lg (wl f x m).length (np 0) 7).length
    rw [hlen]; exact hb)
  have h1 : (BO lg (wl f x m).length (np 0) 7).getD a 0 ≠ (BO lg (wl f x m).length (np 0) 7).getD b 0 := h1
  have ha2 := (BO_mem (getD_mem (L := BO lg (wl f x m).length (np 0) 7) (i := a) (by rw [hlen]; omega))).1
  have hb2 := (BO_mem (getD_mem (L := BO lg (wl f x m).length (np 0) 7) (i := b) (by rw [hlen]; exact hb))).1
  rcases Nat.lt_or_gt_of_ne h1 with q | q
  · exact nodup_getD _ (wl_pair m) _ _ q hb2
  · exact (nodup_getD _ (wl_pair m) _ _ q ha2).symm
