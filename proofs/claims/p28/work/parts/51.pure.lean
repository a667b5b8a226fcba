/-! p28, pure: choices, places along a tape, orders by numbers -/
/-- '>>> 2', and then '%' -/
def su (x : Int32) : Nat := x.toBitVec.toNat / 2 ^ 2
theorem su_lt (x : Int32) : su x < 2 ^ 30 := by
  have h : x.toBitVec.toNat < 2 ^ 32 := x.toBitVec.isLt
  unfold su; omega
theorem su_eq (x : Int32) : (x.toUInt32 >>> ((nI 2).toUInt32 &&& Int32.toUInt32 31)).toInt32 = nI (su x) := by
  apply Int32.toBitVec_inj.mp
  apply BitVec.eq_of_toNat_eq
  have h := su_lt x
  rw [pk_ushr x (nI 2) 2 (by decide), pk_tn (by omega)]; rfl
def sm (x : Int32) (k : Nat) : Nat := su x % k
theorem sm_lt {x : Int32} {k : Nat} (h : 0 < k) : sm x k < k := Nat.mod_lt _ h
/-- the next place -/
theorem nx_div {le k : Nat} (h : 0 < le) : (k % le + 1 = le → (k + 1) / le = k / le + 1 ∧ (k + 1) % le = 0) ∧ (k % le + 1 < le → (k + 1) / le = k / le ∧ (k + 1) % le = k % le + 1) := by
  have e := Nat.div_add_mod k le
  generalize k / le = q at e ⊢
  generalize k % le = r at e ⊢
  subst e
  refine ⟨fun g => ?_, fun g => ?_⟩
  · rw [Nat.add_assoc, g, Nat.mul_add_div h, Nat.div_self h, Nat.mul_add_mod, Nat.mod_self]; exact ⟨rfl, rfl⟩
  · rw [Nat.add_assoc, Nat.mul_add_div h, Nat.div_eq_of_lt g, Nat.mul_add_mod, Nat.mod_eq_of_lt g]; exact ⟨rfl, rfl⟩
/-- how far along, of a place that is there -/
def alq (le k : Nat) : Nat := if k / le % 2 = 0 then k % le else le - 1 - k % le
theorem trk_in {tr le p : Nat} (h : p < tr * le) : trk tr le p = p / le := by
  unfold trk
  rw [if_pos (Nat.div_lt_of_lt_mul (by rw [Nat.mul_comm]; exact h))]
theorem alo_in {tr le p : Nat} (h : p < tr * le) (hle : 0 < le) : alo tr le p = alq le p := by
  have e := Nat.div_add_mod p le
  have hr := Nat.mod_lt p hle
  unfold alo alq
  rw [trk_in h]
  have e2 : p - p / le * le = p % le := by rw [Nat.mul_comm]; omega
  rw [e2, Nat.min_eq_left (by omega)]
theorem alo_end {tr le : Nat} (htr : 0 < tr) (hle : 0 < le) : alo tr le (tr * le) = alo tr le (tr * le - 1) ∧ trk tr le (tr * le) = trk tr le (tr * le - 1) := by
  have hm : 0 < tr * le := Nat.mul_pos htr hle
  have h1 : tr * le / le = tr := Nat.mul_div_cancel tr hle
  have h2 : trk tr le (tr * le) = tr - 1 := by unfold trk; rw [h1, if_neg (Nat.lt_irrefl tr)]
  have h5 : tr * le - 1 = (tr - 1) * le + (le - 1) := by
    obtain ⟨a, rfl⟩ : ∃ a, tr = a + 1 := ⟨tr - 1, by omega⟩
    rw [Nat.add_sub_cancel, Nat.succ_mul]; omega
  have h3 : (tr * le - 1) / le = tr - 1 := by
    rw [h5, Nat.mul_comm, Nat.mul_add_div hle, Nat.div_eq_of_lt (by omega)]; rfl
  have h4 : trk tr le (tr * le - 1) = tr - 1 := by unfold trk; rw [h3, if_pos (by omega)]
  refine ⟨?_, by rw [h2, h4]⟩
  have h6 : tr * le - (tr - 1) * le = le := by
    obtain ⟨a, rfl⟩ : ∃ a, tr = a + 1 := ⟨tr - 1, by omega⟩
    rw [Nat.add_sub_cancel, Nat.succ_mul]; omega
  unfold alo
  rw [h2, h4, h6, h5, Nat.add_sub_cancel_left, Nat.min_eq_right (by omega), Nat.min_self]
/-- what the law's lies answers -/
def lies (tr le p : Nat) : Nat := 1000 * trk tr le p + alo tr le p
theorem lies_of {tr le p k : Nat} (htr : 0 < tr) (hle : 0 < le) (hp : p ≤ tr * le) (hk : k = if p ≤ tr * le - 1 then p else tr * le - 1) : lies tr le p = 1000 * (k / le) + alq le k := by
  have hm : 0 < tr * le := Nat.mul_pos htr hle
  by_cases h : p ≤ tr * le - 1
  · rw [if_pos h] at hk
    subst hk
    unfold lies; rw [trk_in (by omega), alo_in (by omega) hle]
  · rw [if_neg h] at hk
    obtain rfl : p = tr * le := by omega
    obtain ⟨h1, h2⟩ := alo_end htr hle
    unfold lies; rw [h1, h2, trk_in (by omega), alo_in (by omega) hle, hk]
theorem lies_mod {tr le p : Nat} (h : 0 < le) (h2 : le ≤ 200) : lies tr le p % 1000 = alo tr le p ∧ lies tr le p / 1000 = trk tr le p := by
  have := alo_lt (tr := tr) (p := p) h
  unfold lies
  omega
theorem lies_le {tr le p : Nat} (h1 : 0 < tr) (h : 0 < le) (h2 : le ≤ 200) (h3 : tr ≤ 8) : lies tr le p < 2 ^ 30 := by
  have := alo_lt (tr := tr) (p := p) h
  have := trk_le (tr := tr) (le := le) (p := p) h1
  unfold lies; omega
/-! orders by numbers -/
def dgs (m : Nat) : Nat → Nat → List Nat
  | 0, _ => []
  | k + 1, c => (c / m ^ k % m) :: dgs m k c
def codL (m : Nat) : List Nat → Nat
  | [] => 0
  | d :: r => d * m ^ r.length + codL m r
theorem dgs_len {m : Nat} : ∀ (k c : Nat), (dgs m k c).length = k
  | 0, _ => rfl
  | k + 1, c => by rw [dgs, List.length_cons, dgs_len k c]
theorem dgs_get {m : Nat} : ∀ (k c i : Nat), i < k → (dgs m k c).getD i 0 = c / m ^ (k - 1 - i) % m
  | 0, _, i, h => absurd h (Nat.not_lt_zero i)
  | k + 1, c, 0, _ => rfl
  | k + 1, c, i + 1, h => by
    rw [dgs, List.getD_cons_succ, dgs_get k c i (by omega)]
    congr 3
    omega
theorem dgs_mem {m : Nat} : ∀ (k c x : Nat), x ∈ dgs m k c ↔ ∃ s, s < k ∧ c / m ^ s % m = x
  | 0, c, x => ⟨fun h => (by cases h), fun ⟨s, h, _⟩ => absurd h (Nat.not_lt_zero s)⟩
  | k + 1, c, x => by
    rw [dgs, List.mem_cons, dgs_mem k c x]
    refine ⟨fun h => ?_, fun ⟨s, h, e⟩ => ?_⟩
    · rcases h with h | ⟨s, h, e⟩
      · exact ⟨k, Nat.lt_succ_self k, h.symm⟩
      · exact ⟨s, by omega, e⟩
    · by_cases g : s = k
      · rw [g] at e; exact Or.inl e.symm
      · exact Or.inr ⟨s, by omega, e⟩
theorem codL_lt {m : Nat} : ∀ (l : List Nat), (∀ x, x ∈ l → x < m) → codL m l < m ^ l.length
  | [], _ => Nat.lt_of_lt_of_le (Nat.zero_lt_one) (Nat.le_refl 1)
  | d :: r, h => by
    have ih := codL_lt r (fun x hx => h x (List.mem_cons_of_mem _ hx))
    have hd : d + 1 ≤ m := h d List.mem_cons_self
    have h2 := Nat.mul_le_mul_right (m ^ r.length) hd
    rw [codL, List.length_cons, Nat.pow_succ, Nat.mul_comm (m ^ r.length) m]
    rw [Nat.succ_mul] at h2
    omega
theorem dgs_cod {m : Nat} : ∀ (l : List Nat) (z : Nat), (∀ x, x ∈ l → x < m) → dgs m l.length (codL m l + m ^ l.length * z) = l
  | [], _, _ => rfl
  | d :: r, z, h => by
    have hr : ∀ x, x ∈ r → x < m := fun x hx => h x (List.mem_cons_of_mem _ hx)
    have hd : d < m := h d List.mem_cons_self
    have h1 := codL_lt r hr
    have e : codL m (d :: r) + m ^ (d :: r).length * z = codL m r + m ^ r.length * (d + m * z) := by
      rw [codL, List.length_cons, Nat.pow_succ, Nat.mul_add, Nat.mul_assoc, Nat.mul_comm d]; omega
    have h0 : 0 < m ^ r.length := Nat.pow_pos (by omega)
    rw [List.length_cons, ← List.length_cons (a := d), e, List.length_cons, dgs, dgs_cod r _ hr]
    congr 1
    rw [Nat.add_comm, Nat.mul_add_div h0, Nat.div_eq_of_lt h1, Nat.add_zero, Nat.add_mul_mod_self_left, Nat.mod_eq_of_lt hd]
theorem cod_dgs {m : Nat} : ∀ (k c : Nat), codL m (dgs m k c) = c % m ^ k
  | 0, c => by rw [Nat.pow_zero, Nat.mod_one]; rfl
  | k + 1, c => by
    rw [dgs, codL, dgs_len, cod_dgs k c, Nat.mod_pow_succ, Nat.mul_comm]; omega
/-- what covers all of p is as long as p has numbers -/
theorem cov_cnt {m : Nat} : ∀ (o : List Nat) (p : Nat → Bool), (∀ y, y < m → p y = true → y ∈ o) → cnt p m ≤ o.length
  | [], p, h => by
    have : ∀ k, k ≤ m → cnt p k = 0 := by
      intro k
      induction k with
      | zero => intro _; rfl
      | succ k ih =>
        intro hk
        have : p k = false := by
          cases hp : p k with
          | false => rfl
          | true => exact absurd (h k (by omega) hp) List.not_mem_nil
        rw [cnt, ih (by omega), this]; rfl
    rw [this m (Nat.le_refl m)]; exact Nat.le_refl _
  | x :: o, p, h => by
    have ih := cov_cnt o (rem p x) (fun y hy hp => by
      unfold rem at hp
      rw [Bool.and_eq_true] at hp
      rcases List.mem_cons.mp (h y hy hp.1) with e | e
      · rw [e] at hp; simp at hp
      · exact e)
    rw [List.length_cons]
    cases hp : p x with
    | false =>
      have e : cnt (rem p x) m = cnt p m := cnt_congr m (fun y _ => by
        unfold rem
        by_cases e : y = x
        · rw [e, hp]; rfl
        · simp [e])
      omega
    | true =>
      have := cnt_rem (b := x) m hp
      split at this <;> omega
theorem cov_head {m x k : Nat} {o : List Nat} {p : Nat → Bool} (hk : cnt p m = k + 1) (hl : o.length = k) (h : ∀ y, y < m → p y = true → y ∈ x :: o) : x < m ∧ p x = true := by
  refine Decidable.byContradiction (fun q => ?_)
  have := cov_cnt (m := m) o p (fun y hy hp => by
    rcases List.mem_cons.mp (h y hy hp) with e | e
    · rw [e] at hy hp; exact absurd ⟨hy, hp⟩ q
    · exact e)
  omega
theorem cov_tail {m x : Nat} {o : List Nat} {p : Nat → Bool} (h : ∀ y, y < m → p y = true → y ∈ x :: o) : ∀ y, y < m → rem p x y = true → y ∈ o := fun y hy hp => by
  unfold rem at hp
  rw [Bool.and_eq_true] at hp
  rcases List.mem_cons.mp (h y hy hp.1) with e | e
  · rw [e] at hp; simp at hp
  · exact e
theorem lex_first {lg : Nat → Nat → Nat} {m : Nat} : ∀ (k : Nat) (p : Nat → Bool) (a : Nat) (o : List Nat), cnt p m = k → o.length = k → (∀ y, y < m → p y = true → y ∈ o) → bt lg m k p a ≤ pt lg a o ∧ (pt lg a o = bt lg m k p a → codL m (bo lg m k p a) ≤ codL m o)
  | 0, p, a, [], _, _, _ => ⟨Nat.zero_le _, fun _ => Nat.le_refl _⟩
  | 0, p, a, x :: o, _, hl, _ => by rw [List.length_cons] at hl; omega
  | k + 1, p, a, [], _, hl, _ => by cases hl
  | k + 1, p, a, x :: o, hk, hl, hc => by
    have hl : o.length = k := Nat.succ.inj hl
    obtain ⟨hx, hp⟩ := cov_head hk hl hc
    have hcx : cnt (rem p x) m = k := by
      have := cnt_rem (b := x) m hp
      rw [if_pos hx] at this; omega
    obtain ⟨g1, g2⟩ := lex_first (lg := lg) k (rem p x) x o hcx hl (cov_tail hc)
    rw [bt, bo, pt]
    cases ha : aminP (fun b => lg a b + bt lg m k (rem p b) b) p m with
    | none => have := aminP_none m ha x hx; rw [hp] at this; cases this
    | some b =>
      obtain ⟨f1, f2⟩ := aminP_least m b ha
      have f3 := f1 x hx hp
      dsimp only at f3 ⊢
      refine ⟨by omega, fun e => ?_⟩
      have hbx : ¬ x < b := fun q => by have := f2 x q hp; omega
      have hcb := cnt_some ha
      have hlb : (bo lg m k (rem p b) b).length = k := BO_len k (rem p b) b (by omega)
      have hmb : codL m (bo lg m k (rem p b) b) < m ^ k := by
        have h := codL_lt (m := m) (bo lg m k (rem p b) b) (fun y hy => (bo_mem k _ _ y hy).1)
        rw [hlb] at h; exact h
      rw [codL, codL, hlb, hl]
      by_cases hb : b = x
      · subst hb
        have := g2 (by omega)
        omega
      · have h8 := Nat.mul_le_mul_right (m ^ k) (show b + 1 ≤ x by omega)
        rw [Nat.succ_mul] at h8
        omega
theorem bo_cov {lg : Nat → Nat → Nat} {m : Nat} : ∀ (k : Nat) (p : Nat → Bool) (a y : Nat), cnt p m = k → y < m → p y = true → y ∈ bo lg m k p a
  | 0, p, a, y, hk, hy, hp => by
    have := cnt_rem (b := y) m hp
    rw [if_pos hy] at this; omega
  | k + 1, p, a, y, hk, hy, hp => by
    rw [bo]
    cases ha : aminP (fun b => lg a b + bt lg m k (rem p b) b) p m with
    | none => have := aminP_none m ha y hy; rw [hp] at this; cases this
    | some b =>
      have hcb := cnt_some ha
      by_cases e : y = b
      · rw [e]; exact List.mem_cons_self
      · exact List.mem_cons_of_mem _ (bo_cov k (rem p b) b y (by omega) hy (by unfold rem; rw [hp]; simp [e]))
/-- the number of the best order -/
def bcod (lg : Nat → Nat → Nat) (m : Nat) : Nat := codL m (BO lg m (np 0) 7)
def covs (m : Nat) (o : List Nat) : Prop := ∀ y, y < m → y ∈ o
theorem cnt_np (m : Nat) : cnt (np 0) m = m := by rw [np_0, cnt_all]
theorem best_ge {lg : Nat → Nat → Nat} {m : Nat} {o : List Nat} (hl : o.length = m) (h : covs m o) : BT lg m (np 0) 7 ≤ pt lg 7 o ∧ (pt lg 7 o = BT lg m (np 0) 7 → bcod lg m ≤ codL m o) := by
  unfold BT bcod BO
  exact lex_first _ (np 0) 7 o rfl (by rw [cnt_np]; exact hl) (fun y hy _ => h y hy)
theorem best_c {lg : Nat → Nat → Nat} {m c : Nat} (hc : c < m ^ m) (h : covs m (dgs m m c)) : BT lg m (np 0) 7 ≤ pt lg 7 (dgs m m c) ∧ (pt lg 7 (dgs m m c) = BT lg m (np 0) 7 → bcod lg m ≤ c) := by
  obtain ⟨h1, h2⟩ := best_ge (lg := lg) (dgs_len m c) h
  refine ⟨h1, fun e => ?_⟩
  have := h2 e
  rw [cod_dgs, Nat.mod_eq_of_lt hc] at this; exact this
theorem BO_lt {lg : Nat → Nat → Nat} {m : Nat} : ∀ x, x ∈ BO lg m (np 0) 7 → x < m := fun _ h => (BO_mem h).1
theorem BO_ln {lg : Nat → Nat → Nat} {m : Nat} : (BO lg m (np 0) 7).length = m := by rw [BO_length, cnt_np]
theorem bcod_lt {lg : Nat → Nat → Nat} {m : Nat} : bcod lg m < m ^ m := by
  have h := codL_lt (BO lg m (np 0) 7) (fun x hx => BO_lt x hx)
  rw [BO_ln] at h; exact h
theorem bcod_d {lg : Nat → Nat → Nat} {m : Nat} : dgs m m (bcod lg m) = BO lg m (np 0) 7 := by
  have h := dgs_cod (BO lg m (np 0) 7) 0 (fun x hx => BO_lt x hx)
  rw [Nat.mul_zero, Nat.add_zero, BO_ln] at h; exact h
theorem bcod_c {lg : Nat → Nat → Nat} {m : Nat} : covs m (dgs m m (bcod lg m)) := by
  rw [bcod_d]
  intro y hy
  exact bo_cov _ (np 0) 7 y rfl hy (by rw [np_0])
/-- the digits that were met, as bits -/
def mts (m c : Nat) : Nat → Nat
  | 0 => 0
  | s + 1 => mts m c s ||| 2 ^ (c / m ^ s % m)
theorem mts_bit {m c x : Nat} : ∀ s, (mts m c s).testBit x = true ↔ ∃ i, i < s ∧ c / m ^ i % m = x
  | 0 => by
    rw [mts, Nat.zero_testBit]
    exact ⟨fun h => (by cases h), fun ⟨i, h, _⟩ => absurd h (Nat.not_lt_zero i)⟩
  | s + 1 => by
    rw [mts, Nat.testBit_or, Nat.testBit_two_pow, Bool.or_eq_true, mts_bit s, decide_eq_true_eq]
    refine ⟨fun h => ?_, fun ⟨i, h, e⟩ => ?_⟩
    · rcases h with ⟨i, h, e⟩ | e
      · exact ⟨i, by omega, e⟩
      · exact ⟨s, Nat.lt_succ_self s, e⟩
    · by_cases g : i = s
      · rw [g] at e; exact Or.inr e
      · exact Or.inl ⟨i, by omega, e⟩
theorem mts_full {m c : Nat} (hm : 0 < m) : mts m c m = 2 ^ m - 1 ↔ covs m (dgs m m c) := by
  constructor
  · intro h y hy
    rw [dgs_mem, ← mts_bit, h, Nat.testBit_two_pow_sub_one]
    exact decide_eq_true hy
  · intro h
    refine Nat.eq_of_testBit_eq (fun i => ?_)
    rw [Nat.testBit_two_pow_sub_one]
    by_cases hi : i < m
    · rw [decide_eq_true hi]
      have := h i hi
      rw [dgs_mem] at this
      exact mts_bit m |>.mpr this
    · rw [decide_eq_false hi]
      cases hb : (mts m c m).testBit i with
      | false => rfl
      | true =>
        obtain ⟨s, -, e⟩ := (mts_bit m).mp hb
        have := Nat.mod_lt (c / m ^ s) hm
        omega
theorem mts_lt {m c : Nat} (hm : 0 < m) : ∀ s, mts m c s < 2 ^ m
  | 0 => Nat.pow_pos (by decide)
  | s + 1 => by
    rw [mts]
    exact Nat.or_lt_two_pow (mts_lt hm s) (Nat.pow_lt_pow_right (by decide) (Nat.mod_lt _ hm))
/-! times of rows of jobs -/
def jl (L O : List Nat) : List Nat := O.map (fun i => L.getD i 0)
theorem jl_len {L O : List Nat} : (jl L O).length = O.length := List.length_map _
theorem jl_get {L O : List Nat} {i : Nat} (h : i < O.length) : (jl L O).getD i 0 = L.getD (O.getD i 0) 0 := by
  unfold jl
  rw [List.getD_eq_getElem?_getD, List.getElem?_map, List.getElem?_eq_getElem h, List.getD_eq_getElem?_getD (l := O), List.getElem?_eq_getElem h]; rfl
theorem jl_mem {L O : List Nat} {x : Nat} (h : ∀ i, i ∈ O → i < L.length) (hx : x ∈ jl L O) : x ∈ L := by
  obtain ⟨i, h1, rfl⟩ := List.mem_map.mp hx
  exact getD_mem (h i h1)
def tmJ (pa sp tr le : Nat) (b jf : Nat → Nat) : Nat → List Nat → Nat
  | _, [] => 0
  | P, x :: R => legT pa sp tr le b P (jf x) + tmJ pa sp tr le b jf (b (jf x + 1)) R
theorem tmJ_pt {mk tr le : Nat → Nat} {bo : Nat → Nat → Nat} {jf : Nat → Nat} {j t P : Nat} {L : List Nat} (h7 : L.length ≤ 7) : ∀ (O : List Nat) (a : Nat), (∀ i, i ∈ O → i < L.length) → tmJ (zpa (mk j)) (zsp (mk j)) (tr t) (le t) (bo t) jf (if a = 7 then P else bo t (jf (L.getD a 0) + 1)) (jl L O) = pt (LG mk tr le bo jf j t P L) a O
  | [], _, _ => rfl
  | x :: O, a, h => by
    have hx : x < L.length := h x List.mem_cons_self
    have ih := tmJ_pt (mk := mk) (tr := tr) (le := le) (bo := bo) (jf := jf) (j := j) (t := t) (P := P) h7 O x (fun i hi => h i (List.mem_cons_of_mem _ hi))
    rw [if_neg (by omega)] at ih
    show tmJ _ _ _ _ _ _ _ (L.getD x 0 :: jl L O) = _
    rw [tmJ, pt, ih, LG_in hx]; rfl
theorem tmJ_7 {mk tr le : Nat → Nat} {bo : Nat → Nat → Nat} {jf : Nat → Nat} {j t P : Nat} {L O : List Nat} (h7 : L.length ≤ 7) (h : ∀ i, i ∈ O → i < L.length) : tmJ (zpa (mk j)) (zsp (mk j)) (tr t) (le t) (bo t) jf P (jl L O) = pt (LG mk tr le bo jf j t P L) 7 O := by
  have := tmJ_pt (mk := mk) (tr := tr) (le := le) (bo := bo) (jf := jf) (j := j) (t := t) (P := P) h7 O 7 h
  rwa [if_pos rfl] at this
/-- -101, -102, -103 -/
def cX (K : Nat) : Int32 := match K with
  | 1 => (-101)
  | 2 => (-102)
  | _ => (-103)
theorem alq_in {le k a q : Nat} {h : Int32} (h0 : 0 < le) (hr : k % le + 1 < le) (hq : q = k / le) (ha : a = alq le k) (he : q % 2 = 0 → h = nI 1) (ho : ¬ q % 2 = 0 → h = -1) : nI a + h = nI (alq le (k + 1)) := by
  obtain ⟨e1, e2⟩ := (nx_div (le := le) (k := k) h0).2 hr
  subst hq; subst ha
  unfold alq
  rw [e1, e2]
  by_cases g : k / le % 2 = 0
  · rw [if_pos g, if_pos g, he g, nI_add]
  · rw [if_neg g, if_neg g, ho g, show le - 1 - k % le = le - 1 - (k % le + 1) + 1 by omega, pk_m1]
theorem alq_out {le k : Nat} (h0 : 0 < le) (hr : k % le + 1 = le) : alq le (k + 1) = alq le k := by
  obtain ⟨e1, e2⟩ := (nx_div (le := le) (k := k) h0).1 hr
  unfold alq
  rw [e1, e2]
  by_cases g : k / le % 2 = 0
  · rw [if_pos g, if_neg (by omega)]; omega
  · rw [if_neg g, if_pos (by omega)]; omega
theorem zneg_sub {a b : Nat} (h : a ≤ b) : -(nI a - nI b) = nI (b - a) := by
  rw [← pk_sub h]
  generalize nI a = x
  generalize nI b = y
  rw [← Int32.toBitVec_inj]
  simp only [Int32.toBitVec_neg, Int32.toBitVec_sub]
  generalize x.toBitVec = u
  generalize y.toBitVec = v
  bv_omega
theorem pow_self5 : ∀ {m : Nat}, m ≤ 5 → m ^ m ≤ 3125 := by
  intro m h
  rcases m with _ | _ | _ | _ | _ | _ | m
  all_goals first | decide | omega
theorem insIdx_get : ∀ (l : List Nat) (a x k : Nat), a ≤ l.length → k ≤ l.length → (l.insertIdx a x).getD k 0 = if k = a then x else if k < a then l.getD k 0 else l.getD (k - 1) 0
  | l, 0, x, 0, _, _ => by rw [List.insertIdx_zero]; rfl
  | l, 0, x, k + 1, _, _ => by rw [List.insertIdx_zero, if_neg (by omega), if_neg (by omega)]; rfl
  | [], a + 1, x, k, h, _ => absurd h (Nat.not_succ_le_zero a)
  | y :: l, a + 1, x, 0, _, _ => by rw [List.insertIdx_succ_cons, if_neg (by omega), if_pos (by omega)]; rfl
  | y :: l, a + 1, x, k + 1, h, h2 => by
    rw [List.insertIdx_succ_cons, List.getD_cons_succ, insIdx_get l a x k (Nat.le_of_succ_le_succ h) (Nat.le_of_succ_le_succ h2)]
    by_cases e : k = a
    · rw [if_pos e, if_pos (show k + 1 = a + 1 by omega)]
    · rw [if_neg e, if_neg (show ¬ k + 1 = a + 1 by omega)]
      by_cases e2 : k < a
      · rw [if_pos e2, if_pos (show k + 1 < a + 1 by omega)]; rfl
      · rw [if_neg e2, if_neg (show ¬ k + 1 < a + 1 by omega)]
        obtain ⟨j, rfl⟩ : ∃ j, k = j + 1 := ⟨k - 1, by omega⟩
        rfl
theorem insL_of {lg : Nat → Nat → Nat} {nn b : Nat} (h : aminP (fun q => pt lg 7 ((insL lg nn).insertIdx q nn)) (fun _ => true) (nn + 1) = some b) : insL lg (nn + 1) = (insL lg nn).insertIdx b nn ∧ b ≤ nn := by
  have h2 := (aminP_mem _ b h).1
  refine ⟨?_, by omega⟩
  rw [insL, ins, ipos, insL_len, h]; rfl
theorem ins_lt {lg : Nat → Nat → Nat} {nn a mn : Nat} (h : nn < mn) : ∀ i, i ∈ (insL lg nn).insertIdx a nn → i < mn := fun i hi => by
  rcases insertIdx_mem _ _ _ _ hi with e | e
  · have := insL_mem nn i e; omega
  · omega
theorem ins_ln {lg : Nat → Nat → Nat} {nn a : Nat} (h : a ≤ nn) : ((insL lg nn).insertIdx a nn).length = nn + 1 := by
  rw [List.length_insertIdx_of_le_length (by rw [insL_len]; exact h), insL_len]
