/-! the best order, by sets of what is left: pure -/
def am1 (t : Nat → Nat) (acc : Option Nat) (k : Nat) : Option Nat := match acc with
  | none => some k
  | some j => if t k < t j then some k else some j
/-- of the numbers below n with p the first one where t is least -/
def aminP (t : Nat → Nat) (p : Nat → Bool) : Nat → Option Nat
  | 0 => none
  | n + 1 => if p n then am1 t (aminP t p n) n else aminP t p n
def cnt (p : Nat → Bool) : Nat → Nat
  | 0 => 0
  | n + 1 => cnt p n + if p n then 1 else 0
def rem (p : Nat → Bool) (b : Nat) : Nat → Bool := fun x => p x && !(x == b)
theorem aminP_y {t : Nat → Nat} {p : Nat → Bool} {n : Nat} (h : p n = true) : aminP t p (n + 1) = am1 t (aminP t p n) n := by simp [aminP, h]
theorem aminP_n {t : Nat → Nat} {p : Nat → Bool} {n : Nat} (h : p n = false) : aminP t p (n + 1) = aminP t p n := by simp [aminP, h]
theorem aminP_mem {t : Nat → Nat} {p : Nat → Bool} : ∀ (n b : Nat), aminP t p n = some b → b < n ∧ p b = true
  | 0, b, h => by cases h
  | n + 1, b, h => by
    cases hp : p n with
    | false =>
      rw [aminP_n hp] at h
      obtain ⟨h1, h2⟩ := aminP_mem n b h
      exact ⟨by omega, h2⟩
    | true =>
      rw [aminP_y hp] at h
      cases ha : aminP t p n with
      | none =>
        rw [ha] at h; cases h
        exact ⟨by omega, hp⟩
      | some j =>
        rw [ha] at h
        unfold am1 at h
        dsimp only at h
        split at h
        · cases h; exact ⟨by omega, hp⟩
        · have e : some b = some b ∧ _ = b := ⟨rfl, Option.some.inj h⟩
          rw [e.2] at ha
          obtain ⟨h1, h2⟩ := aminP_mem n b ha
          exact ⟨by omega, h2⟩
theorem aminP_none {t : Nat → Nat} {p : Nat → Bool} : ∀ (n : Nat), aminP t p n = none → ∀ x, x < n → p x = false
  | 0, _, x, hx => by omega
  | n + 1, h, x, hx => by
    cases hp : p n with
    | false =>
      rw [aminP_n hp] at h
      by_cases e : x = n
      · rw [e]; exact hp
      · exact aminP_none n h x (by omega)
    | true =>
      rw [aminP_y hp] at h
      cases ha : aminP t p n with
      | none => rw [ha] at h; cases h
      | some j =>
        rw [ha] at h
        unfold am1 at h
        dsimp only at h
        split at h <;> cases h
theorem aminP_least {t : Nat → Nat} {p : Nat → Bool} : ∀ (n b : Nat), aminP t p n = some b → (∀ x, x < n → p x = true → t b ≤ t x) ∧ ∀ x, x < b → p x = true → t b < t x
  | 0, b, h => by cases h
  | n + 1, b, h => by
    cases hp : p n with
    | false =>
      rw [aminP_n hp] at h
      obtain ⟨h1, h2⟩ := aminP_least n b h
      refine ⟨fun x hx hq => ?_, h2⟩
      by_cases e : x = n
      · rw [e, hp] at hq; cases hq
      · exact h1 x (by omega) hq
    | true =>
      rw [aminP_y hp] at h
      cases ha : aminP t p n with
      | none =>
        rw [ha] at h; cases h
        have h0 := aminP_none n ha
        refine ⟨fun x hx hq => ?_, fun x hx hq => ?_⟩
        · by_cases e : x = n
          · rw [e]; exact Nat.le_refl _
          · rw [h0 x (by omega)] at hq; cases hq
        · rw [h0 x hx] at hq; cases hq
      | some j =>
        rw [ha] at h
        obtain ⟨h1, h2⟩ := aminP_least n j ha
        obtain ⟨hj, -⟩ := aminP_mem n j ha
        unfold am1 at h
        dsimp only at h
        split at h
        · rename_i hlt
          cases h
          refine ⟨fun x hx hq => ?_, fun x hx hq => ?_⟩
          · by_cases e : x = n
            · rw [e]; exact Nat.le_refl _
            · have := h1 x (by omega) hq; omega
          · have := h1 x hx hq; omega
        · rename_i hlt
          cases h
          refine ⟨fun x hx hq => ?_, h2⟩
          by_cases e : x = n
          · rw [e]; omega
          · exact h1 x (by omega) hq
theorem aminP_congr {t u : Nat → Nat} {p q : Nat → Bool} : ∀ (n : Nat), (∀ x, x < n → p x = true → t x = u x) → (∀ x, x < n → p x = q x) → aminP t p n = aminP u q n
  | 0, _, _ => rfl
  | n + 1, h1, h2 => by
    have ih := aminP_congr n (fun x hx => h1 x (by omega)) (fun x hx => h2 x (by omega))
    have e := h2 n (by omega)
    cases hp : p n with
    | false => rw [aminP_n hp, aminP_n (e.symm.trans hp), ih]
    | true =>
      rw [aminP_y hp, aminP_y (e.symm.trans hp), ← ih]
      have e1 := h1 n (by omega) hp
      cases ha : aminP t p n with
      | none => rfl
      | some j =>
        obtain ⟨hj, hpj⟩ := aminP_mem n j ha
        simp only [am1, e1, h1 j (by omega) hpj]
theorem cnt_congr {p q : Nat → Bool} : ∀ (n : Nat), (∀ x, x < n → p x = q x) → cnt p n = cnt q n
  | 0, _ => rfl
  | n + 1, h => by rw [cnt, cnt, cnt_congr n (fun x hx => h x (by omega)), h n (by omega)]
theorem cnt_le {p : Nat → Bool} : ∀ (n : Nat), cnt p n ≤ n
  | 0 => Nat.le_refl 0
  | n + 1 => by have ih := cnt_le (p := p) n; rw [cnt]; split <;> omega
theorem cnt_rem {p : Nat → Bool} {b : Nat} : ∀ (n : Nat), p b = true → cnt (rem p b) n + (if b < n then 1 else 0) = cnt p n
  | 0, _ => by simp [cnt]
  | n + 1, h => by
    have ih := cnt_rem (p := p) (b := b) n h
    rw [cnt, cnt]
    by_cases e : n = b
    · subst e
      have hr : rem p n n = false := by simp [rem]
      rw [hr, h]
      rw [if_neg (by omega)] at ih
      simp; omega
    · have hr : rem p b n = p n := by simp [rem, e]
      have hlt : (if b < n + 1 then 1 else 0) = (if b < n then 1 else 0) := by
        by_cases h9 : b < n
        · rw [if_pos h9, if_pos (by omega)]
        · rw [if_neg h9, if_neg (by omega)]
      rw [hr, hlt, ← ih, Nat.add_right_comm]
theorem cnt_none {t : Nat → Nat} {p : Nat → Bool} {n : Nat} (h : cnt p n = 0) : aminP t p n = none := by
  cases ha : aminP t p n with
  | none => rfl
  | some b =>
    obtain ⟨h1, h2⟩ := aminP_mem n b ha
    have h3 := cnt_rem (b := b) n h2
    rw [if_pos h1] at h3; omega
theorem cnt_some {t : Nat → Nat} {p : Nat → Bool} {n b : Nat} (h : aminP t p n = some b) : cnt (rem p b) n + 1 = cnt p n := by
  obtain ⟨h1, h2⟩ := aminP_mem n b h
  have h3 := cnt_rem (b := b) n h2
  rw [if_pos h1] at h3; exact h3
theorem cnt_pos {t : Nat → Nat} {p : Nat → Bool} {n : Nat} (h : aminP t p n = none) : cnt p n = 0 := by
  have h0 := aminP_none n h
  have : ∀ k, k ≤ n → cnt p k = 0 := by
    intro k
    induction k with
    | zero => intro _; rfl
    | succ k ih => intro hk; rw [cnt, ih (by omega), h0 k (by omega)]; rfl
  exact this n (Nat.le_refl n)
/-- the time of the best order of what is left, k of them -/
def bt (lg : Nat → Nat → Nat) (m : Nat) : Nat → (Nat → Bool) → Nat → Nat
  | 0, _, _ => 0
  | k + 1, p, a => match aminP (fun b => lg a b + bt lg m k (rem p b) b) p m with
    | none => 0
    | some b => lg a b + bt lg m k (rem p b) b
/-- the best order itself -/
def bo (lg : Nat → Nat → Nat) (m : Nat) : Nat → (Nat → Bool) → Nat → List Nat
  | 0, _, _ => []
  | k + 1, p, a => match aminP (fun b => lg a b + bt lg m k (rem p b) b) p m with
    | none => []
    | some b => b :: bo lg m k (rem p b) b
/-- the time of an order, from a on -/
def pt (lg : Nat → Nat → Nat) : Nat → List Nat → Nat
  | _, [] => 0
  | a, b :: r => lg a b + pt lg b r
def BT (lg : Nat → Nat → Nat) (m : Nat) (p : Nat → Bool) (a : Nat) : Nat := bt lg m (cnt p m) p a
def BO (lg : Nat → Nat → Nat) (m : Nat) (p : Nat → Bool) (a : Nat) : List Nat := bo lg m (cnt p m) p a
theorem bt_congr {lg : Nat → Nat → Nat} {m : Nat} : ∀ (k : Nat) {p q : Nat → Bool} (a : Nat), (∀ x, x < m → p x = q x) → bt lg m k p a = bt lg m k q a ∧ bo lg m k p a = bo lg m k q a
  | 0, _, _, _, _ => ⟨rfl, rfl⟩
  | k + 1, p, q, a, h => by
    have hr : ∀ b x, x < m → rem p b x = rem q b x := fun b x hx => by simp [rem, h x hx]
    have e : aminP (fun b => lg a b + bt lg m k (rem p b) b) p m = aminP (fun b => lg a b + bt lg m k (rem q b) b) q m :=
      aminP_congr m (fun x _ _ => by rw [(bt_congr k x (hr x)).1]) h
    rw [bt, bt, bo, bo, e]
    cases aminP (fun b => lg a b + bt lg m k (rem q b) b) q m with
    | none => exact ⟨rfl, rfl⟩
    | some b => exact ⟨by dsimp only; rw [(bt_congr k b (hr b)).1], by dsimp only; rw [(bt_congr k b (hr b)).2]⟩
theorem BT_congr {lg : Nat → Nat → Nat} {m : Nat} {p q : Nat → Bool} (a : Nat) (h : ∀ x, x < m → p x = q x) : BT lg m p a = BT lg m q a := by
  unfold BT; rw [cnt_congr m h]; exact (bt_congr _ a h).1
theorem BO_congr {lg : Nat → Nat → Nat} {m : Nat} {p q : Nat → Bool} (a : Nat) (h : ∀ x, x < m → p x = q x) : BO lg m p a = BO lg m q a := by
  unfold BO; rw [cnt_congr m h]; exact (bt_congr _ a h).2
theorem BT_none {lg : Nat → Nat → Nat} {m : Nat} {p : Nat → Bool} {a : Nat} {t : Nat → Nat} (h : aminP t p m = none) : BT lg m p a = 0 ∧ BO lg m p a = [] := by
  unfold BT BO; rw [cnt_pos h]; exact ⟨rfl, rfl⟩
theorem bt_t {lg : Nat → Nat → Nat} {m k : Nat} {p : Nat → Bool} {a : Nat} (hk : cnt p m = k + 1) : aminP (fun b => lg a b + bt lg m k (rem p b) b) p m = aminP (fun b => lg a b + BT lg m (rem p b) b) p m :=
  aminP_congr m (fun x hx hp => by
    have h3 := cnt_rem (b := x) m hp
    rw [if_pos hx] at h3
    unfold BT; rw [show cnt (rem p x) m = k by omega]) (fun _ _ => rfl)
theorem BT_some {lg : Nat → Nat → Nat} {m : Nat} {p : Nat → Bool} {a b : Nat} (h : aminP (fun b => lg a b + BT lg m (rem p b) b) p m = some b) : BT lg m p a = lg a b + BT lg m (rem p b) b ∧ BO lg m p a = b :: BO lg m (rem p b) b := by
  have hc := cnt_some h
  have e := bt_t (lg := lg) (a := a) (k := cnt (rem p b) m) (p := p) hc.symm
  have h2 := e.trans h
  constructor
  · conv => lhs; unfold BT
    rw [← hc, bt, h2]; rfl
  · conv => lhs; unfold BO
    rw [← hc, bo, h2]; rfl
theorem BT_bound {lg : Nat → Nat → Nat} {m c : Nat} (hb : ∀ a b, b < m → lg a b ≤ c) : ∀ (k : Nat) (p : Nat → Bool) (a : Nat), bt lg m k p a ≤ k * c
  | 0, _, _ => Nat.zero_le _
  | k + 1, p, a => by
    rw [bt]
    cases h : aminP (fun b => lg a b + bt lg m k (rem p b) b) p m with
    | none => exact Nat.zero_le _
    | some b =>
      dsimp only
      have h1 := hb a b (aminP_mem m b h).1
      have h2 := BT_bound hb k (rem p b) b
      rw [Nat.succ_mul]; omega
theorem pt_bo {lg : Nat → Nat → Nat} {m : Nat} : ∀ (k : Nat) (p : Nat → Bool) (a : Nat), pt lg a (bo lg m k p a) = bt lg m k p a
  | 0, _, _ => rfl
  | k + 1, p, a => by
    rw [bo, bt]
    cases h : aminP (fun b => lg a b + bt lg m k (rem p b) b) p m with
    | none => rfl
    | some b => dsimp only; rw [pt, pt_bo k]
theorem pt_BO {lg : Nat → Nat → Nat} {m : Nat} {p : Nat → Bool} {a : Nat} : pt lg a (BO lg m p a) = BT lg m p a := pt_bo _ _ _
theorem bo_mem {lg : Nat → Nat → Nat} {m : Nat} : ∀ (k : Nat) (p : Nat → Bool) (a x : Nat), x ∈ bo lg m k p a → x < m ∧ p x = true
  | 0, _, _, _, h => by cases h
  | k + 1, p, a, x, h => by
    rw [bo] at h
    cases ha : aminP (fun b => lg a b + bt lg m k (rem p b) b) p m with
    | none => rw [ha] at h; cases h
    | some b =>
      rw [ha] at h
      rcases List.mem_cons.mp h with e | h
      · rw [e]; exact aminP_mem m b ha
      · obtain ⟨h1, h2⟩ := bo_mem k (rem p b) b x h
        exact ⟨h1, by simp only [rem, Bool.and_eq_true] at h2; exact h2.1⟩
theorem BO_len {lg : Nat → Nat → Nat} {m : Nat} : ∀ (k : Nat) (p : Nat → Bool) (a : Nat), cnt p m = k → (bo lg m k p a).length = k
  | 0, _, _, _ => rfl
  | k + 1, p, a, hk => by
    rw [bo]
    cases ha : aminP (fun b => lg a b + bt lg m k (rem p b) b) p m with
    | none => have := cnt_pos ha; omega
    | some b =>
      have h2 := cnt_some ha
      dsimp only
      rw [List.length_cons, BO_len k (rem p b) b (by omega)]
theorem BO_length {lg : Nat → Nat → Nat} {m : Nat} {p : Nat → Bool} {a : Nat} : (BO lg m p a).length = cnt p m := BO_len _ _ _ rfl
theorem BO_mem {lg : Nat → Nat → Nat} {m : Nat} {p : Nat → Bool} {a x : Nat} (h : x ∈ BO lg m p a) : x < m ∧ p x = true := bo_mem _ _ _ _ h
theorem cnt_all : ∀ (n : Nat), cnt (fun _ => true) n = n
  | 0 => rfl
  | n + 1 => by rw [cnt, cnt_all n]; rfl
/-- what is left, by a number whose bits are what was read -/
def np (r : Nat) : Nat → Bool := fun x => !r.testBit x
theorem np_or {r b : Nat} (x : Nat) : np (r ||| 2 ^ b) x = rem (np r) b x := by
  unfold np rem
  rw [Nat.testBit_or, Nat.testBit_two_pow]
  by_cases e : x = b
  · rw [e]; simp
  · have e2 : ¬ b = x := fun q => e q.symm
    simp [e, e2]
theorem np_gt {r b : Nat} (h : np r b = true) : r < r ||| 2 ^ b := by
  rcases Nat.lt_or_ge r (r ||| 2 ^ b) with q | q
  · exact q
  · have h1 : r ≤ r ||| 2 ^ b := Nat.left_le_or
    have e : r ||| 2 ^ b = r := by omega
    have h2 : (r ||| 2 ^ b).testBit b = true := by rw [Nat.testBit_or, Nat.testBit_two_pow_self]; simp
    rw [e] at h2
    simp [np, h2] at h
theorem zshl : ∀ c, c < 32 → nI 1 <<< (nI c &&& 31) = nI (2 ^ c) := by decide +kernel
theorem zor (a b : Nat) : nI a ||| nI b = nI (a ||| b) := by
  rw [← Int32.toBitVec_inj]
  show BitVec.ofNat 32 a ||| BitVec.ofNat 32 b = BitVec.ofNat 32 (a ||| b)
  rw [BitVec.ofNat_or]
theorem zshr {n k : Nat} (h : n < 2 ^ 31) (hk : k < 32) : nI n >>> (nI k &&& 31) = nI (n / 2 ^ k) := by
  have : ∀ k, k < 32 → ((nI k &&& 31).toBitVec.smod 32).toNat = k := by decide +kernel
  exact pk_shrN h _ k (this k hk)
theorem np_bit {r b : Nat} : np r b = decide (r / 2 ^ b % 2 = 0) := by
  simp only [np, Nat.testBit_eq_decide_div_mod_eq]
  rcases Nat.mod_two_eq_zero_or_one (r / 2 ^ b) with h | h <;> simp [h]
theorem BT_eq {lg : Nat → Nat → Nat} {m : Nat} {p : Nat → Bool} {a : Nat} : BT lg m p a = match aminP (fun b => lg a b + BT lg m (rem p b) b) p m with | none => 0 | some b => lg a b + BT lg m (rem p b) b := by
  cases h : aminP (fun b => lg a b + BT lg m (rem p b) b) p m with
  | none => exact (BT_none h).1
  | some b => exact (BT_some h).1
theorem BT_le {lg : Nat → Nat → Nat} {m c : Nat} (hb : ∀ a b, b < m → lg a b ≤ c) (p : Nat → Bool) (a : Nat) : BT lg m p a ≤ m * c :=
  Nat.le_trans (BT_bound hb _ p a) (Nat.mul_le_mul_right c (cnt_le m))
theorem np_or' {r b : Nat} : np (r ||| 2 ^ b) = rem (np r) b := funext np_or
theorem np_0 : np 0 = fun _ => true := by funext x; simp [np]
theorem drop_getD {L : List Nat} {i : Nat} (h : i < L.length) : L.drop i = L.getD i 0 :: L.drop (i + 1) := by
  rw [List.drop_eq_getElem_cons h, List.getD_eq_getElem?_getD, List.getElem?_eq_getElem h]; rfl
theorem getD_mem {L : List Nat} {i : Nat} (h : i < L.length) : L.getD i 0 ∈ L := by
  rw [List.getD_eq_getElem?_getD, List.getElem?_eq_getElem h]; exact List.getElem_mem h
theorem pow7 {c : Nat} (h : c ≤ 7) : 2 ^ c ≤ 128 := Nat.pow_le_pow_right (by omega) h
theorem pt_le {lg : Nat → Nat → Nat} {c : Nat} (hb : ∀ a b, lg a b ≤ c) : ∀ (L : List Nat) (a : Nat), pt lg a L ≤ L.length * c
  | [], _ => Nat.zero_le _
  | b :: r, a => by
    have h1 := hb a b
    have h2 := pt_le hb r b
    rw [pt, List.length_cons, Nat.succ_mul]; omega
