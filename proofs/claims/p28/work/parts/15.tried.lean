/-! of all orders the least is the best one's: pure -/
theorem filt_rem {m : Nat} {p : Nat → Bool} {b : Nat} : ((List.range m).filter p).filter (fun x => !(x == b)) = (List.range m).filter (rem p b) := by
  rw [List.filter_filter]
  refine List.filter_congr (fun x _ => ?_)
  unfold rem
  rw [Bool.and_comm]
theorem filt_mem {m b : Nat} {p : Nat → Bool} : b ∈ (List.range m).filter p ↔ b < m ∧ p b = true := by
  rw [List.mem_filter, List.mem_range]
theorem lex_mem {lg : Nat → Nat → Nat} {m : Nat} : ∀ (k : Nat) (p : Nat → Bool) (a : Nat), cnt p m = k → bo lg m k p a ∈ lexL k ((List.range m).filter p)
  | 0, _, _, _ => List.mem_cons_self
  | k + 1, p, a, hk => by
    rw [bo, lexL]
    cases h : aminP (fun b => lg a b + bt lg m k (rem p b) b) p m with
    | none => have := cnt_pos h; omega
    | some b =>
      have h2 := cnt_some h
      refine List.mem_flatMap.mpr ⟨b, filt_mem.mpr (aminP_mem m b h), ?_⟩
      rw [filt_rem]
      exact List.mem_map.mpr ⟨_, lex_mem k (rem p b) b (by omega), rfl⟩
theorem lex_ge {lg : Nat → Nat → Nat} {m : Nat} : ∀ (k : Nat) (p : Nat → Bool) (a : Nat) (L : List Nat), L ∈ lexL k ((List.range m).filter p) → bt lg m k p a ≤ pt lg a L
  | 0, _, _, _, _ => Nat.zero_le _
  | k + 1, p, a, L, h => by
    rw [lexL] at h
    obtain ⟨b, hb, h⟩ := List.mem_flatMap.mp h
    rw [filt_rem] at h
    obtain ⟨L2, h3, rfl⟩ := List.mem_map.mp h
    have ih := lex_ge (lg := lg) k (rem p b) b L2 h3
    obtain ⟨hbm, hbp⟩ := filt_mem.mp hb
    rw [bt, pt]
    cases ha : aminP (fun b => lg a b + bt lg m k (rem p b) b) p m with
    | none => have := aminP_none m ha b hbm; rw [hbp] at this; cases this
    | some c =>
      have h4 := (aminP_least m c ha).1 b hbm hbp
      dsimp only at h4 ⊢
      omega
theorem lex_best {lg : Nat → Nat → Nat} {m : Nat} : BO lg m (np 0) 7 ∈ lexL m (List.range m) ∧ ∀ L, L ∈ lexL m (List.range m) → BT lg m (np 0) 7 ≤ pt lg 7 L := by
  have e : (List.range m).filter (np 0) = List.range m := by
    rw [np_0]; exact List.filter_eq_self.mpr (fun _ _ => rfl)
  have c : cnt (np 0) m = m := by rw [np_0, cnt_all]
  refine ⟨?_, fun L h => ?_⟩
  · have h := lex_mem (lg := lg) m (np 0) 7 c
    rw [e] at h; unfold BO; rw [c]; exact h
  · unfold BT; rw [c]
    exact lex_ge m (np 0) 7 L (by rw [e]; exact h)
/-- where the least of all orders stands -/
def least (lg : Nat → Nat → Nat) (LL : List (List Nat)) (x : Nat) : Prop := (∀ L, L ∈ LL → x ≤ pt lg 7 L) ∧ ∃ L, L ∈ LL ∧ x = pt lg 7 L
theorem least_1 {lg : Nat → Nat → Nat} (L : List Nat) : least lg [L] (pt lg 7 L) := ⟨fun K h => by rw [List.mem_singleton.mp h]; exact Nat.le_refl _, L, List.mem_cons_self, rfl⟩
theorem least_snoc {lg : Nat → Nat → Nat} {LL : List (List Nat)} {x : Nat} (h : least lg LL x) (L : List Nat) : least lg (LL ++ [L]) (min x (pt lg 7 L)) := by
  obtain ⟨h1, K, h2, h3⟩ := h
  refine ⟨fun M hM => ?_, ?_⟩
  · rcases List.mem_append.mp hM with e | e
    · have := h1 M e; omega
    · rw [List.mem_singleton.mp e]; omega
  · rcases Nat.le_total x (pt lg 7 L) with e | e
    · exact ⟨K, List.mem_append_left _ h2, by rw [Nat.min_eq_left e]; exact h3⟩
    · exact ⟨L, List.mem_append_right _ List.mem_cons_self, Nat.min_eq_right e⟩
theorem least_all {lg : Nat → Nat → Nat} {m x : Nat} (h : least lg (lexL m (List.range m)) x) : x = BT lg m (np 0) 7 := by
  obtain ⟨h1, K, h2, h3⟩ := h
  obtain ⟨g1, g2⟩ := lex_best (lg := lg) (m := m)
  have k1 := h1 _ g1
  rw [pt_BO] at k1
  have k2 := g2 K h2
  omega
theorem lexOk_use {m : Nat} (h : m ≤ 7) : chk m (lexL m (List.range m)) = true ∧ (lexL m (List.range m)).length ≤ 5040 ∧ (lexL m (List.range m)).head? = some (List.range m) ∧ ∀ l, l ∈ lexL m (List.range m) → l.length = m ∧ ∀ x, x ∈ l → x < m := by
  have h0 := lexOk_all h
  unfold lexOk at h0
  simp only [Bool.and_eq_true, decide_eq_true_eq, List.all_eq_true] at h0
  obtain ⟨⟨⟨h1, h2⟩, h3⟩, h4⟩ := h0
  exact ⟨h1, h2, h3, fun l hl => h4 l hl⟩
theorem chk_mid {m : Nat} {l : List Nat} {r : List (List Nat)} : ∀ (d : List (List Nat)), chk m (d ++ l :: r) = true → chk m (l :: r) = true
  | [], h => h
  | [a], h => by
    have h : (decide (adv m a = some l) && chk m (l :: r)) = true := h
    exact (Bool.and_eq_true _ _ ▸ h).2
  | a :: b :: d, h => by
    have h : (decide (adv m a = some b) && chk m ((b :: d) ++ l :: r)) = true := h
    exact chk_mid (b :: d) (Bool.and_eq_true _ _ ▸ h).2
theorem chk_none {m : Nat} {l : List Nat} {d r : List (List Nat)} (h : chk m (d ++ l :: r) = true) (hn : adv m l = none) : r = [] := by
  have h1 := chk_mid d h
  cases r with
  | nil => rfl
  | cons b r =>
    have h1 : (decide (adv m l = some b) && chk m (b :: r)) = true := h1
    rw [Bool.and_eq_true, decide_eq_true_eq, hn] at h1
    cases h1.1
theorem chk_some {m : Nat} {l k : List Nat} {d r : List (List Nat)} (h : chk m (d ++ l :: r) = true) (hn : adv m l = some k) : ∃ r2, r = k :: r2 := by
  have h1 := chk_mid d h
  cases r with
  | nil =>
    have h1 : decide (adv m l = none) = true := h1
    rw [decide_eq_true_eq, hn] at h1; cases h1
  | cons b r =>
    have h1 : (decide (adv m l = some b) && chk m (b :: r)) = true := h1
    rw [Bool.and_eq_true, decide_eq_true_eq, hn] at h1
    exact ⟨r, by rw [Option.some.inj h1.1]⟩
theorem lswap_mem {l : List Nat} {a b x : Nat} (ha : a < l.length) (hb : b < l.length) (h : x ∈ lswap l a b) : x ∈ l := by
  unfold lswap at h
  rcases List.mem_or_eq_of_mem_set h with e | e
  · rcases List.mem_or_eq_of_mem_set e with e | e
    · exact e
    · rw [e]; exact getD_mem hb
  · rw [e]; exact getD_mem ha
