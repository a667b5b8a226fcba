/-! what the state says to the law's helpers -/
section FBO
variable {cA : Nat → ClassId} {n : Nat} {tr : Nat → Nat} {le : Nat → Nat} {sl : Nat → Nat} {mo : Nat → Option Nat} {la : Nat → Bool} {fc : Nat → Nat} {bo : Nat → Nat → Nat} {nd : Nat} {mk : Nat → Nat} {ck : Nat → Int32} {ct : Nat → Nat} {hd : Nat → Option Nat} {pq : Nat → Int32} {nj : Nat} {fw : Nat → Int32} {jf : Nat → Nat} {dl : Nat → Nat} {dn : Nat} {cf : Nat → Int32} {tf : Nat → Int32} {ff : Nat → Int32} {vf : Nat → Int32} {jj : Nat → Int32} {lt : Nat → Int32} {dd : Nat → Int32} {jt : Nat → Nat} {fin : Nat → Bool}
theorem fb_of {j t P : Nat} (hI : zI n tr le sl mo fc bo nd mk ct hd pq nj fw jf dl) (hp : pL n tr le sl mo la fc bo nd mk ck ct hd pq nj fw jf dl dn cf tf ff vf jj lt dd jt fin) (hj : j < nd) (hht : hd j = some t) (hpq : pq j = nI P) (hP : P ≤ tr t * le t) : vf (6 + j) = nI t ∧ tf t = nI (tr t) ∧ tf (4 + t) = nI (le t) ∧ vf j = nI (mk j) ∧ mk j ≤ 1 ∧ 1 ≤ tr t ∧ 1 ≤ le t ∧ tr t ≤ 8 ∧ le t ≤ 200 ∧ t < 4 ∧ j < 2 ∧ vf (8 + j) = nI P ∧ P ≤ tr t * le t ∧ fc t ≤ 6 ∧ bo t 0 = 0 ∧ (∀ k, k < fc t → bo t k ≤ bo t (k + 1) ∧ ff (6 * t + k) = nI (bo t (k + 1) - bo t k)) ∧ (∀ k, k ≤ fc t → bo t k ≤ tr t * le t) := by
  obtain ⟨h1, h2, h3, hT, hD, hJ, hd9, hW⟩ := hI
  obtain ⟨⟨k1, k2, k3⟩, ⟨c0, c1, c2, c3⟩, qT, qT0, qF, qV, qV0, qJ, qJ0, qW⟩ := hp
  obtain ⟨b1, b2, b3⟩ := (hD j hj).2.2.2 t hht
  obtain ⟨a1, a2, a3, a4, a5, a6, a7, a8, a9, a10⟩ := hT t b1
  obtain ⟨e1, e2, e3, e4, e5, e6, e7⟩ := qT t b1
  obtain ⟨v1, v2, v3, v4, v5⟩ := qV j hj
  refine ⟨by rw [v4, hht]; rfl, e1, e2, v1, (hD j hj).1, a1, by omega, a2, a4, by omega, by omega, by rw [v5 t hht, hpq], hP, e7, a8, fun k hk => ⟨Nat.le_of_lt (a9 k hk), qF t b1 k hk⟩, fun k hk => Nat.le_trans (bmono _ a9 k hk) a10⟩
theorem hR_of {t : Nat} (hp : pL n tr le sl mo la fc bo nd mk ck ct hd pq nj fw jf dl dn cf tf ff vf jj lt dd jt fin) (ht : t < n) : ∀ x, x ∈ wl fw (nI t) nj → x < 20 ∧ jj x = nI t ∧ jj (20 + x) = nI (jf x) ∧ jf x < fc t := by
  obtain ⟨⟨k1, k2, k3⟩, ⟨c0, c1, c2, c3⟩, qT, qT0, qF, qV, qV0, qJ, qJ0, qW⟩ := hp
  intro x hx
  obtain ⟨g1, g2⟩ := wl_mem hx
  obtain ⟨e1, e2, e3, e4, e5, e6, e7⟩ := qJ x g1
  rw [e7] at g2
  by_cases e : fin x = true
  · rw [if_pos e] at g2; exact absurd g2.symm (nI_nm1 (by omega))
  · rw [if_neg e] at g2
    have e9 := (nI_eq (by omega) (by omega)).mp g2
    exact ⟨by omega, by rw [e1, e9], e3, by rw [← e9]; exact e4⟩
theorem hjob_of (hp : pL n tr le sl mo la fc bo nd mk ck ct hd pq nj fw jf dl dn cf tf ff vf jj lt dd jt fin) : ∀ k, k < nj → jj k = nI (jt k) ∧ jt k < 2 ^ 31 ∧ dd k = bI (fin k) ∧ fw k = (if fin k then -1 else nI (jt k)) := by
  obtain ⟨⟨k1, k2, k3⟩, ⟨c0, c1, c2, c3⟩, qT, qT0, qF, qV, qV0, qJ, qJ0, qW⟩ := hp
  intro k hk
  obtain ⟨e1, e2, e3, e4, e5, e6, e7⟩ := qJ k hk
  exact ⟨e1, by omega, e6, e7⟩
theorem hlg_of {j t P : Nat} (hp : pL n tr le sl mo la fc bo nd mk ck ct hd pq nj fw jf dl dn cf tf ff vf jj lt dd jt fin) (ht : t < n) : ∀ O : List Nat, (∀ i, i ∈ O → i < (wl fw (nI t) nj).length) → tmJ (zpa (mk j)) (zsp (mk j)) (tr t) (le t) (bo t) jf P (jl (wl fw (nI t) nj) O) = pt (LG mk tr le bo jf j t P (wl fw (nI t) nj)) 7 O := fun O h => tmJ_7 (by have := hp.2.2.2.2.2.2.2.2.2 t ht; omega) h
theorem hpb_of {j t P : Nat} (hI : zI n tr le sl mo fc bo nd mk ct hd pq nj fw jf dl) (hp : pL n tr le sl mo la fc bo nd mk ck ct hd pq nj fw jf dl dn cf tf ff vf jj lt dd jt fin) (ht : t < n) : ∀ O : List Nat, (∀ i, i ∈ O → i < (wl fw (nI t) nj).length) → O.length ≤ (wl fw (nI t) nj).length → pt (LG mk tr le bo jf j t P (wl fw (nI t) nj)) 7 O < 2 ^ 30 := by
  have hR := hR_of hp ht
  have hw5 := hp.2.2.2.2.2.2.2.2.2 t ht
  obtain ⟨h1, h2, h3, hT, hD, hJ, hd9, hW⟩ := hI
  obtain ⟨⟨k1, k2, k3⟩, ⟨c0, c1, c2, c3⟩, qT, qT0, qF, qV, qV0, qJ, qJ0, qW⟩ := hp
  obtain ⟨a1, a2, a3, a4, a5, a6, a7, a8, a9, a10⟩ := hT t ht
  intro O h1 hl
  have h8 : tr t * le t ≤ 8 * 200 := Nat.mul_le_mul a2 a4
  have h9 := pt_le (lg := LG mk tr le bo jf j t P (wl fw (nI t) nj)) (c := 100000) (fun a b => LG_le a1 a2 a3 a4 (fun x hx => by have := bmono _ a9 (jf x + 1) (by have := (hR x hx).2.2.2; omega); omega) a b) O 7
  have h10 := Nat.mul_le_mul_right 100000 (show O.length ≤ 5 by omega)
  omega
end FBO
theorem leg_file {pa sp trt let_ P b : Nat} {bo : Nat → Nat → Nat} {t k : Nat} : legT pa sp trt let_ ((va_up bo t (va_up (bo t) (k + 1) (bo t k + b))) t) P k = wayT pa sp trt let_ P (bo t k) + 3 * b := by
  unfold legT
  rw [va_up_self, va_up_self, va_up_ne _ _ (show k ≠ k + 1 by omega), Nat.add_sub_cancel_left]
/-- a choice less 0 or 1 -/
theorem ch_va {q x : Nat} (hx1 : x ≤ 1) : ∃ va : Int32, nI q - nI x = va ∧ (va = -1 ∨ ∃ f, f ≤ q ∧ va = nI f) := by
  refine ⟨_, rfl, ?_⟩
  by_cases h : x ≤ q
  · rw [pk_sub h]; exact Or.inr ⟨q - x, by omega, rfl⟩
  · obtain ⟨rfl, rfl⟩ : q = 0 ∧ x = 1 := by omega
    exact Or.inl (by decide)
theorem c_L_runs2 (l : Launch) (D : va_G) (cA : Nat → ClassId) (sz : Nat) (ws : va_W) (kt ta : Nat) (tf : Nat → Int32) (hkt : ws[kt]? = some (ta, zInts cA 24 tf)) (kf fa : Nat) (ff : Nat → Int32) (hkf : ws[kf]? = some (fa, zInts cA 24 ff)) (kv va : Nat) (vf : Nat → Int32) (hkv : ws[kv]? = some (va, zInts cA 10 vf)) (d tp tr le mk : Nat) (hvt : vf (6 + d) = nI tp) (htr : tf tp = nI tr) (hle : tf (4 + tp) = nI le) (hmk : vf d = nI mk) (hmk1 : mk ≤ 1) (h1 : 1 ≤ tr) (h2 : 1 ≤ le) (h3 : tr ≤ 8) (h4 : le ≤ 200) (htp : tp < 4) (hd : d < 2) (P0 : Nat) (hvp : vf (8 + d) = nI P0) (hP0 : P0 ≤ tr * le) (b : Nat → Nat) (fcn : Nat) (hfc : fcn ≤ 6) (hb0 : b 0 = 0) (hbi : ∀ k, k < fcn → b k ≤ b (k + 1) ∧ ff (6 * tp + k) = nI (b (k + 1) - b k)) (hbm : ∀ k, k ≤ fcn → b k ≤ tr * le) (fl : Nat) (hfl : fl < fcn) (n1 : kv ≠ kt) (n2 : kv ≠ kf) {c9 : Int32} {d9 q9 lg9 : Nat} (e1 : vf (2 + d) + nI lg9 = c9) (e2 : vf (4 + d) + nI 1 = nI d9) (e3 : b (fl + 1) = q9) (e4 : legT (zpa mk) (zsp mk) tr le b P0 fl = lg9) : Met l yL_runs wsL_runs ({ frames := 2, cells := 0, slots := 0, locals := 55 }) (va_Pc [.ref ta, .ref fa, .ref va, .int (nI (d)), .int (nI (fl))] (zM D cA (ws) sz)) (va_Qi (fun (r : Int32) (u : Unit) => r = nI lg9) (fun u => zB D (va_A (ws) sz) (ws.set kv (va, zInts cA 10 (upd (upd (upd vf (2 + d) c9) (4 + d) (nI d9)) (8 + d) (nI q9))))) (va_A (ws) sz)) 0 0 (va_A (ws) sz) := by
  have h := c_L_runs l D cA sz ws kt ta tf hkt kf fa ff hkf kv va vf hkv d tp tr le mk hvt htr hle hmk hmk1 h1 h2 h3 h4 htp hd P0 hvp hP0 b fcn hfc hb0 hbi hbm fl hfl n1 n2
  rw [e2, e3, e4, e1] at h
  exact h
