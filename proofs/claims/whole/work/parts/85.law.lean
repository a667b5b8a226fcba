/-! the law's state, the law's cases -/
def LV (cA : Nat → ClassId) (ad gd : Nat → Nat) (ws : va_W) : Prop := ∃ (T : Nat → Nat), ∃ (Bd : Nat → Nat), ∃ (E : Nat → Nat), ∃ (PT : Nat → Nat), ∃ (PB : Nat → Nat), ∃ (PE : Nat → Nat), ∃ (n : Nat), ∃ (tr : Nat → Nat), ∃ (le : Nat → Nat), ∃ (sl : Nat → Nat), ∃ (mo : Nat → Option Nat), ∃ (la : Nat → Bool), ∃ (fc : Nat → Nat), ∃ (bo : Nat → Nat → Nat), ∃ (nd : Nat), ∃ (mk : Nat → Nat), ∃ (ck : Nat → Int32), ∃ (ct : Nat → Nat), ∃ (hd : Nat → Option Nat), ∃ (pq : Nat → Int32), ∃ (nj : Nat), ∃ (fw : Nat → Int32), ∃ (jf : Nat → Nat), ∃ (dl : Nat → Nat), ∃ (dn : Nat), ∃ (oc : Nat), ∃ (s8 : Nat → Int32), ∃ (s9 : Nat → Int32), ∃ (s10 : Nat → Int32), ∃ (s11 : Nat → Int32), ∃ (s12 : Nat → Int32), ∃ (sf : Nat → Int32), ∃ (bf : Nat → Int32), ∃ (pf : Nat → Int32), ∃ (jt : Nat → Int32), ∃ (fin : Nat → Bool), ∃ (my : Nat), ∃ (fls : Nat → Int32), ∃ (fod : Nat → Int32), ∃ (fle : Nat → Int32), ∃ (fro : Nat → Int32), ∃ (th : Nat), zL cA ws ad T Bd E PT PB PE n tr le sl mo la fc bo nd mk ck ct hd pq nj fw jf dl dn oc s8 s9 s10 s11 s12 ∧ zI n tr le sl mo fc bo nd mk ct hd pq nj fw jf dl ∧ mL cA ws gd n tr le sl mo la fc sf bf nd mk ck ct hd pf nj jt jf dl fin my fls fod fle fro th ∧ mI n la fc bo nd ck ct hd pq pf nj fw jt fin sf bf dn
abbrev lwA (s : State) : Nat → Prop := fun q => s.heap.size ≤ q
def lwF (p : Program) (s : State) (m : MethodId) (c : Code) (D : va_G) (cA : Nat → ClassId) (b L : Nat) (xs : Nat → Int32) : Prop := p.tables.exec = Jvm.exec ∧ c.code = code ∧ c.maxLocals = 7 ∧ s.vm.findClass RL = some m.cls ∧ (∀ w ∈ wsL_law, w.before #[Value.ref b] s = true) ∧ zK D cA s ∧ zX (lwA s) s ∧ zNC s ∧ va_X b L xs s s.heap ∧ b < s.heap.size
def lwI (s : State) (D : va_G) (cA : Nat → ClassId) (ad gd : Nat → Nat) (o b i : Nat) (H : Heap) (locs : List Loc) (ls : Array Slot) (z : Nat → Int64) (ws : va_W) : Prop := lv_has ls 7 [(0, .ref b), (1, .ref (ad 0)), (2, .ref (gd 0)), (3, .ref o), (4, .int (nI i))] ∧ va_P D vwCl ((o, zOut cA z) :: ws) H ∧ va_D (lwA s) ((o, zOut cA z) :: ws) ∧ va_S (lwA s) s.heap H locs ∧ LV cA ad gd ws
/-- how the law goes on behind a case -/
def lwK (p : Program) (l : Launch) (e : Env) (s : State) (m : MethodId) (below : List Frame) (meth : Method) (c : Code) (Q : State → Prop) (D : va_G) (cA : Nat → ClassId) (ad gd : Nat → Nat) (o b i cells slots : Nat) : Prop := ∀ (z : Nat → Int64) (ws : va_W) (H : Heap) (locs : List Loc) (ls : Array Slot) (cells' slots' : Nat), cells' ≤ cells + 4 → slots' ≤ slots + 24 → lwI s D cA ad gd o b i H locs ls z ws → W p l e room_1 s m #[Value.ref b] below meth c H locs cells' slots' Q (F0 m 1543 ls [])
theorem va_up_eq {α : Type} {f : Nat → α} {i : Nat} {v : α} (h : f i = v) : va_up f i v = f := by rw [← h, va_up_id]
theorem lg_cmp_self (x : Int64) : lg_cmp x x = nI 0 := by
  unfold lg_cmp
  rw [if_neg (show ¬ x > x from Int64.lt_irrefl), if_pos rfl]; rfl
theorem zex1_le {K : Nat} {E : String} (h : zex1 K E) : K ≤ 3 := by have := h.1; omega
theorem zexIS_le {K : Nat} {E : String} (h : zexIS K E) : K ≤ 3 := by rcases h with h | h <;> (have := h.1; omega)
theorem zexAS_le {K : Nat} {E : String} (h : zexAS K E) : K ≤ 3 := by rcases h with h | h <;> (have := h.1; omega)
theorem zexIAS_le {K : Nat} {E : String} (h : zexIAS K E) : K ≤ 3 := by rcases h with h | h | h <;> (have := h.1; omega)
theorem pq_le {n : Nat} {tr le sl : Nat → Nat} {mo : Nat → Option Nat} {fc : Nat → Nat} {bo : Nat → Nat → Nat} {nd : Nat} {mk : Nat → Nat} {ct : Nat → Nat} {hd : Nat → Option Nat} {pq : Nat → Int32} {nj : Nat} {fw : Nat → Int32} {jf dl : Nat → Nat} {j t P : Nat} (hI : zI n tr le sl mo fc bo nd mk ct hd pq nj fw jf dl) (hj : j < nd) (hht : hd j = some t) (hpq : pq j = nI P) (hP : P ≤ 1600) : P ≤ tr t * le t := by
  obtain ⟨h1, h2, h3, hT, hD, hJ, hd9, hW⟩ := hI
  obtain ⟨b1, b2, q, e1, e2⟩ := (hD j hj).2.2.2 t hht
  obtain ⟨a1, a2, a3, a4, a5⟩ := hT t b1
  have h5 : tr t * le t ≤ 8 * 200 := Nat.mul_le_mul a2 a4
  have h6 := (nI_eq (by omega) (by omega)).mp (hpq.symm.trans e1)
  omega
