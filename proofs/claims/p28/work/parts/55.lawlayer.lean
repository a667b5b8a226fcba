/-! p28, the law's layer -/
theorem zs_P {D : va_G} {cl : List vw_C} {es ws : va_W} {H : Heap} (h : va_P D cl (es ++ ws) H) : va_P D cl ws H := fun k q hk => h (es.length + k) q (by rw [List.getElem?_append_right (Nat.le_add_right _ _), Nat.add_sub_cancel_left]; exact hk)
theorem zs_D {A : Nat → Prop} {es ws : va_W} (h : va_D A (es ++ ws)) : va_D A ws := by
  have e : ∀ k, (es ++ ws)[es.length + k]? = ws[k]? := fun k => by rw [List.getElem?_append_right (Nat.le_add_right _ _), Nat.add_sub_cancel_left]
  exact ⟨fun i j x y hi hj q => by have := h.1 (es.length + i) (es.length + j) x y ((e i).trans hi) ((e j).trans hj) q; omega, fun k q hk => h.2 (es.length + k) q ((e k).trans hk)⟩
/-- the last cell goes ahead -/
theorem zr_P {D : va_G} {cl : List vw_C} {ws : va_W} {q : Nat × va_E} {H : Heap} (h : va_P D cl (ws ++ [q]) H) : va_P D cl (q :: ws) H := fun k x hk => by
  cases k with
  | zero => exact h ws.length x (by rw [List.getElem?_append_right (Nat.le_refl _), Nat.sub_self]; exact hk)
  | succ k =>
    have hk : ws[k]? = some x := hk
    exact h k x (by rw [List.getElem?_append_left (List.getElem?_eq_some_iff.mp hk).1]; exact hk)
theorem zr_D {A : Nat → Prop} {ws : va_W} {q : Nat × va_E} (h : va_D A (ws ++ [q])) : va_D A (q :: ws) := by
  have key : ∀ k x, (q :: ws)[k]? = some x → ∃ i, (ws ++ [q])[i]? = some x ∧ (i = if k = 0 then ws.length else k - 1) ∧ (k ≠ 0 → k - 1 < ws.length) := by
    intro k x hk
    cases k with
    | zero => exact ⟨ws.length, by rw [List.getElem?_append_right (Nat.le_refl _), Nat.sub_self]; exact hk, rfl, fun g => absurd rfl g⟩
    | succ k =>
      have hk : ws[k]? = some x := hk
      have hl := (List.getElem?_eq_some_iff.mp hk).1
      exact ⟨k, by rw [List.getElem?_append_left hl]; exact hk, rfl, fun _ => hl⟩
  refine ⟨fun i j x y hi hj e => ?_, fun k x hk => ?_⟩
  · obtain ⟨i2, a1, a2, a3⟩ := key i x hi
    obtain ⟨j2, b1, b2, b3⟩ := key j y hj
    have := h.1 i2 j2 x y a1 b1 e
    by_cases gi : i = 0 <;> by_cases gj : j = 0
    · rw [gi, gj]
    · rw [if_pos gi] at a2; rw [if_neg gj] at b2; have := b3 gj; omega
    · rw [if_neg gi] at a2; rw [if_pos gj] at b2; have := a3 gi; omega
    · rw [if_neg gi] at a2; rw [if_neg gj] at b2; omega
  · obtain ⟨i2, a1, -, -⟩ := key k x hk
    exact h.2 i2 x a1
theorem zd_P {D : va_G} {cl : List vw_C} {ws : va_W} {q : Nat × va_E} {H : Heap} (h : va_P D cl (q :: ws) H) : va_P D cl ws H := fun k x hk => h (k + 1) x hk
theorem zd_D {A : Nat → Prop} {ws : va_W} {q : Nat × va_E} (h : va_D A (q :: ws)) : va_D A ws := ⟨fun i j x y hi hj e => Nat.succ.inj (h.1 (i + 1) (j + 1) x y hi hj e), fun k x hk => h.2 (k + 1) x hk⟩
/-- behind a call that had the world without es -/
theorem ze_join {A0 : Nat → Prop} {D : va_G} {cl : List vw_C} {es ws w1 : va_W} {H H1 : Heap} (isR : List Nat) (hR : isR.map (fun i => es[i]?) = es.map some) (hn : va_nd isR = true) (hP : va_P D cl (es ++ ws) H) (hD : va_D A0 (es ++ ws)) (hk : ∀ a : Nat, a < H.size → ¬ va_A ws H.size a → H1[a]? = H[a]?) (hF : ∀ a, va_A ws H.size a → A0 a) (hP1 : va_P D cl w1 H1) (hD1 : va_D (va_A ws H.size) w1) : va_P D cl (es ++ w1) H1 ∧ va_D A0 (es ++ w1) := by
  have h := va_joinP (X := es) (cx := []) (wr := es) (rx := []) (pl := ws) (pl1 := w1) hP hD [] isR rfl hR hn (fun _ _ h => absurd h List.not_mem_nil) hk hF hP1 hD1
  rw [List.append_nil] at h; exact h
section ZLW
variable {p : Program} {l : Launch} {e : Env} {R : Room} {s : State} {m : MethodId} {args : Array Value} {below : List Frame} {meth : Method} {c : Code} {H : Heap} {locs : List Loc} {cells slots : Nat} {Q : State → Prop}
variable {cc : ByteArray} {pc : Nat} {ls : Array Slot} {rest st0 As : List Value} {own C T9 host : String} {index maxL n nL q0 ci N b : Nat} {y : MethodName} {bytes : ByteArray} {ret : Option FieldType} {Ts wsC wsC' : List Cond} {rm : Room} {D : va_G} {cA : Nat → ClassId} {ws : va_W} {fs : List Value} {T : u_T}
theorem ze_V_i {S : Type} {w1 : S → va_W} {A0 : Nat → Prop} {H0 : Heap} {mc ms : Nat} (hx : p.tables.exec = Jvm.exec) (hb : c.code = cc) (hml : c.maxLocals = nL) (hts : ∀ w ∈ Ts, w.before args s = true) (hown : s.vm.findClass own = some m.cls) (hZ : zK D cA s) {es : va_W} (isR : List Nat) (hR : isR.map (fun i => es[i]?) = es.map some) (hnd : va_nd isR = true) (hP : va_P D vwCl (es ++ ws) H) (hD : va_D A0 (es ++ ws)) (hS : va_S A0 H0 H locs) (hA : ∀ q, H0.size ≤ q → A0 q) {post : Int32 → S → Prop} (hM : Met l y wsC rm (va_Pc (.ref b :: As) (zM D cA ws H.size)) (va_Qi post (fun u => zB D (va_A ws H.size) (w1 u)) (va_A ws H.size)) mc ms (va_A ws H.size)) (hG : GoodIn Ts (wsV own index C y wsC)) (hy : y.cls = C) (hw : wsC = Cond.code y bytes maxL ret :: wsC') (hrm : rm.cells = mc ∧ rm.slots = ms) (hd : zCall y n R rm maxL) (hq : ws[q0]? = some (b, .inr (ci, fs))) (hc : vwCl[ci]? = some (C, T, N)) (hsz : ls.size = nL) (hst : st0 = As.reverse ++ .ref b :: rest) (hcat : (rest.map fun v => v.category).sum ≤ 8) (hf : cells + mc ≤ R.cells ∧ slots + ms ≤ R.slots) (hn : As.length = n) (d : decode cc pc = .ok (.invokevirtual index, 3)) (kk : ∀ (r : Int32) (u : S) (H1 : Heap) (locs1 : List Loc), post r u → va_P D vwCl (es ++ w1 u) H1 → va_D A0 (es ++ w1 u) → va_S A0 H0 H1 locs1 → H.size ≤ H1.size → W p l e R s m args below meth c H1 locs1 (cells + mc) (slots + ms) Q (F0 m (pc + 3) ls (.int r :: rest))) : W p l e R s m args below meth c H locs cells slots Q (F0 m pc ls st0) := by
  have hPt := zs_P hP
  have hDt := zs_D hD
  have hF : ∀ q, va_A ws H.size q → A0 q := z_free hDt hS hA
  exact va_calli (va_runV (As := As) (rest := rest) ⟨hx, hb, hml, hown, hts⟩ hM (cwV n hts hG hw hrm.1 hrm.2 ⟨hy, hd.1⟩ hd.2) ⟨zM_blind, va_recv hZ.1 hPt hc hq, fun U hU hW => ⟨rfl, zM_of hZ hPt hDt hU hW⟩⟩ rfl hn hsz hst (lv_room hcat) d hf) hS (fun q _ h => hF q h) (fun q h => hF q h) (fun r u t H1 locs1 e1 hvm hp hB hz hk hS1 => by
    obtain ⟨g1, g2⟩ := ze_join isR hR hnd hP hD hk hF (by rw [← e1]; exact hB.1) hB.2
    exact kk r u H1 locs1 hp g1 g2 hS1 hz)
theorem ze_T_i {A0 : Nat → Prop} {mc ms : Nat} {S SX : Type} {w1 : S → va_W} {px : String → SX → Prop} {wx : SX → va_W} (hx : p.tables.exec = Jvm.exec) (hb : c.code = cc) (hml : c.maxLocals = nL) (hts : ∀ w ∈ Ts, w.before args s = true) (hown : s.vm.findClass own = some m.cls) (hZ : zK D cA s) (hX : zX A0 s) (hP : va_P D vwCl ws H) (hD : va_D A0 ws) (hS : va_S A0 s.heap H locs) (hA : ∀ q, s.heap.size ≤ q → A0 q) {post : Int32 → S → Prop} (hM : vx_Met l y wsC rm (va_Pc (.ref b :: As) (zMX D cA ws H.size)) (va_Qi post (fun u => zB D (va_A ws H.size) (w1 u)) (va_A ws H.size)) (zXC px wx D (va_A ws H.size)) mc ms (va_A ws H.size)) (hG : GoodIn Ts (wsV own index C y wsC)) (hy : y.cls = C) (hw : wsC = Cond.code y bytes maxL ret :: wsC') (hrm : rm.cells = mc ∧ rm.slots = ms) (hd : zCall y n R rm maxL) (hq : ws[q0]? = some (b, .inr (ci, fs))) (hc : vwCl[ci]? = some (C, T, N)) (hsz : ls.size = nL) (hst : st0 = As.reverse ++ .ref b :: rest) (hcat : (rest.map fun v => v.category).sum ≤ 8) (hf : cells + mc ≤ R.cells ∧ slots + ms ≤ R.slots) (hn : As.length = n) (d : decode cc pc = .ok (.invokevirtual index, 3)) (kx : ∀ (E : String) (ce : Cell) (q9 : Addr) (u : SX) (H1 : Heap) (locs1 : List Loc), px E u → va_P D vwCl (wx u) H1 → va_D A0 (wx u) → va_S A0 s.heap H1 locs1 → H.size ≤ H1.size → H1[q9]? = some ce → ce.vm = .none → s.vm.findClass E = some ce.cls → vx_W p l e R s m args below meth c H1 locs1 (cells + mc) (slots + ms) Q (F0 m pc ls rest) q9) (kk : ∀ (r : Int32) (u : S) (H1 : Heap) (locs1 : List Loc), post r u → va_P D vwCl (w1 u) H1 → va_D A0 (w1 u) → va_S A0 s.heap H1 locs1 → H.size ≤ H1.size → W p l e R s m args below meth c H1 locs1 (cells + mc) (slots + ms) Q (F0 m (pc + 3) ls (.int r :: rest))) : W p l e R s m args below meth c H locs cells slots Q (F0 m pc ls st0) := by
  have hF : ∀ q, va_A ws H.size q → A0 q := z_free hD hS hA
  exact vx_calli (vx_runV (As := As) (rest := rest) ⟨hx, hb, hml, hown, hts⟩ hM (cwV n hts hG hw hrm.1 hrm.2 ⟨hy, hd.1⟩ hd.2) ⟨zMX_blind, va_recv hZ.1 hP hc hq, fun U hU hW => ⟨rfl, zM_of hZ hP hD hU hW, hX.call hS (fun q h => hF q h) hU hW⟩⟩ rfl hn hsz hst (lv_room hcat) d hf) hS (fun q _ h => hF q h) (fun q h => hF q h) (fun q _ h => hF q h) (fun E ce q9 u t H1 locs1 e1 hvm _ hB hz hk hS1 h1 h2 h3 => kx E ce q9 u H1 locs1 hB.1 (by rw [← e1]; exact hB.2.1) (hB.2.2.weaken (fun _ _ _ h => hF _ h)) hS1 hz h1 h2 h3) (fun r u t H1 locs1 e1 hvm hp hB hz hk hS1 => kk r u H1 locs1 hp (by rw [← e1]; exact hB.1) (hB.2.weaken (fun _ _ _ h => hF _ h)) hS1 hz)
def zNC (U : State) : Prop := va_Nc eS eA U ∧ va_Nc eS eI U ∧ va_Nc eA eI U
theorem zNC.moved {u U : State} (hvm : u.vm.Alike U.vm) (h : zNC u) : zNC U := ⟨h.1.moved hvm, h.2.1.moved hvm, h.2.2.moved hvm⟩
def zMW (D : va_G) (cA : Nat → ClassId) (ws : va_W) (sz : Nat) (U : State) : Prop := zMX D cA ws sz U ∧ zNC U
theorem zMW_blind {D : va_G} {cA : Nat → ClassId} {ws : va_W} {sz : Nat} {av : List Value} : FrameBlind (va_Pc av (zMW D cA ws sz)) := fun a U g mk q => ⟨q.1, ⟨⟨q.2.1.1.1.same rfl, q.2.1.1.2.1, q.2.1.1.2.2.1, q.2.1.1.2.2.2⟩, q.2.1.2.same rfl rfl⟩, q.2.2.moved (Vm.Alike.refl U.vm)⟩
theorem ze_H_i {S : Type} {w1 : S → va_W} {A0 : Nat → Prop} {mc ms : Nat} {hh : List (Nat × Nat × Nat × Nat)} (hx : p.tables.exec = Jvm.exec) (hb : c.code = cc) (hml : c.maxLocals = nL) (hts : ∀ w ∈ Ts, w.before args s = true) (hown : s.vm.findClass own = some m.cls) (hZ : zK D cA s) (hX : zX A0 s) (hN : zNC s) {es : va_W} (isR : List Nat) (hR : isR.map (fun i => es[i]?) = es.map some) (hnd : va_nd isR = true) (hP : va_P D vwCl (es ++ ws) H) (hD : va_D A0 (es ++ ws)) (hS : va_S A0 s.heap H locs) (hA : ∀ q, s.heap.size ≤ q → A0 q) {post : Int32 → S → Prop} (hM : Met l y wsC rm (va_Pc As (zMW D cA ws H.size)) (va_Qi post (fun u => zB D (va_A ws H.size) (w1 u)) (va_A ws H.size)) mc ms (va_A ws H.size)) (hG : GoodIn Ts (va_wsS own index y wsC)) (hw : wsC = Cond.codeWith y bytes maxL ret hh :: wsC') (hrm : rm.cells = mc ∧ rm.slots = ms) (hd : zCall y n R rm maxL) (hsz : ls.size = nL) (hst : st0 = As.reverse ++ rest) (hcat : (rest.map fun v => v.category).sum ≤ 8) (hf : cells + mc ≤ R.cells ∧ slots + ms ≤ R.slots) (hn : As.length = n) (d : decode cc pc = .ok (.invokestatic index, 3)) (kk : ∀ (r : Int32) (u : S) (H1 : Heap) (locs1 : List Loc), post r u → va_P D vwCl (es ++ w1 u) H1 → va_D A0 (es ++ w1 u) → va_S A0 s.heap H1 locs1 → H.size ≤ H1.size → W p l e R s m args below meth c H1 locs1 (cells + mc) (slots + ms) Q (F0 m (pc + 3) ls (.int r :: rest))) : W p l e R s m args below meth c H locs cells slots Q (F0 m pc ls st0) := by
  have hPt := zs_P hP
  have hDt := zs_D hD
  have hF : ∀ q, va_A ws H.size q → A0 q := z_free hDt hS hA
  exact va_calli (vx_runSW (As := As) (rest := rest) ⟨hx, hb, hml, hown, hts⟩ hM (vx_cwSW n hts hG hw hrm.1 hrm.2 hd.1 hd.2) ⟨zMW_blind, fun U hU hW => ⟨rfl, ⟨zM_of hZ hPt hDt hU hW, hX.call hS (fun q h => hF q h) hU hW⟩, hN.moved hW.alike⟩⟩ rfl hn hsz hst (lv_room hcat) d hf) hS (fun q _ h => hF q h) (fun q h => hF q h) (fun r u t H1 locs1 e1 hvm hp hB hz hk hS1 => by
    obtain ⟨g1, g2⟩ := ze_join isR hR hnd hP hD hk hF (by rw [← e1]; exact hB.1) hB.2
    exact kk r u H1 locs1 hp g1 g2 hS1 hz)
theorem zw_L_i {S : Type} {w1 : S → va_W} {A0 : Nat → Prop} {mc ms : Nat} (hx : p.tables.exec = Jvm.exec) (hb : c.code = cc) (hml : c.maxLocals = nL) (hts : ∀ w ∈ Ts, w.before args s = true) (hown : s.vm.findClass own = some m.cls) (hZ : zK D cA s) (hX : zX A0 s) (hN : zNC s) (hP : va_P D vwCl ws H) (hD : va_D A0 ws) (hS : va_S A0 s.heap H locs) (hA : ∀ q, s.heap.size ≤ q → A0 q) {post : Int32 → S → Prop} (hM : Met l y wsC rm (va_Pc As (zMW D cA ws H.size)) (va_Qi post (fun u => zB D (va_A ws H.size) (w1 u)) (va_A ws H.size)) mc ms (va_A ws H.size)) (hG : GoodIn Ts (va_wsS own index y wsC)) (hw : wsC = Cond.code y bytes maxL ret :: wsC') (hrm : rm.cells = mc ∧ rm.slots = ms) (hd : zCall y n R rm maxL) (hsz : ls.size = nL) (hst : st0 = As.reverse ++ rest) (hcat : (rest.map fun v => v.category).sum ≤ 8) (hf : cells + mc ≤ R.cells ∧ slots + ms ≤ R.slots) (hn : As.length = n) (d : decode cc pc = .ok (.invokestatic index, 3)) (kk : ∀ (r : Int32) (u : S) (H1 : Heap) (locs1 : List Loc), post r u → va_P D vwCl (w1 u) H1 → va_D A0 (w1 u) → va_S A0 s.heap H1 locs1 → H.size ≤ H1.size → W p l e R s m args below meth c H1 locs1 (cells + mc) (slots + ms) Q (F0 m (pc + 3) ls (.int r :: rest))) : W p l e R s m args below meth c H locs cells slots Q (F0 m pc ls st0) := by
  have hF : ∀ q, va_A ws H.size q → A0 q := z_free hD hS hA
  exact va_calli (va_runS (As := As) (rest := rest) ⟨hx, hb, hml, hown, hts⟩ hM (va_cwS n hts hG hw hrm.1 hrm.2 hd.1 hd.2) ⟨zMW_blind, fun U hU hW => ⟨rfl, ⟨zM_of hZ hP hD hU hW, hX.call hS (fun q h => hF q h) hU hW⟩, hN.moved hW.alike⟩⟩ rfl hn hsz hst (lv_room hcat) d hf) hS (fun q _ h => hF q h) (fun q h => hF q h) (fun r u t H1 locs1 e1 hvm hp hB hz hk hS1 => kk r u H1 locs1 hp (by rw [← e1]; exact hB.1) (hB.2.weaken (fun _ _ _ h => hF _ h)) hS1 hz)
/-- a loop that makes cells, or answers -/
theorem z_loopF {α : Type} (μ cf sf : α → Nat) (P : α → Heap → List Loc → Array Slot → Prop) (st' : α → List Value) (v0 : α) (hcf : cells ≤ cf v0) (hsf : slots ≤ sf v0) (h0 : P v0 H locs ls)
    (step : ∀ v, (∀ v' H1 locs1 ls', μ v' < μ v → P v' H1 locs1 ls' → W p l e R s m args below meth c H1 locs1 (cf v') (sf v') Q (F0 m pc ls' (st' v'))) → ∀ H1 locs1 ls', P v H1 locs1 ls' → W p l e R s m args below meth c H1 locs1 (cf v) (sf v) Q (F0 m pc ls' (st' v))) : W p l e R s m args below meth c H locs cells slots Q (F0 m pc ls (st' v0)) := by
  have key : ∀ (n : Nat) (v : α) (H1 : Heap) (locs1 : List Loc) (ls' : Array Slot), μ v < n → P v H1 locs1 ls' → W p l e R s m args below meth c H1 locs1 (cf v) (sf v) Q (F0 m pc ls' (st' v)) := by
    intro n
    induction n with
    | zero => intro v H1 locs1 ls' h; exact absurd h (Nat.not_lt_zero _)
    | succ n ih => intro v H1 locs1 ls' h hp; exact step v (fun v' H2 locs2 ls'' h' hp' => ih v' H2 locs2 ls'' (by omega) hp') H1 locs1 ls' hp
  exact W.widen hcf hsf (key _ v0 H locs ls (Nat.lt_succ_self _) h0)
/-- an array of ints, ahead of the world -/
theorem z_newF {A0 : Nat → Prop} {H0 : Heap} (hx : p.tables.exec = Jvm.exec) (hb : c.code = cc) (harr : (Cond.arrayClass .int).before args s = true) (hZ : zK D cA s) (hP : va_P D vwCl ws H) (hD : va_D A0 ws) (hS : va_S A0 H0 H locs) (hA : ∀ q, H0.size ≤ q → A0 q) (N' : Nat) (hN : N' < 2 ^ 29 / 4) (hcells : cells + 1 ≤ R.cells) (hslots : slots + N' ≤ R.slots) (d : decode cc pc = .ok (.newarray .int, 2))
    (kk : ∀ (q : Nat) (H1 : Heap), va_P D vwCl ((q, zInts cA N' (fun _ => nI 0)) :: ws) H1 → va_D A0 ((q, zInts cA N' (fun _ => nI 0)) :: ws) → va_S A0 H0 H1 locs → W p l e R s m args below meth c H1 locs (cells + 1) (slots + N') Q (F0 m (pc + 2) ls (.ref q :: rest))) : W p l e R s m args below meth c H locs cells slots Q (F0 m pc ls (.int (nI N') :: rest)) :=
  z_newI hx hb harr hZ hP hD hS hA N' (nI_pos (by omega)) (nI_clamp (by omega)) (by omega) hcells hslots d (fun q H1 hP1 hD1 hS1 => kk q H1 (zr_P hP1) (zr_D hD1) hS1)
end ZLW
/-- a body with handlers, opened -/
theorem zOpenH {l : Launch} {y : MethodName} {ws ws' : List Cond} {rm : Room} {Qc : Array Value → State → Outcome → State → Prop} {mc ms : Nat} {free : Addr → Prop} {cc : ByteArray} {maxL : Nat} {ret : Option FieldType} {own : String} {av : List Value} {B : State → Prop} {hh : List (Nat × Nat × Nat × Nat)}
    (hy : plainName y.cls = true) (hw : ws = Cond.codeWith y cc maxL ret hh :: ws') (ho : y.cls = own) (hn : (lg_sl av).length ≤ maxL)
    (body : ∀ (p : Program) (e : Env) (s : State) (m : MethodId) (below : List Frame) (meth : Method) (c : Code) (ls : Array Slot), p.tables.exec = Jvm.exec → c.code = cc → meth.sig.returnType = ret → c.maxLocals = maxL → (∀ w ∈ ws, w.before av.toArray s = true) → s.vm.findClass own = some m.cls → meth.locks = false → c.exceptionTable.toList = tableOf hh → B s → lv_has ls maxL (lv_args 0 av) → W p l e rm s m av.toArray below meth c s.heap [] 0 0 (MQ below Qc av.toArray s mc ms free) (F0 m 0 ls [])) :
    Met l y ws rm (va_Pc av B) Qc mc ms free := by
  refine MetFree.of_bodyS (code := cc) (maxLocals := maxL) (ret := ret) hy ?_ ?_
  · intro args s m h hn9
    obtain ⟨m9, meth, c, hn8, h1, h2, h3, h4, -, h5, h6, -⟩ := Cond.codeWith_spec (atoms_spec (ws := ws) h _ (by rw [hw]; exact List.mem_cons_self))
    cases hn9.symm.trans hn8
    exact ⟨meth, c, h1, h2, h3, h4, h5, h6⟩
  · intro p e s m args below meth c s₁ B0 hml hv _
    have hh0 : s₁.heap = s.heap := by rw [B0.state]; rfl
    obtain ⟨rfl, hv⟩ := hv
    have hht := vx_table (x := y) B0 (atoms_spec (ws := ws) B0.pre _ (by rw [hw]; exact List.mem_cons_self))
    have key := body p e s m below meth c _ B0.exec B0.bytes B0.returns hml (atoms_spec (ws := ws) B0.pre) (ho ▸ findClass_of_methodNamed B0.named) B0.notSynchronized hht hv (lv_entry av hn)
    rw [← lg_entry_eq] at key
    obtain ⟨t, a1, o, b1, b2, b3⟩ := key s₁ hh0 (Stand.of_body B0)
    exact ⟨t, o, a1, b1, b2, ⟨b3.1, b3.2⟩⟩
theorem zcast (E : String) (h : E = eI ∨ E = eS ∨ E = eA) : Cond.castable E E ∈ zN := by
  rcases h with rfl | rfl | rfl <;> decide +kernel
/-- what a helper of the law's answers: the class's answer, or the place of the exception -/
def zwP {S SX : Type} (post : Int32 → S → Prop) (px : String → SX → Prop) (K : Nat) (r : Int32) : Sum S SX → Prop
  | .inl u => post r u
  | .inr u => r = cX K ∧ K ≠ 0 ∧ ∃ E, px E u
def zwW {S SX : Type} (w1 : S → va_W) (wx : SX → va_W) : Sum S SX → va_W
  | .inl u => w1 u
  | .inr u => wx u
def zexA (c : Nat) (E : String) : Prop := c = 1 ∧ E = eA
theorem bI_ne : bI true = nI 1 := rfl
