/-! methods that may throw -/
def eI : String := "java/lang/IndexOutOfBoundsException"
def eS : String := "java/lang/IllegalStateException"
def eA : String := "java/lang/IllegalArgumentException"
def zStr : List (Nat × String) := [(44, "tracks out of range"), (49, "length out of range"), (53, "no more tapes"), (243, "no such tape"), (69, "no such slot"), (80, "tape in a drive, or slot not free"), (249, "no such file"), (102, "no such place"), (107, "no such make"), (109, "no more drives"), (245, "no such drive"), (126, "drive or tape not ready to mount"), (247, "drive has no tape"), (148, "blocks out of range"), (251, "drive wants cleaning"), (157, "tape too full"), (166, "drive has a tape"), (175, "deadline out of range"), (183, "no more jobs"), (208, "no such place in the order"), (235, "tape in a drive, or without a label")]
/-- what a throw needs of the machine beside the words -/
def zX (A : Nat → Prop) (U : State) : Prop := vx_Zq Bundle.tN "UNASSIGNED_STACK" Bundle.steD A U U.heap ∧ vx_Zq Bundle.tN "SUPPRESSED_SENTINEL" Bundle.listD A U U.heap ∧ ∀ q ∈ zStr, ∃ a, vk_R RX4 q.1 q.2 a U
theorem zX.same {A : Nat → Prop} {s U : State} (h : zX A s) (hv : U.vm = s.vm) (hh : U.heap = s.heap) : zX A U := by
  have hal : s.vm.Alike U.vm := by rw [hv]; exact Vm.Alike.refl s.vm
  refine ⟨?_, ?_, fun q hq => ?_⟩
  · rw [hh]; exact vx_Zq.moved hal h.1
  · rw [hh]; exact vx_Zq.moved hal h.2.1
  · obtain ⟨a, ha⟩ := h.2.2 q hq
    exact ⟨a, vk_R.same hv ha⟩
/-- .. for a callee, in a later heap -/
theorem zX.call {A A1 : Nat → Prop} {s U : State} {H : Heap} {locs : List Loc} (h : zX A s) (hS : va_S A s.heap H locs) (hA : ∀ q, A1 q → A q) (hU : U.heap = H) (hW : s.WarmedH U.vm) : zX A1 U := by
  refine ⟨?_, ?_, fun q hq => ?_⟩
  · rw [hU]; exact vx_Zq.moved hW.alike ((h.1.kept hS.2.1).narrow hA)
  · rw [hU]; exact vx_Zq.moved hW.alike ((h.2.1.kept hS.2.1).narrow hA)
  · obtain ⟨a, ha⟩ := h.2.2 q hq
    exact ⟨a, vk_R.warm hW ha⟩
def zMX (D : va_G) (cA : Nat → ClassId) (ws : va_W) (sz : Nat) (U : State) : Prop := zM D cA ws sz U ∧ zX (va_A ws sz) U
theorem zMX_blind {D : va_G} {cA : Nat → ClassId} {ws : va_W} {sz : Nat} {av : List Value} : FrameBlind (va_Pc av (zMX D cA ws sz)) := fun a U g mk q => ⟨q.1, ⟨q.2.1.1.same rfl, q.2.1.2.1, q.2.1.2.2.1, q.2.1.2.2.2⟩, q.2.2.same rfl rfl⟩
/-- where a method throws: the class, the world behind it -/
abbrev zXC {S : Type} (px : String → S → Prop) (wx : S → va_W) (D : va_G) (A : Nat → Prop) : String → State → State → Prop := vx_X (fun _ : S => True) (fun E u t => px E u ∧ zB D A (wx u) t) A
section ZT
variable {p : Program} {l : Launch} {e : Env} {R : Room} {s : State} {m : MethodId} {args : Array Value} {below : List Frame} {meth : Method} {c : Code} {H : Heap} {locs : List Loc} {cells slots : Nat}
variable {cc : ByteArray} {pc : Nat} {ls : Array Slot} {rest st0 As : List Value} {own C host : String} {index maxL n nL q0 ci N b mc ms : Nat} {y : MethodName} {bytes : ByteArray} {ret : Option FieldType} {Ts wsC wsC' : List Cond} {rm : Room} {D : va_G} {cA : Nat → ClassId} {ws : va_W} {fs : List Value} {T : u_T} {A : Nat → Prop}
variable {Qc : Array Value → State → Outcome → State → Prop} {XC : String → State → State → Prop} {Q : State → Prop}
/-- 'throw new E("text")' of the class, at its new -/
theorem zt_throw {S : Type} {px : String → S → Prop} {wx : S → va_W} {cls text : String} {ik is ic : Nat} (u : S) (hx : p.tables.exec = Jvm.exec) (hb : c.code = cc) (hlt : l.stackTraces = false) (hown : s.vm.findClass RX4 = some m.cls)
    (hZ : zK D cA s) (hX : zX A s) (hS : va_S A s.heap H locs) (hP : va_P D vwCl (wx u) H) (hD : va_D A (wx u)) (hpx : px cls u) (htab : ∀ x ∈ c.exceptionTable.toList, False) (hlocks : meth.locks = false) (hsz : ls.size = c.maxLocals)
    (hcls : Bundle.fit cls = true) (hk : (Cond.classLink RX4 ik cls).before args s = true) (hini : (Cond.initialized cls).before args s = true) (hgw : ∀ w ∈ (vx_atS RX4 ic cls ["java/lang/RuntimeException", "java/lang/Exception"]).filter goodWord, w.before args s = true)
    (hbw : ∀ w ∈ (vx_atS RX4 ic cls ["java/lang/RuntimeException", "java/lang/Exception"]).filter (fun w => !goodWord w), w ∈ zN ∧ w.onTables = true) (hot : ∀ w ∈ Cond.classLink RX4 ik cls :: Cond.initialized cls :: vx_atS RX4 ic cls ["java/lang/RuntimeException", "java/lang/Exception"], vx_ot w = true) (hstr : (is, text) ∈ zStr)
    (d0 : decode cc pc = .ok (.new ik, 3)) (d3 : decode cc (pc + 3) = .ok (.dup, 1)) (d4 : decode cc (pc + 4) = .ok (.ldc is, 2)) (d6 : decode cc (pc + 6) = .ok (.invokespecial ic, 3)) (d9 : decode cc (pc + 9) = .ok (.athrow, 1))
    (hR : 5 < R.frames ∧ (rest.map fun v => v.category).sum + 82 ≤ R.locals ∧ cells + 1 ≤ R.cells ∧ slots + 6 ≤ R.slots) (hc : cells + 1 ≤ mc) (hs : slots + 6 ≤ ms) :
    W p l e R s m args below meth c H locs cells slots (vx_MQ below Qc (zXC px wx D A) args s mc ms A) (F0 m pc ls rest) := by
  obtain ⟨sa, hsa⟩ := hX.2.2 (is, text) hstr
  refine vx_throwS (own := RX4) (cls := cls) (text := text) (names := ["java/lang/RuntimeException", "java/lang/Exception"]) (ik := ik) (is := is) (ic := ic) (A := A) hx hb hlt hown hcls (by decide) hk hini hsa
    (vx_hat hgw (B := zN.filter (fun w => w.onTables)) (fun w hw => List.mem_filter.mpr (hbw w hw)) (fun w hw => va_Nw.use (List.mem_filter.mp hw).2 (hZ.2 w (List.mem_filter.mp hw).1))) hot hX.1 hX.2.1 hS hsz d0 d3 d4 d6 d9 (fun x h => (htab x h).elim) hR.1 hR.2.1 hR.2.2.1 hR.2.2.2 hlocks ?_ hS.2.2 hc hs
  intro t hvm h1 h2
  refine ⟨u, trivial, ⟨hpx, ?_, hD⟩, Nat.le_trans hS.1 h1, fun q hq hn => ?_⟩
  · exact hP.kept (fun k q hk => h2 q.1 (vx_lt hP hk))
  · rw [h2 q (Nat.lt_of_lt_of_le hq hS.1)]; exact hS.2.1 q hq hn
/-- not caught here -/
theorem zt_out {S : Type} {px : String → S → Prop} {wx : S → va_W} {E : String} {ce : Cell} {q : Addr} (u : S) (hS : va_S A s.heap H locs) (hP : va_P D vwCl (wx u) H) (hD : va_D A (wx u)) (hpx : px E u) (htab : ∀ x ∈ c.exceptionTable.toList, False) (hlocks : meth.locks = false)
    (hcell : H[q]? = some ce) (hv : ce.vm = .none) (hcl : s.vm.findClass E = some ce.cls) (hc : cells ≤ mc) (hs : slots ≤ ms) :
    vx_W p l e R s m args below meth c H locs cells slots (vx_MQ below Qc (zXC px wx D A) args s mc ms A) (F0 m pc ls rest) q :=
  vx_out (fun x h => (htab x h).elim) hlocks hcell hv hcl (fun t ht _ => ⟨u, trivial, ⟨hpx, by rw [ht]; exact hP, hD⟩, hS.F ht⟩) hS.2.2 hc hs
/-- ends -/
theorem zr_ti {S : Type} {post : Int32 → S → Prop} {w1 : S → va_W} {v : Int32} (u : S) (hx : p.tables.exec = Jvm.exec) (hb : c.code = cc) (hr : meth.sig.returnType = some .int) (hlocks : meth.locks = false) (hp : post v u) (hP : va_P D vwCl ws H) (hD : va_D A ws) (hS : va_S A s.heap H locs) (hw : ws = w1 u) (d : decode cc pc = .ok (.ireturn, 1)) (hc : cells ≤ mc ∧ slots ≤ ms) : W p l e R s m args below meth c H locs cells slots (vx_MQ below (va_Qi post (fun u => zB D A (w1 u)) A) XC args s mc ms A) (F0 m pc ls [.int v]) :=
  vx_ret (W.widen hc.1 hc.2 (zr_qi u hx hb hr hlocks hp hP hD hS hw d))
theorem zr_tv {S : Type} {post : S → Prop} {w1 : S → va_W} (u : S) (hx : p.tables.exec = Jvm.exec) (hb : c.code = cc) (hr : meth.sig.returnType = none) (hlocks : meth.locks = false) (hp : post u) (hP : va_P D vwCl ws H) (hD : va_D A ws) (hS : va_S A s.heap H locs) (hw : ws = w1 u) (d : decode cc pc = .ok (.return_, 1)) (hc : cells ≤ mc ∧ slots ≤ ms) : W p l e R s m args below meth c H locs cells slots (vx_MQ below (va_Qv post (fun u => zB D A (w1 u)) A) XC args s mc ms A) (F0 m pc ls []) :=
  vx_ret (W.widen hc.1 hc.2 (zr_qv u hx hb hr hlocks hp hP hD hS hw d))
/-- a reference that isn't null -/
theorem zr_ta {S : Type} {post : S → Prop} {adr : S → Nat} {w1 : S → va_W} {a : Nat} {rt : FieldType} (u : S) (hx : p.tables.exec = Jvm.exec) (hb : c.code = cc) (hr : meth.sig.returnType = some rt) (hrt : (∃ n, rt = .object n) ∨ ∃ t, rt = .array t) (hlocks : meth.locks = false) (hp : post u) (ha : a = adr u) (hP : va_P D vwCl ws H) (hD : va_D A ws) (hS : va_S A s.heap H locs) (hw : ws = w1 u) (d : decode cc pc = .ok (.areturn, 1)) (hc : cells ≤ mc ∧ slots ≤ ms) : W p l e R s m args below meth c H locs cells slots (vx_MQ below (va_Qr post (fun u a t => a = adr u ∧ zB D A (w1 u) t) A) XC args s mc ms A) (F0 m pc ls [.ref a]) := by
  subst hw
  exact vx_ret (W.widen hc.1 hc.2 (W.aret hx hb hr hrt (Or.inr ⟨a, rfl⟩) (fun t ht _ => ⟨⟨u, a, rfl, hp, ha, by rw [ht]; exact hP, hD⟩, hS.F ht⟩) hS.2.2 d hlocks))
end ZT
