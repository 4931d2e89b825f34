/-! methods with a table of their own: entered, called, catching -/
theorem gM.ofH {l : Launch} {y : MethodName} {ws ws' : List Cond} {fr lo mc ms : Nat} {K : gK} {av : List Value} {G : gW} {post : Option Value → gW → Prop} {xp : String → gW → Prop} {cc : ByteArray} {maxL : Nat} {ret : Option FieldType} {hh : List (Nat × Nat × Nat × Nat)}
    (hy : plainName y.cls = true) (hw : ws = Cond.codeWith y cc maxL ret hh :: ws') (hn : (lg_sl av).length ≤ maxL)
    (body : ∀ (p : Program) (e : Env) (s : State) (m : MethodId) (below : List Frame) (meth : Method) (c : Code) (A : Nat → Prop), CallFix p m c cc maxL s av.toArray ws y.cls → meth.sig.returnType = ret → meth.locks = false → c.exceptionTable.toList = tableOf hh → meth.name = y.name → gE K A s s.heap → (∀ q, s.heap.size ≤ q → A q) → gI K A s G s.heap [] → ∀ ls : Array Slot, lv_has ls maxL (lv_args 0 av) →
      W p l e (gRoom fr lo mc ms) s m av.toArray below meth c s.heap [] 0 0 (gEnd K below post xp A av.toArray s mc ms) (F0 m 0 ls [])) : gM l y ws fr lo mc ms K av G post xp := by
  intro sz
  refine vx_ofWH (cc := cc) (maxL := maxL) (ret := ret) hy hw ?_
  intro p e s m args below meth c s₁ B hml hv
  obtain ⟨rfl, hsz, hP, hE⟩ := hv
  have hts := atoms_spec (ws := ws) B.pre
  have htab : c.exceptionTable.toList = tableOf hh := vx_table (x := y) B (hts _ (by rw [hw]; exact List.mem_cons_self))
  have hown : s.vm.findClass y.cls = some m.cls := findClass_of_methodNamed B.named
  subst hsz
  have hl := lv_entry av (n := maxL) hn
  rw [lg_entry_eq]
  generalize (lg_sl av ++ List.replicate (maxL - (lg_sl av).length) Slot.unset).toArray = ls at hl ⊢
  exact body p e s m below meth c (gA G s.heap.size) ⟨B.exec, B.bytes, hml, hown, hts⟩ B.returns B.notSynchronized htab (name_of_methodNamed B.named B.method).1 hE (fun q h => Or.inr h) ⟨hP, gIn.self G _, va_S.rf⟩ ls hl
section GCX
variable {p : Program} {l : Launch} {e : Env} {R : Room} {s : State} {m : MethodId} {args : Array Value} {below : List Frame} {meth : Method} {c : Code} {H : Heap} {locs : List Loc} {cells slots : Nat} {Q : State → Prop}
variable {cc : ByteArray} {pc nL mc ms : Nat} {ls : Array Slot} {rest st0 : List Value} {K : gK} {A : Nat → Prop} {G : gW} {own : String} {Ts : List Cond} {post : Option Value → gW → Prop} {xp : String → gW → Prop}
variable {y : MethodName} {ws ws' : List Cond} {fr lo index n maxL : Nat} {As : List Value} {bytes : ByteArray} {ret : Option FieldType} {hh : List (Nat × Nat × Nat × Nat)}
theorem g_callSX (S : CallFix p m c cc nL s args Ts own) (hE : gE K A s s.heap) (hI : gI K A s G H locs) (hA : ∀ q, s.heap.size ≤ q → A q) (hM : gM l y ws fr lo mc ms K As G post xp) (hG : GoodIn Ts (va_wsS own index y ws)) (hw : ws = Cond.codeWith y bytes maxL ret hh :: ws')
    (hd : y.cls ≠ "java/lang/invoke/MethodHandle" ∧ y.cls ≠ "java/lang/invoke/VarHandle" ∧ (parseMethodDescriptor y.desc).map (fun d => d.parameters.length) = some n) (hR : fr + 1 ≤ R.frames ∧ 8 + (maxL + 11) + lo ≤ R.locals) (hn : As.length = n) (hsize : ls.size = nL) (hst : st0 = As.reverse ++ rest) (hW : (rest.map fun v => v.category).sum ≤ 8) (hdg : decode cc pc = .ok (.invokestatic index, 3)) (hf : cells + mc ≤ R.cells ∧ slots + ms ≤ R.slots)
    (kx : ∀ (E : String) (ce : Cell) (q9 : Addr) (G1 : gW) (H1 : Heap) (locs1 : List Loc), xp E G1 → gI K A s G1 H1 locs1 → H1[q9]? = some ce → ce.vm = .none → s.vm.findClass E = some ce.cls → vx_W p l e R s m args below meth c H1 locs1 (cells + mc) (slots + ms) Q (F0 m pc ls rest) q9)
    (kk : ∀ (v : Option Value) (G1 : gW) (H1 : Heap) (locs1 : List Loc), post v G1 → gI K A s G1 H1 locs1 → W p l e R s m args below meth c H1 locs1 (cells + mc) (slots + ms) Q (F0 m (pc + 3) ls (v.toList ++ rest))) : W p l e R s m args below meth c H locs cells slots Q (F0 m pc ls st0) :=
  g_fin (vx_runSX (As := As) (rest := rest) S (hM H.size) (vx_cwSW n S.2.2.2.2 hG hw rfl rfl hd hR) ⟨gPc.blind K _ G _, g_pre hE hI hA _⟩ rfl hn hsize hst (lv_room hW) hdg hf) hI hA kx kk
theorem g_catch (S : CallFix p m c cc nL s args Ts own) (hE : gE K A s s.heap) {E name : String} {ce : Cell} {q : Addr} (pre : List ExceptionTableEntry) (x : ExceptionTableEntry) (suf : List ExceptionTableEntry) (hsplit : c.exceptionTable.toList = pre ++ x :: suf)
    (hpass : ∀ z ∈ pre, covers z pc = false ∨ (z.catchType ≠ 0 ∧ ∃ nm : String, Cond.classLink own z.catchType nm ∈ Ts ∧ (E, nm) ∈ gNoc)) (hx : covers x pc = true) (h0 : x.catchType ≠ 0) (hlink : Cond.classLink own x.catchType name ∈ Ts) (hcast : (E, name) ∈ gCas) (hce : H[q]? = some ce) (hcv : ce.vm = .none) (hcl : s.vm.findClass E = some ce.cls)
    (kk : W p l e R s m args below meth c H locs cells slots Q (F0 m x.handlerPc ls [.ref q])) : vx_W p l e R s m args below meth c H locs cells slots Q (F0 m pc ls rest) q :=
  vx_catch S.2.2.2.1 pre x suf hsplit (fun z hz => (hpass z hz).imp id (fun h => ⟨h.1, h.2.choose, S.2.2.2.2 _ h.2.choose_spec.1, hE.2.2.2.2.2.2.2.2.1 _ h.2.choose_spec.2⟩)) hx h0 (S.2.2.2.2 _ hlink) ((hE.2.2.2.2.2.2.2.1 _ hcast).use rfl) hce hcv hcl kk
end GCX
