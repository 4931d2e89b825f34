section GC
variable {p : Program} {l : Launch} {e : Env} {R : Room} {s : State} {m : MethodId} {args : Array Value} {below : List Frame} {meth : Method} {c : Code} {H : Heap} {locs : List Loc} {cells slots : Nat} {Q : State → Prop}
variable {cc : ByteArray} {pc nL : Nat} {ls : Array Slot} {rest st0 : List Value} {K : gK} {A : Nat → Prop} {G : gW} {own : String} {Ts : List Cond} {post : Option Value → gW → Prop} {xp : String → gW → Prop} {mc ms : Nat}
theorem g_iret {v : Int32} (S : CallFix p m c cc nL s args Ts own) (hI : gI K A s G H locs) (hr : meth.sig.returnType = some .int) (hlocks : meth.locks = false) (hc : cells ≤ mc) (hs : slots ≤ ms) (hdg : decode cc pc = .ok (.ireturn, 1)) (hpost : post (some (.int v)) G) : W p l e R s m args below meth c H locs cells slots (gEnd K below post xp A args s mc ms) (F0 m pc ls [.int v]) := by
  refine W.widen hc hs ?_
  refine vx_ret ?_
  exact W.iret S.1 S.2.1 hr (fun t ht hW => ⟨⟨_, G, rfl, hpost, by rw [ht]; exact hI.1, hI.2.1⟩, hI.2.2.F ht⟩) hI.2.2.2.2 hdg hlocks
theorem g_zret {v : Int32} (S : CallFix p m c cc nL s args Ts own) (hI : gI K A s G H locs) (hr : meth.sig.returnType = some .boolean) (hlocks : meth.locks = false) (hc : cells ≤ mc) (hs : slots ≤ ms) (hv : v = 0 ∨ v = 1) (hdg : decode cc pc = .ok (.ireturn, 1)) (hpost : post (some (.int v)) G) : W p l e R s m args below meth c H locs cells slots (gEnd K below post xp A args s mc ms) (F0 m pc ls [.int v]) := by
  refine W.widen hc hs ?_
  refine vx_ret ?_
  exact W.zret S.1 S.2.1 hr (by rcases hv with rfl | rfl <;> rfl) (fun t ht hW => ⟨⟨_, G, rfl, hpost, by rw [ht]; exact hI.1, hI.2.1⟩, hI.2.2.F ht⟩) hI.2.2.2.2 hdg hlocks
theorem g_vret (S : CallFix p m c cc nL s args Ts own) (hI : gI K A s G H locs) (hr : meth.sig.returnType = none) (hlocks : meth.locks = false) (hc : cells ≤ mc) (hs : slots ≤ ms) (hdg : decode cc pc = .ok (.return_, 1)) (hpost : post none G) : W p l e R s m args below meth c H locs cells slots (gEnd K below post xp A args s mc ms) (F0 m pc ls []) := by
  refine W.widen hc hs ?_
  refine vx_ret ?_
  exact W.vret S.1 S.2.1 hr (fun t ht hW => ⟨⟨_, G, rfl, hpost, by rw [ht]; exact hI.1, hI.2.1⟩, hI.2.2.F ht⟩) hI.2.2.2.2 hdg hlocks
theorem g_aret {v : Value} {rt : FieldType} (S : CallFix p m c cc nL s args Ts own) (hI : gI K A s G H locs) (hr : meth.sig.returnType = some rt) (hrt : (∃ n, rt = .object n) ∨ ∃ t, rt = .array t) (hv : v = .null ∨ ∃ a, v = .ref a) (hlocks : meth.locks = false) (hc : cells ≤ mc) (hs : slots ≤ ms) (hdg : decode cc pc = .ok (.areturn, 1)) (hpost : post (some v) G) : W p l e R s m args below meth c H locs cells slots (gEnd K below post xp A args s mc ms) (F0 m pc ls [v]) := by
  refine W.widen hc hs ?_
  refine vx_ret ?_
  exact W.aret S.1 S.2.1 hr hrt hv (fun t ht hW => ⟨⟨_, G, rfl, hpost, by rw [ht]; exact hI.1, hI.2.1⟩, hI.2.2.F ht⟩) hI.2.2.2.2 hdg hlocks
theorem g_lret {v : Int64} (S : CallFix p m c cc nL s args Ts own) (hI : gI K A s G H locs) (hr : meth.sig.returnType = some .long) (hlocks : meth.locks = false) (hc : cells ≤ mc) (hs : slots ≤ ms) (hdg : decode cc pc = .ok (.lreturn, 1)) (hpost : post (some (.long v)) G) : W p l e R s m args below meth c H locs cells slots (gEnd K below post xp A args s mc ms) (F0 m pc ls [.long v]) := by
  refine W.widen hc hs ?_
  refine vx_ret ?_
  exact W.lret S.1 S.2.1 hr (fun t ht hW => ⟨⟨_, G, rfl, hpost, by rw [ht]; exact hI.1, hI.2.1⟩, hI.2.2.F ht⟩) hI.2.2.2.2 hdg hlocks
theorem g_dret {v : UInt64} (S : CallFix p m c cc nL s args Ts own) (hI : gI K A s G H locs) (hr : meth.sig.returnType = some .double) (hlocks : meth.locks = false) (hc : cells ≤ mc) (hs : slots ≤ ms) (hdg : decode cc pc = .ok (.dreturn, 1)) (hpost : post (some (.double v)) G) : W p l e R s m args below meth c H locs cells slots (gEnd K below post xp A args s mc ms) (F0 m pc ls [.double v]) := by
  refine W.widen hc hs ?_
  refine vx_ret ?_
  exact W.dret S.1 S.2.1 hr (fun t ht hW => ⟨⟨_, G, rfl, hpost, by rw [ht]; exact hI.1, hI.2.1⟩, hI.2.2.F ht⟩) hI.2.2.2.2 hdg hlocks
/-- a throw that isn't caught here -/
theorem g_out {E : String} {ce : Cell} {q : Addr} (htab : ∀ x ∈ c.exceptionTable.toList, False) (hlocks : meth.locks = false) (hI : gI K A s G H locs) (hce : H[q]? = some ce) (hcv : ce.vm = .none) (hcl : s.vm.findClass E = some ce.cls) (hc : cells ≤ mc) (hs : slots ≤ ms) (hx : xp E G) : vx_W p l e R s m args below meth c H locs cells slots (gEnd K below post xp A args s mc ms) (F0 m pc ls rest) q :=
  vx_out (fun x hx => (htab x hx).elim) hlocks hce hcv hcl (fun t ht hal => ⟨⟨G, hx, by rw [ht]; exact hI.1, hI.2.1⟩, hI.2.2.F ht⟩) hI.2.2.2.2 hc hs
theorem g_fin {a : Array Value} (hr : vx_Run p l e R s m args below meth c H locs cells slots mc ms (F0 m pc ls st0) rest (gQ K post (gA G H.size) a) (gX K xp (gA G H.size)) (gA G H.size)) (hI : gI K A s G H locs) (hA : ∀ q, s.heap.size ≤ q → A q)
    (kx : ∀ (E : String) (ce : Cell) (q9 : Addr) (G1 : gW) (H1 : Heap) (locs1 : List Loc), xp E G1 → gI K A s G1 H1 locs1 → H1[q9]? = some ce → ce.vm = .none → s.vm.findClass E = some ce.cls → vx_W p l e R s m args below meth c H1 locs1 (cells + mc) (slots + ms) Q (F0 m pc ls rest) q9)
    (kk : ∀ (v : Option Value) (G1 : gW) (H1 : Heap) (locs1 : List Loc), post v G1 → gI K A s G1 H1 locs1 → W p l e R s m args below meth c H1 locs1 (cells + mc) (slots + ms) Q (F0 m (pc + 3) ls (v.toList ++ rest))) : W p l e R s m args below meth c H locs cells slots Q (F0 m pc ls st0) := by
  intro T hT X
  have hF : ∀ q, gA G H.size q → A q := gA.of hI.2.1 (fun q h => hA q (Nat.le_trans hI.2.2.1 h))
  rcases hr T hT X with ⟨v, st₀, t, T', L, h0, X', hL, e1, e2, ⟨⟨v2, G1, hv, hp, hP1, hIn1⟩, hFr⟩, st⟩ | ⟨q, st₀, t, T', L, E, ce, h0, X', hL, e1, e2, ⟨⟨G1, hp, hP1, hIn1⟩, hFr⟩, hce, hcv, hcl, st⟩
  · cases hv
    obtain ⟨k1, k2, k3⟩ := vx_keep h0 e1 hI.2.2 (fun q _ => hF q) hF hL hFr
    obtain ⟨t2, a1, b1⟩ := kk v G1 T'.heap (locs ++ L) hp ⟨by rw [e1]; exact hP1, fun t a e h => hF a (hIn1 t a e h), k3⟩ T' rfl X'
    exact ⟨t2, st t2 a1, b1⟩
  · obtain ⟨k1, k2, k3⟩ := vx_keep h0 e1 hI.2.2 (fun q _ => hF q) hF hL hFr
    obtain ⟨t2, a1, b1⟩ := kx E ce q G1 T'.heap (locs ++ L) hp ⟨by rw [e1]; exact hP1, fun t a e h => hF a (hIn1 t a e h), k3⟩ (by rw [e1]; exact hce) hcv hcl T' rfl X'
    exact ⟨t2, st.trans a1, b1⟩
theorem g_pre (hE : gE K A s s.heap) (hI : gI K A s G H locs) (hA : ∀ q, s.heap.size ≤ q → A q) (av : List Value) : ∀ U : State, U.heap = H → s.WarmedH U.vm → gPc K av G H.size av.toArray U := fun U hU hW =>
  ⟨rfl, by rw [hU], by rw [hU]; exact hI.1, by rw [hU]; exact hE.at hI.2.2 (gA.of hI.2.1 (fun q h => hA q (Nat.le_trans hI.2.2.1 h))) hW⟩
variable {y : MethodName} {ws ws' : List Cond} {fr lo index n maxL b : Nat} {As : List Value} {bytes : ByteArray} {ret : Option FieldType} {C : String}
/-- invokevirtual of a method of the receiver's own class -/
theorem g_callV (S : CallFix p m c cc nL s args Ts own) (hE : gE K A s s.heap) (hI : gI K A s G H locs) (hA : ∀ q, s.heap.size ≤ q → A q) (hM : gM l y ws fr lo mc ms K (.ref b :: As) G post xp) (hG : GoodIn Ts (wsV own index C y ws)) (hw : ws = Cond.code y bytes maxL ret :: ws')
    (hd : y.cls = C ∧ y.cls ≠ "java/lang/invoke/MethodHandle" ∧ y.cls ≠ "java/lang/invoke/VarHandle" ∧ (parseMethodDescriptor y.desc).map (fun d => d.parameters.length) = some n) (hR : fr + 1 ≤ R.frames ∧ 8 + (maxL + 11) + lo ≤ R.locals) (hr : ∃ cell : Cell, H[b]? = some cell ∧ cell.vm.isStatics = false ∧ s.vm.findClass C = some cell.cls) (hn : As.length = n) (hsize : ls.size = nL) (hst : st0 = As.reverse ++ .ref b :: rest) (hW : (rest.map fun v => v.category).sum ≤ 8) (hdg : decode cc pc = .ok (.invokevirtual index, 3)) (hf : cells + mc ≤ R.cells ∧ slots + ms ≤ R.slots)
    (kx : ∀ (E : String) (ce : Cell) (q9 : Addr) (G1 : gW) (H1 : Heap) (locs1 : List Loc), xp E G1 → gI K A s G1 H1 locs1 → H1[q9]? = some ce → ce.vm = .none → s.vm.findClass E = some ce.cls → vx_W p l e R s m args below meth c H1 locs1 (cells + mc) (slots + ms) Q (F0 m pc ls rest) q9)
    (kk : ∀ (v : Option Value) (G1 : gW) (H1 : Heap) (locs1 : List Loc), post v G1 → gI K A s G1 H1 locs1 → W p l e R s m args below meth c H1 locs1 (cells + mc) (slots + ms) Q (F0 m (pc + 3) ls (v.toList ++ rest))) : W p l e R s m args below meth c H locs cells slots Q (F0 m pc ls st0) :=
  g_fin (vx_runV (As := As) (rest := rest) S (hM H.size) (cwV n S.2.2.2.2 hG hw rfl rfl hd hR) ⟨gPc.blind K _ G _, hr, g_pre hE hI hA _⟩ rfl hn hsize hst (lv_room hW) hdg hf) hI hA kx kk
/-- invokestatic -/
theorem g_callS (S : CallFix p m c cc nL s args Ts own) (hE : gE K A s s.heap) (hI : gI K A s G H locs) (hA : ∀ q, s.heap.size ≤ q → A q) (hM : gM l y ws fr lo mc ms K As G post xp) (hG : GoodIn Ts (va_wsS own index y ws)) (hw : ws = Cond.code y bytes maxL ret :: ws')
    (hd : y.cls ≠ "java/lang/invoke/MethodHandle" ∧ y.cls ≠ "java/lang/invoke/VarHandle" ∧ (parseMethodDescriptor y.desc).map (fun d => d.parameters.length) = some n) (hR : fr + 1 ≤ R.frames ∧ 8 + (maxL + 11) + lo ≤ R.locals) (hn : As.length = n) (hsize : ls.size = nL) (hst : st0 = As.reverse ++ rest) (hW : (rest.map fun v => v.category).sum ≤ 8) (hdg : decode cc pc = .ok (.invokestatic index, 3)) (hf : cells + mc ≤ R.cells ∧ slots + ms ≤ R.slots)
    (kx : ∀ (E : String) (ce : Cell) (q9 : Addr) (G1 : gW) (H1 : Heap) (locs1 : List Loc), xp E G1 → gI K A s G1 H1 locs1 → H1[q9]? = some ce → ce.vm = .none → s.vm.findClass E = some ce.cls → vx_W p l e R s m args below meth c H1 locs1 (cells + mc) (slots + ms) Q (F0 m pc ls rest) q9)
    (kk : ∀ (v : Option Value) (G1 : gW) (H1 : Heap) (locs1 : List Loc), post v G1 → gI K A s G1 H1 locs1 → W p l e R s m args below meth c H1 locs1 (cells + mc) (slots + ms) Q (F0 m (pc + 3) ls (v.toList ++ rest))) : W p l e R s m args below meth c H locs cells slots Q (F0 m pc ls st0) :=
  g_fin (vx_runS (As := As) (rest := rest) S (hM H.size) (va_cwS n S.2.2.2.2 hG hw rfl rfl hd hR) ⟨gPc.blind K _ G _, g_pre hE hI hA _⟩ rfl hn hsize hst (lv_room hW) hdg hf) hI hA kx kk
/-- invokespecial of a constructor -/
theorem g_callI (S : CallFix p m c cc nL s args Ts own) (hE : gE K A s s.heap) (hI : gI K A s G H locs) (hA : ∀ q, s.heap.size ≤ q → A q) (hM : gM l y ws fr lo mc ms K (.ref b :: As) G post xp) (hG : GoodIn Ts ws) (hw : ws = Cond.code y bytes maxL none :: ws') (hini : Cond.initialized y.cls ∈ Ts) (hl : Cond.methodLink own index y ∈ Ts) (hin : Cond.instanceMethod y ∈ Ts) (hy1 : y.name = "<init>")
    (hd : y.cls ≠ "java/lang/invoke/MethodHandle" ∧ y.cls ≠ "java/lang/invoke/VarHandle" ∧ (parseMethodDescriptor y.desc).map (fun d => d.parameters.length) = some n) (hR : fr + 1 ≤ R.frames ∧ 8 + (maxL + 11) + lo ≤ R.locals) (hn : As.length = n) (hsize : ls.size = nL) (hst : st0 = As.reverse ++ .ref b :: rest) (hW : (rest.map fun v => v.category).sum ≤ 8) (hdg : decode cc pc = .ok (.invokespecial index, 3)) (hf : cells + mc ≤ R.cells ∧ slots + ms ≤ R.slots)
    (kx : ∀ (E : String) (ce : Cell) (q9 : Addr) (G1 : gW) (H1 : Heap) (locs1 : List Loc), xp E G1 → gI K A s G1 H1 locs1 → H1[q9]? = some ce → ce.vm = .none → s.vm.findClass E = some ce.cls → vx_W p l e R s m args below meth c H1 locs1 (cells + mc) (slots + ms) Q (F0 m pc ls rest) q9)
    (kk : ∀ (v : Option Value) (G1 : gW) (H1 : Heap) (locs1 : List Loc), post v G1 → gI K A s G1 H1 locs1 → W p l e R s m args below meth c H1 locs1 (cells + mc) (slots + ms) Q (F0 m (pc + 3) ls (v.toList ++ rest))) : W p l e R s m args below meth c H locs cells slots Q (F0 m pc ls st0) :=
  g_fin (vx_runI (As := As) (rest := rest) S (hM H.size) (cwI n S.2.2.2.2 hG hw rfl rfl (S.2.2.2.2 _ hini) (S.2.2.2.2 _ hl) (S.2.2.2.2 _ hin) hy1 hd hR) ⟨gPc.blind K _ G _, g_pre hE hI hA _⟩ rfl hn hsize hst (lv_room hW) hdg hf) hI hA kx kk
/-- invokespecial of a nest mate's private constructor -/
theorem g_callIN (S : CallFix p m c cc nL s args Ts own) (hE : gE K A s s.heap) (hI : gI K A s G H locs) (hA : ∀ q, s.heap.size ≤ q → A q) (hM : gM l y ws fr lo mc ms K (.ref b :: As) G post xp) (hG : GoodIn Ts ws) (hw : ws = Cond.code y bytes maxL none :: ws') (hini : Cond.initialized y.cls ∈ Ts) {host : String} (hl : (own, index, y, host) ∈ gNsM) (hin : Cond.instanceMethod y ∈ Ts) (hy1 : y.name = "<init>")
    (hd : y.cls ≠ "java/lang/invoke/MethodHandle" ∧ y.cls ≠ "java/lang/invoke/VarHandle" ∧ (parseMethodDescriptor y.desc).map (fun d => d.parameters.length) = some n) (hR : fr + 1 ≤ R.frames ∧ 8 + (maxL + 11) + lo ≤ R.locals) (hn : As.length = n) (hsize : ls.size = nL) (hst : st0 = As.reverse ++ .ref b :: rest) (hW : (rest.map fun v => v.category).sum ≤ 8) (hdg : decode cc pc = .ok (.invokespecial index, 3)) (hf : cells + mc ≤ R.cells ∧ slots + ms ≤ R.slots)
    (kx : ∀ (E : String) (ce : Cell) (q9 : Addr) (G1 : gW) (H1 : Heap) (locs1 : List Loc), xp E G1 → gI K A s G1 H1 locs1 → H1[q9]? = some ce → ce.vm = .none → s.vm.findClass E = some ce.cls → vx_W p l e R s m args below meth c H1 locs1 (cells + mc) (slots + ms) Q (F0 m pc ls rest) q9)
    (kk : ∀ (v : Option Value) (G1 : gW) (H1 : Heap) (locs1 : List Loc), post v G1 → gI K A s G1 H1 locs1 → W p l e R s m args below meth c H1 locs1 (cells + mc) (slots + ms) Q (F0 m (pc + 3) ls (v.toList ++ rest))) : W p l e R s m args below meth c H locs cells slots Q (F0 m pc ls st0) :=
  g_fin (vx_runIN (As := As) (rest := rest) S (hM H.size) ⟨va_cnB n S.2.2.2.2 hG hw rfl rfl (hE.2.2.2.2.2.2.2.2.2.2.2.2.2.2.2.2.2.2 _ hl) (S.2.2.2.2 _ hini) hd hR, hy1, S.2.2.2.2 _ hin⟩ ⟨gPc.blind K _ G _, g_pre hE hI hA _⟩ rfl hn hsize hst (lv_room hW) hdg hf) hI hA kx kk
end GC
