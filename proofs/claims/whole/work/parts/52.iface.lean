/-! a call by an interface -/
section GIF
variable {p : Program} {l : Launch} {e : Env} {R : Room} {s : State} {m : MethodId} {args : Array Value} {below : List Frame} {meth : Method} {c : Code} {H : Heap} {locs : List Loc} {cells slots : Nat} {Q : State → Prop}
variable {cc : ByteArray} {pc nL : Nat} {ls : Array Slot} {rest st0 : List Value} {K : gK} {A : Nat → Prop} {G : gW} {own : String} {Ts : List Cond} {post : Option Value → gW → Prop} {mc ms : Nat}
theorem g_fin5 {a : Array Value} (hr : vx_Run5 p l e R s m args below meth c H locs cells slots mc ms (F0 m pc ls st0) rest (gQ K post (gA G H.size) a) (gX K gNo (gA G H.size)) (gA G H.size)) (hI : gI K A s G H locs) (hA : ∀ q, s.heap.size ≤ q → A q)
    (kk : ∀ (v : Option Value) (G1 : gW) (H1 : Heap) (locs1 : List Loc), post v G1 → gI K A s G1 H1 locs1 → W p l e R s m args below meth c H1 locs1 (cells + mc) (slots + ms) Q (F0 m (pc + 5) ls (v.toList ++ rest))) : W p l e R s m args below meth c H locs cells slots Q (F0 m pc ls st0) := by
  intro T hT X
  have hF : ∀ q, gA G H.size q → A q := gA.of hI.2.1 (fun q h => hA q (Nat.le_trans hI.2.2.1 h))
  rcases hr T hT X with ⟨v, st₀, t, T', L, h0, X', hL, e1, e2, ⟨⟨v2, G1, hv, hp, hP1, hIn1⟩, hFr⟩, st⟩ | ⟨q, st₀, t, T', L, E, ce, h0, X', hL, e1, e2, ⟨⟨G1, hp, hP1, hIn1⟩, hFr⟩, hce, hcv, hcl, st⟩
  · cases hv
    obtain ⟨k1, k2, k3⟩ := vx_keep h0 e1 hI.2.2 (fun q _ => hF q) hF hL hFr
    obtain ⟨t2, a1, b1⟩ := kk v G1 T'.heap (locs ++ L) hp ⟨by rw [e1]; exact hP1, fun t a e h => hF a (hIn1 t a e h), k3⟩ T' rfl X'
    exact ⟨t2, st t2 a1, b1⟩
  · exact hp.elim
variable {ws ws' : List Cond} {fr lo index count maxL b : Nat} {bytes : ByteArray} {ret : Option FieldType} {t : gTag} {fs : List Value}
/-- Collection.toArray() of an ArrayList -/
theorem g_callF (S : CallFix p m c cc nL s args Ts own) (hE : gE K A s s.heap) (hI : gI K A s G H locs) (hA : ∀ q, s.heap.size ≤ q → A q) (hM : gM l y_toArrayA ws fr lo mc ms K [.ref b] G post gNo) (hG : GoodIn Ts (va_wsF own index "java/util/ArrayList" y_toArrayC y_toArrayA ws)) (hw : ws = Cond.code y_toArrayA bytes maxL ret :: ws')
    (hR : fr + 1 ≤ R.frames ∧ 8 + (maxL + 11) + lo ≤ R.locals) (ht : G t = some (b, .inr (0, fs))) (hsize : ls.size = nL) (hW : (rest.map fun v => v.category).sum ≤ 8) (hdg : decode cc pc = .ok (.invokeinterface index count, 5)) (hf : cells + mc ≤ R.cells ∧ slots + ms ≤ R.slots)
    (kk : ∀ (v : Option Value) (G1 : gW) (H1 : Heap) (locs1 : List Loc), post v G1 → gI K A s G1 H1 locs1 → W p l e R s m args below meth c H1 locs1 (cells + mc) (slots + ms) Q (F0 m (pc + 5) ls (v.toList ++ rest))) : W p l e R s m args below meth c H locs cells slots Q (F0 m pc ls (.ref b :: rest)) :=
  g_fin5 (a := (Value.ref b :: []).toArray) (vx_runF (x := y_toArrayC) (As := []) (rest := rest) (n := 0) (hE.1.1 0 _ rfl).2 S (hM H.size) (va_cwF 0 S.2.2.2.2 hG hw rfl rfl hE.2.2.2.2.2.2.2.2.2.2.2.2.2.2.2.2.1 ⟨by decide, by decide, by decide +kernel⟩ hR) ⟨gPc.blind K _ G _, g_hro hE hI ht rfl, g_pre hE hI hA _⟩ rfl rfl hsize rfl (lv_room hW) hdg hf) hI hA kk
end GIF
