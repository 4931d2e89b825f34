/-! A world by logical places: a place (region, kind, index) holds an address and a cell. -/
abbrev gTag : Type := Nat × Nat × Nat
abbrev gW : Type := gTag → Option (Nat × va_E)
def gset (G : gW) (t : gTag) (a : Nat) (e : va_E) : gW := fun u => if u = t then some (a, e) else G u
theorem gset_eq (G : gW) (t : gTag) (a : Nat) (e : va_E) : gset G t a e t = some (a, e) := if_pos rfl
theorem gset_ne {G : gW} {t u : gTag} {a : Nat} {e : va_E} (h : u ≠ t) : gset G t a e u = G u := if_neg h
theorem gset_gset (G : gW) (t : gTag) (a b : Nat) (e f : va_E) : gset (gset G t a e) t b f = gset G t b f := by
  funext u
  by_cases h : u = t
  · subst h; rw [gset_eq, gset_eq]
  · rw [gset_ne h, gset_ne h, gset_ne h]
theorem gset_comm (G : gW) {t u : gTag} (a b : Nat) (e f : va_E) (h : t ≠ u) : gset (gset G t a e) u b f = gset (gset G u b f) t a e := by
  funext v
  by_cases h1 : v = u
  · subst h1; rw [gset_eq, gset_ne (Ne.symm h), gset_eq]
  · rw [gset_ne h1]
    by_cases h2 : v = t
    · subst h2; rw [gset_eq, gset_eq]
    · rw [gset_ne h2, gset_ne h2, gset_ne h1]
theorem gset_self {G : gW} {t : gTag} {a : Nat} {e : va_E} (h : G t = some (a, e)) : gset G t a e = G := by
  funext u
  by_cases h1 : u = t
  · subst h1; rw [gset_eq, h]
  · rw [gset_ne h1]
/-- two places whose cells differ are two -/
theorem g_tne {G : gW} {t u : gTag} {p q : Nat × va_E} (ht : G t = some p) (hu : G u = some q) (h : p ≠ q) : t ≠ u := fun e => h (Option.some.inj (ht.symm.trans ((congrArg G e).trans hu)))
def gP (D : va_G) (G : gW) (H : Heap) : Prop := (∀ (t : gTag) (a : Nat) (e : va_E), G t = some (a, e) → va_at D vwCl (a, e) H) ∧ ∀ (t u : gTag) (a : Nat) (e f : va_E), G t = some (a, e) → G u = some (a, f) → t = u
def gIn (A : Nat → Prop) (G : gW) : Prop := ∀ (t : gTag) (a : Nat) (e : va_E), G t = some (a, e) → A a
def gA (G : gW) (sz : Nat) : Nat → Prop := fun q => (∃ (t : gTag) (e : va_E), G t = some (q, e)) ∨ sz ≤ q
theorem gP.one {D : va_G} {G : gW} {H : Heap} (h : gP D G H) {t : gTag} {a : Nat} {e : va_E} (ht : G t = some (a, e)) : va_P D vwCl [(a, e)] H := by
  intro k q hk
  have hz : k < 1 := (List.getElem?_eq_some_iff.mp hk).1
  rw [show k = 0 by omega] at hk
  cases hk
  exact h.1 t a e ht
theorem gP.lt {D : va_G} {G : gW} {H : Heap} (h : gP D G H) {t : gTag} {a : Nat} {e : va_E} (ht : G t = some (a, e)) : a < H.size := (h.1 t a e ht).lt
theorem gP.kept {D : va_G} {G : gW} {H H1 : Heap} (h : gP D G H) (hq : ∀ (t : gTag) (a : Nat) (e : va_E), G t = some (a, e) → H1[a]? = H[a]?) : gP D G H1 := ⟨fun t a e ht => (h.1 t a e ht).kept (hq t a e ht), h.2⟩
theorem gP.put {D : va_G} {G : gW} {H H1 : Heap} (h : gP D G H) {t : gTag} {a : Nat} {e0 e : va_E} (ht : G t = some (a, e0)) (he : va_at D vwCl (a, e) H1) (hq : ∀ q : Nat, q ≠ a → H1[q]? = H[q]?) : gP D (gset G t a e) H1 := by
  refine ⟨fun u b f hu => ?_, fun u v b f g hu hv => ?_⟩
  · by_cases hut : u = t
    · subst hut
      rw [gset_eq] at hu
      cases hu
      exact he
    · rw [gset_ne hut] at hu
      exact (h.1 u b f hu).kept (hq b (fun e9 => hut (h.2 u t b f e0 hu (by rw [e9]; exact ht))))
  · by_cases hut : u = t <;> by_cases hvt : v = t
    · rw [hut, hvt]
    · subst hut
      rw [gset_eq] at hu
      rw [gset_ne hvt] at hv
      cases hu
      exact absurd (h.2 v u a g e0 hv ht) hvt
    · subst hvt
      rw [gset_eq] at hv
      rw [gset_ne hut] at hu
      cases hv
      exact absurd (h.2 u v a f e0 hu ht) hut
    · rw [gset_ne hut] at hu
      rw [gset_ne hvt] at hv
      exact h.2 u v b f g hu hv
theorem gP.new {D : va_G} {G : gW} {H H1 : Heap} (h : gP D G H) (t : gTag) {e : va_E} (he : va_at D vwCl (H.size, e) H1) (hq : ∀ q : Nat, q < H.size → H1[q]? = H[q]?) : gP D (gset G t H.size e) H1 := by
  refine ⟨fun u b f hu => ?_, fun u v b f g hu hv => ?_⟩
  · by_cases hut : u = t
    · subst hut
      rw [gset_eq] at hu
      cases hu
      exact he
    · rw [gset_ne hut] at hu
      exact (h.1 u b f hu).kept (hq b (h.lt hu))
  · by_cases hut : u = t <;> by_cases hvt : v = t
    · rw [hut, hvt]
    · subst hut
      rw [gset_eq] at hu
      rw [gset_ne hvt] at hv
      cases hu
      exact absurd (h.lt hv) (Nat.lt_irrefl _)
    · subst hvt
      rw [gset_eq] at hv
      rw [gset_ne hut] at hu
      cases hv
      exact absurd (h.lt hu) (Nat.lt_irrefl _)
    · rw [gset_ne hut] at hu
      rw [gset_ne hvt] at hv
      exact h.2 u v b f g hu hv
theorem gIn.put {A : Nat → Prop} {G : gW} (h : gIn A G) {t : gTag} {a : Nat} {e : va_E} (ha : A a) : gIn A (gset G t a e) := by
  intro u b f hu
  by_cases hut : u = t
  · subst hut
    rw [gset_eq] at hu
    cases hu
    exact ha
  · rw [gset_ne hut] at hu
    exact h u b f hu
theorem gIn.self (G : gW) (sz : Nat) : gIn (gA G sz) G := fun t a e ht => Or.inl ⟨t, e, ht⟩
theorem gA.of {A : Nat → Prop} {G : gW} {sz : Nat} (h : gIn A G) (hA : ∀ q, sz ≤ q → A q) : ∀ q, gA G sz q → A q := fun q h1 => by
  rcases h1 with ⟨t, e, ht⟩ | h1
  · exact h t q e ht
  · exact hA q h1
/-- what stays the same over all calls: the classes' tables (D), the arrays' classes (Y), the address of ArrayList's empty array, the addresses of the texts -/
abbrev gK : Type := va_G × (Nat → ClassId) × Nat × (Nat → Nat)
def gTys (Y : Nat → ClassId) : List (ClassId × FieldType) := [(Y 0, .int), (Y 0, .int), (Y 2, .object RX2), (Y 3, .object RX0)]
/-- links between nest mates: fields, constructors -/
def gNsF : List (String × Nat × String × String × String × String) := [("StonecutterYard", 30, "StonecutterYard$Stock", "slabCount", "I", "StonecutterYard"), ("StonecutterYard", 53, "StonecutterYard$Slab", "state", "I", "StonecutterYard"), ("StonecutterYard", 58, "StonecutterYard$Slab", "flawCount", "I", "StonecutterYard"), ("StonecutterYard", 93, "StonecutterYard$Slab", "wide", "I", "StonecutterYard"), ("StonecutterYard", 96, "StonecutterYard$Slab", "high", "I", "StonecutterYard"), ("StonecutterYard", 99, "StonecutterYard$Slab", "grain", "I", "StonecutterYard"), ("StonecutterYard", 102, "StonecutterYard$Slab", "from", "I", "StonecutterYard"), ("StonecutterYard", 120, "StonecutterYard$Stock", "kindCount", "I", "StonecutterYard"), ("StonecutterYard", 134, "StonecutterYard$Kind", "way", "I", "StonecutterYard"), ("StonecutterYard", 139, "StonecutterYard$Kind", "flawsLet", "I", "StonecutterYard"), ("StonecutterYard", 142, "StonecutterYard$Kind", "wanted", "I", "StonecutterYard"), ("StonecutterYard", 147, "StonecutterYard$Kind", "length", "I", "StonecutterYard"), ("StonecutterYard", 150, "StonecutterYard$Kind", "breadth", "I", "StonecutterYard"), ("StonecutterYard", 153, "StonecutterYard$Kind", "price", "I", "StonecutterYard"), ("StonecutterYard", 156, "StonecutterYard$Kind", "taken", "I", "StonecutterYard"), ("StonecutterYard", 159, "StonecutterYard$Kind", "paid", "I", "StonecutterYard"), ("StonecutterYard$Saw", 24, "StonecutterYard$Stock", "kerf", "I", "StonecutterYard"), ("StonecutterYard$Saw", 39, "StonecutterYard$Kind", "price", "I", "StonecutterYard"), ("StonecutterYard$Slab", 63, "StonecutterYard$Kind", "flawsLet", "I", "StonecutterYard"), ("StonecutterYard$Stock", 57, "StonecutterYard$Kind", "price", "I", "StonecutterYard"), ("StonecutterYard$Stock", 68, "StonecutterYard$Slab", "high", "I", "StonecutterYard"), ("StonecutterYard$Stock", 71, "StonecutterYard$Slab", "grain", "I", "StonecutterYard"), ("StonecutterYard$Stock", 78, "StonecutterYard$Slab", "wide", "I", "StonecutterYard"), ("StonecutterYard$Stock", 81, "StonecutterYard$Slab", "state", "I", "StonecutterYard"), ("StonecutterYard$Stock", 111, "StonecutterYard$Kind", "wanted", "I", "StonecutterYard"), ("StonecutterYard$Stock", 143, "StonecutterYard$Slab", "from", "I", "StonecutterYard"), ("StonecutterYard$Stock", 152, "StonecutterYard$Kind", "taken", "I", "StonecutterYard"), ("StonecutterYard$Stock", 155, "StonecutterYard$Kind", "length", "I", "StonecutterYard"), ("StonecutterYard$Stock", 158, "StonecutterYard$Kind", "breadth", "I", "StonecutterYard"), ("StonecutterYard$Stock", 161, "StonecutterYard$Kind", "paid", "I", "StonecutterYard")]
def gNsM : List (String × Nat × MethodName × String) := [("StonecutterYard", 21, ⟨"StonecutterYard$Saw", "<init>", "()V"⟩, "StonecutterYard"), ("StonecutterYard$Stock", 27, ⟨"StonecutterYard$Slab", "<init>", "()V"⟩, "StonecutterYard"), ("StonecutterYard$Stock", 28, ⟨"StonecutterYard$Kind", "<init>", "()V"⟩, "StonecutterYard")]
/-- what the tables say beside the words -/
def gT (_ : gK) (U : State) : Prop :=
  True ∧ True ∧ True ∧ va_AO RX2 U ∧ va_AO RX0 U ∧ True ∧ True ∧ True ∧ True ∧ True ∧ True ∧ (∀ q ∈ gNsF, va_Nw (.fieldLinkNest q.1 q.2.1 q.2.2.1 q.2.2.2.1 q.2.2.2.2.1 q.2.2.2.2.2) U) ∧ (∀ q ∈ gNsM, va_Nw (.methodLinkNest q.1 q.2.1 q.2.2.1 q.2.2.2) U)
theorem gT.moved {K : gK} {s U : State} (hW : s.WarmedH U.vm) (h : gT K s) : gT K U := by
  obtain ⟨h1, h2, h3, h4, h5, h6, h7, h8, h9, h10, h11, h12, h13⟩ := h
  exact ⟨h1, h2, h3, h4.moved hW.alike, h5.moved hW.alike, h6, h7, h8, h9, h10, h11, fun q hq => (h12 q hq).warmF hW, fun q hq => (h13 q hq).warmM hW⟩
/-- the surroundings of every call -/
def gE (K : gK) (_ : Nat → Prop) (U : State) (_ : Heap) : Prop :=
  va_K K.1 vwCl (gTys K.2.1) U ∧ True ∧ True ∧ True ∧ True ∧ True ∧ gT K U
theorem gE.at {K : gK} {A B : Nat → Prop} {s U : State} {H0 H : Heap} {locs : List Loc} (h : gE K A s H0) (_ : va_S A H0 H locs) (_ : ∀ q, B q → A q) (hW : s.WarmedH U.vm) : gE K B U H := by
  obtain ⟨h1, h2, h3, h4, h5, h6, h7⟩ := h
  exact ⟨va_K.moved hW.alike h1, h2, h3, h4, h5, h6, h7.moved hW⟩
/-- at a point of a method's walk -/
def gI (K : gK) (A : Nat → Prop) (s : State) (G : gW) (H : Heap) (locs : List Loc) : Prop := gP K.1 G H ∧ gIn A G ∧ va_S A s.heap H locs
/-- a method's start -/
def gPc (K : gK) (av : List Value) (G : gW) (sz : Nat) : Array Value → State → Prop := va_Pc av (fun U => U.heap.size = sz ∧ gP K.1 G U.heap ∧ gE K (gA G sz) U U.heap)
def gQ (K : gK) (post : Option Value → gW → Prop) (A : Nat → Prop) : Array Value → State → Outcome → State → Prop := fun _ st oc t => (∃ (v : Option Value) (G : gW), oc = .returned v ∧ post v G ∧ gP K.1 G t.heap ∧ gIn A G) ∧ va_F A st t
def gX (K : gK) (xp : String → gW → Prop) (A : Nat → Prop) : String → State → State → Prop := fun E st t => (∃ G : gW, xp E G ∧ gP K.1 G t.heap ∧ gIn A G) ∧ va_F A st t
abbrev gRoom (fr lo mc ms : Nat) : Room := { frames := fr, cells := mc, slots := ms, locals := lo }
/-- a method's contract: out of the world G with the arguments av it comes to a world of post, or throws by xp -/
def gM (l : Launch) (y : MethodName) (ws : List Cond) (fr lo mc ms : Nat) (K : gK) (av : List Value) (G : gW) (post : Option Value → gW → Prop) (xp : String → gW → Prop) : Prop :=
  ∀ sz : Nat, vx_Met l y ws (gRoom fr lo mc ms) (gPc K av G sz) (gQ K post (gA G sz)) (gX K xp (gA G sz)) mc ms (gA G sz)
abbrev gNo : String → gW → Prop := fun _ _ => False
/-- what a walk owes -/
abbrev gEnd (K : gK) (below : List Frame) (post : Option Value → gW → Prop) (xp : String → gW → Prop) (A : Nat → Prop) (args : Array Value) (s : State) (mc ms : Nat) : State → Prop := vx_MQ below (gQ K post A) (gX K xp A) args s mc ms A
theorem gPc.blind (K : gK) (av : List Value) (G : gW) (sz : Nat) : FrameBlind (gPc K av G sz) := by
  intro a U g mk h
  obtain ⟨h1, h2, h3, h4⟩ := h
  refine ⟨h1, h2, h3, ?_⟩
  exact gE.at (s := U) (U := U.calling g mk a) (H := U.heap) h4 va_S.rf (fun _ q => q) (State.WarmedH.refl U)
/-- what a walk has at its entry -/
theorem gM.of {l : Launch} {y : MethodName} {ws ws' : List Cond} {fr lo mc ms : Nat} {K : gK} {av : List Value} {G : gW} {post : Option Value → gW → Prop} {xp : String → gW → Prop} {cc : ByteArray} {maxL : Nat} {ret : Option FieldType}
    (hy : plainName y.cls = true) (hw : ws = Cond.code y cc maxL ret :: ws') (hn : (lg_sl av).length ≤ maxL)
    (body : ∀ (p : Program) (e : Env) (s : State) (m : MethodId) (below : List Frame) (meth : Method) (c : Code) (A : Nat → Prop), CallFix p m c cc maxL s av.toArray ws y.cls → meth.sig.returnType = ret → meth.locks = false → (∀ x ∈ c.exceptionTable.toList, False) → meth.name = y.name → gE K A s s.heap → (∀ q, s.heap.size ≤ q → A q) → gI K A s G s.heap [] → ∀ ls : Array Slot, lv_has ls maxL (lv_args 0 av) →
      W p l e (gRoom fr lo mc ms) s m av.toArray below meth c s.heap [] 0 0 (gEnd K below post xp A av.toArray s mc ms) (F0 m 0 ls [])) : gM l y ws fr lo mc ms K av G post xp := by
  intro sz
  refine vx_ofW (cc := cc) (maxL := maxL) (ret := ret) hy hw ?_
  intro p e s m args below meth c s₁ B hml htab hv
  obtain ⟨rfl, hsz, hP, hE⟩ := hv
  have hts := atoms_spec (ws := ws) B.pre
  have hown : s.vm.findClass y.cls = some m.cls := findClass_of_methodNamed B.named
  subst hsz
  have hl := lv_entry av (n := maxL) hn
  rw [lg_entry_eq]
  generalize (lg_sl av ++ List.replicate (maxL - (lg_sl av).length) Slot.unset).toArray = ls at hl ⊢
  exact body p e s m below meth c (gA G s.heap.size) ⟨B.exec, B.bytes, hml, hown, hts⟩ B.returns B.notSynchronized htab (name_of_methodNamed B.named B.method).1 hE (fun q h => Or.inr h) ⟨hP, gIn.self G _, va_S.rf⟩ ls hl
section GR
variable {p : Program} {l : Launch} {e : Env} {R : Room} {s : State} {m : MethodId} {args : Array Value} {below : List Frame} {meth : Method} {c : Code} {H : Heap} {locs : List Loc} {cells slots : Nat} {Q : State → Prop}
variable {cc : ByteArray} {pc nL : Nat} {ls : Array Slot} {rest : List Value} {K : gK} {A : Nat → Prop} {G : gW} {own : String} {Ts : List Cond}
/-- an object's cell is one of its class -/
theorem g_hro (hE : gE K A s s.heap) (hI : gI K A s G H locs) {t : gTag} {v ci N : Nat} {fs : List Value} {C : String} {T : u_T} (ht : G t = some (v, .inr (ci, fs))) (hc : vwCl[ci]? = some (C, T, N)) : ∃ cell : Cell, H[v]? = some cell ∧ cell.vm.isStatics = false ∧ s.vm.findClass C = some cell.cls :=
  va_recv (q0 := 0) hE.1 (hI.1.one ht) hc rfl
/-- an array's cell is one of its class -/
theorem g_hra (hE : gE K A s s.heap) (hI : gI K A s G H locs) {t : gTag} {v k : Nat} {x : vp_A} {ty : FieldType} {nm : String} (ht : G t = some (v, .inl (K.2.1 k, x))) (hk : (gTys K.2.1)[k]? = some (K.2.1 k, ty)) (hnm : "[" ++ ty.toString = nm) : ∃ cell : Cell, H[v]? = some cell ∧ cell.vm.isStatics = false ∧ s.vm.findClass nm = some cell.cls := by
  have h1 : H[v]? = some (vp_cell (K.2.1 k) x) := hI.1.1 t v _ ht
  have h2 := (hE.1.2 k _ hk).2
  refine ⟨_, h1, ?_, ?_⟩
  · obtain ⟨n, f | f | f | f | f⟩ := x <;> rfl
  · have hcl0 : (vp_cell (K.2.1 k) x).cls = K.2.1 k := by
      obtain ⟨n, f | f | f | f | f⟩ := x <;> rfl
    rw [hcl0, ← hnm]
    cases ty with
    | object C => obtain ⟨-, -, -, -, -, h4⟩ := h2; exact h4
    | _ => exact h2
theorem g_get (S : CallFix p m c cc nL s args Ts own) (hE : gE K A s s.heap) (hI : gI K A s G H locs) {C ref : String} {T : u_T} {N ci index : Nat} (hin : ∀ w ∈ u_ws C T N, w ∈ Ts) {t : gTag} {a : Nat} {fs : List Value} (ht : G t = some (a, .inr (ci, fs))) (hc : vwCl[ci]? = some (C, T, N)) (k : Nat) (hk : k < N) (hlink : Cond.fieldLink own index ref (T k).2.1 (T k).2.2.1 ∈ Ts) (hsame : ∀ x, s.fieldFound? (T k).1 (T k).2.1 (T k).2.2.1 = some x → s.fieldFound? ref (T k).2.1 (T k).2.2.1 = some x) {v : Value} (hv : fs[k]? = some v) (hdg : decode cc pc = .ok (.getfield index, 3))
    (kk : W p l e R s m args below meth c H locs cells slots Q (F0 m (pc + 3) ls (v :: rest))) : W p l e R s m args below meth c H locs cells slots Q (F0 m pc ls (.ref a :: rest)) :=
  va_get S.1 S.2.1 S.2.2.2.2 hin S.2.2.2.1 hE.1 (hI.1.one ht) 0 rfl hc k hk (S.2.2.2.2 _ hlink) hsame hv hdg kk
theorem g_put (S : CallFix p m c cc nL s args Ts own) (hE : gE K A s s.heap) (hI : gI K A s G H locs) {C ref : String} {T : u_T} {N ci index : Nat} (hin : ∀ w ∈ u_ws C T N, w ∈ Ts) (ty0 : Nat → FieldType) (hty : ∀ k, k < N → parseFieldDescriptor (T k).2.2.1 = some (ty0 k)) (hnm : ∀ a, a < N → ∀ b, b < N → a ≠ b → (T a).2.1 ≠ (T b).2.1) {t : gTag} {a : Nat} {fs : List Value} (ht : G t = some (a, .inr (ci, fs))) (hc : vwCl[ci]? = some (C, T, N)) (k : Nat) (hk : k < N) (hlink : Cond.fieldLink own index ref (T k).2.1 (T k).2.2.1 ∈ Ts) (hsame : ∀ x, s.fieldFound? (T k).1 (T k).2.1 (T k).2.2.1 = some x → s.fieldFound? ref (T k).2.1 (T k).2.2.1 = some x) (hfin : (T k).2.2.2 = false) {v : Value} (hn : narrow (ty0 k) v = v) (hfit : fits (ty0 k) v = true) (hl : k < fs.length) (hdg : decode cc pc = .ok (.putfield index, 3))
    (kk : ∀ (H1 : Heap) (locs1 : List Loc), gI K A s (gset G t a (.inr (ci, fs.set k v))) H1 locs1 → W p l e R s m args below meth c H1 locs1 cells slots Q (F0 m (pc + 3) ls rest)) : W p l e R s m args below meth c H locs cells slots Q (F0 m pc ls (v :: .ref a :: rest)) := by
  obtain ⟨hx, hb, hml, hown, hts⟩ := S
  obtain ⟨hP, hIn, hS0⟩ := hI
  have hK := hE.1
  have hap := va_apart (own := own) hts hin ty0 hty hnm hK hc
  obtain ⟨r, h1, cell, q1, q2, q3, q4⟩ := hP.1 t a _ ht
  have hr : r = (C, T, N) := Option.some.inj (h1.symm.trans hc)
  subst hr
  obtain ⟨hS, hfc, kC, hkC, hkind⟩ := hK.1 ci _ hc
  obtain ⟨cf, kf, fi, f, hi, hsl⟩ := hS k hk
  have hlay := hts _ (hin _ (u_in_lay hk))
  unfold u_lay at hlay
  rw [if_neg (by rw [hfin]; decide)] at hlay
  have hst := (u_facts hfc hkC (u_lays hts hin hk) hi).1
  have h6 := u_store hfc hkC hkind hlay hi (hty k hk) hn hfit
  refine W.putK hx hb (f := f) ⟨hown, hts _ hlink, ⟨_, _, _, hsame _ hi⟩, hst⟩ (by rw [q2]; exact h6) q1 q3 (by rw [hsl]; exact k2_hasslot (q4 k hk)) rfl rfl hdg fun H' e1 e2 e3 => ?_
  rw [hsl] at e1 ⊢
  exact kk H' _ ⟨hP.put ht ⟨_, hc, t_OB.to (V := updV (vp_V fs) k v) ⟨_, e1, q2, q3, t_set q4 hap hk v⟩ (fun j _ => vp_updV_set hl v j)⟩ e3, hIn.put (hIn t a _ ht), hS0.put e2 e3 (hIn t a _ ht)⟩
theorem g_getN (S : CallFix p m c cc nL s args Ts own) (hE : gE K A s s.heap) (hI : gI K A s G H locs) {C ref host : String} {T : u_T} {N ci index : Nat} (hin : ∀ w ∈ u_ws C T N, w ∈ Ts) {t : gTag} {a : Nat} {fs : List Value} (ht : G t = some (a, .inr (ci, fs))) (hc : vwCl[ci]? = some (C, T, N)) (k : Nat) (hk : k < N) (hlink : (own, index, ref, (T k).2.1, (T k).2.2.1, host) ∈ gNsF) (hsame : ∀ x, s.fieldFound? (T k).1 (T k).2.1 (T k).2.2.1 = some x → s.fieldFound? ref (T k).2.1 (T k).2.2.1 = some x) {v : Value} (hv : fs[k]? = some v) (hdg : decode cc pc = .ok (.getfield index, 3))
    (kk : W p l e R s m args below meth c H locs cells slots Q (F0 m (pc + 3) ls (v :: rest))) : W p l e R s m args below meth c H locs cells slots Q (F0 m pc ls (.ref a :: rest)) :=
  va_getN S.1 S.2.1 S.2.2.2.2 hin S.2.2.2.1 hE.1 (hI.1.one ht) 0 rfl hc k hk ((hE.2.2.2.2.2.2.2.2.2.2.2.2.2.2.2.2.2.1 _ hlink).use rfl) hsame hv hdg kk
theorem g_putN (S : CallFix p m c cc nL s args Ts own) (hE : gE K A s s.heap) (hI : gI K A s G H locs) {C ref host : String} {T : u_T} {N ci index : Nat} (hin : ∀ w ∈ u_ws C T N, w ∈ Ts) (ty0 : Nat → FieldType) (hty : ∀ k, k < N → parseFieldDescriptor (T k).2.2.1 = some (ty0 k)) (hnm : ∀ a, a < N → ∀ b, b < N → a ≠ b → (T a).2.1 ≠ (T b).2.1) {t : gTag} {a : Nat} {fs : List Value} (ht : G t = some (a, .inr (ci, fs))) (hc : vwCl[ci]? = some (C, T, N)) (k : Nat) (hk : k < N) (hlink : (own, index, ref, (T k).2.1, (T k).2.2.1, host) ∈ gNsF) (hsame : ∀ x, s.fieldFound? (T k).1 (T k).2.1 (T k).2.2.1 = some x → s.fieldFound? ref (T k).2.1 (T k).2.2.1 = some x) (hfin : (T k).2.2.2 = false) {v : Value} (hn : narrow (ty0 k) v = v) (hfit : fits (ty0 k) v = true) (hl : k < fs.length) (hdg : decode cc pc = .ok (.putfield index, 3))
    (kk : ∀ (H1 : Heap) (locs1 : List Loc), gI K A s (gset G t a (.inr (ci, fs.set k v))) H1 locs1 → W p l e R s m args below meth c H1 locs1 cells slots Q (F0 m (pc + 3) ls rest)) : W p l e R s m args below meth c H locs cells slots Q (F0 m pc ls (v :: .ref a :: rest)) := by
  obtain ⟨hx, hb, hml, hown, hts⟩ := S
  obtain ⟨hP, hIn, hS0⟩ := hI
  have hK := hE.1
  have hap := va_apart (own := own) hts hin ty0 hty hnm hK hc
  obtain ⟨r, h1, cell, q1, q2, q3, q4⟩ := hP.1 t a _ ht
  have hr : r = (C, T, N) := Option.some.inj (h1.symm.trans hc)
  subst hr
  obtain ⟨hS, hfc, kC, hkC, hkind⟩ := hK.1 ci _ hc
  obtain ⟨cf, kf, fi, f, hi, hsl⟩ := hS k hk
  have hlay := hts _ (hin _ (u_in_lay hk))
  unfold u_lay at hlay
  rw [if_neg (by rw [hfin]; decide)] at hlay
  have hst := (u_facts hfc hkC (u_lays hts hin hk) hi).1
  have h6 := u_store hfc hkC hkind hlay hi (hty k hk) hn hfit
  refine va_WputK hx hb (f := f) hown ((hE.2.2.2.2.2.2.2.2.2.2.2.2.2.2.2.2.2.1 _ hlink).use rfl) (hsame _ hi) hst (by rw [q2]; exact h6) q1 q3 (by rw [hsl]; exact k2_hasslot (q4 k hk)) rfl rfl hdg fun H' e1 e2 e3 => ?_
  rw [hsl] at e1 ⊢
  exact kk H' _ ⟨hP.put ht ⟨_, hc, t_OB.to (V := updV (vp_V fs) k v) ⟨_, e1, q2, q3, t_set q4 hap hk v⟩ (fun j _ => vp_updV_set hl v j)⟩ e3, hIn.put (hIn t a _ ht), hS0.put e2 e3 (hIn t a _ ht)⟩
theorem g_putF (S : CallFix p m c cc nL s args Ts own) (hE : gE K A s s.heap) (hI : gI K A s G H locs) {C ref : String} {T : u_T} {N ci index : Nat} (hin : ∀ w ∈ u_ws C T N, w ∈ Ts) (ty0 : Nat → FieldType) (hty : ∀ k, k < N → parseFieldDescriptor (T k).2.2.1 = some (ty0 k)) (hnm : ∀ a, a < N → ∀ b, b < N → a ≠ b → (T a).2.1 ≠ (T b).2.1) {t : gTag} {a : Nat} {fs : List Value} (ht : G t = some (a, .inr (ci, fs))) (hc : vwCl[ci]? = some (C, T, N)) (k : Nat) (hk : k < N) (hlink : Cond.fieldLink own index ref (T k).2.1 (T k).2.2.1 ∈ Ts) (hsame : ∀ x, s.fieldFound? (T k).1 (T k).2.1 (T k).2.2.1 = some x → s.fieldFound? ref (T k).2.1 (T k).2.2.1 = some x) (hfin : (T k).2.2.2 = true) (hin2 : meth.name = "<init>") (hdecl : (T k).1 = own) {v : Value} (hn : narrow (ty0 k) v = v) (hfit : fits (ty0 k) v = true) (hl : k < fs.length) (hdg : decode cc pc = .ok (.putfield index, 3))
    (kk : ∀ (H1 : Heap) (locs1 : List Loc), gI K A s (gset G t a (.inr (ci, fs.set k v))) H1 locs1 → W p l e R s m args below meth c H1 locs1 cells slots Q (F0 m (pc + 3) ls rest)) : W p l e R s m args below meth c H locs cells slots Q (F0 m pc ls (v :: .ref a :: rest)) := by
  obtain ⟨hx, hb, hml, hown, hts⟩ := S
  obtain ⟨hP, hIn, hS0⟩ := hI
  have hK := hE.1
  have hap := va_apart (own := own) hts hin ty0 hty hnm hK hc
  obtain ⟨r, h1, cell, q1, q2, q3, q4⟩ := hP.1 t a _ ht
  have hr : r = (C, T, N) := Option.some.inj (h1.symm.trans hc)
  subst hr
  obtain ⟨hS, hfc, kC, hkC, hkind⟩ := hK.1 ci _ hc
  obtain ⟨cf, kf, fi, f, hi, hsl⟩ := hS k hk
  have hlay := hts _ (hin _ (u_in_lay hk))
  unfold u_lay at hlay
  rw [if_pos hfin] at hlay
  have hst := (u_facts hfc hkC (u_lays hts hin hk) hi).1
  have hcf : m.cls = cf := by
    obtain ⟨_, _, c', _, _, _, -, -, hf', -, -, -, hown2, -⟩ := Cond.laysFinal_spec hlay
    have e1 : c' = cf := by have := hi.symm.trans hf'; simp at this; exact this.1.symm
    rw [hdecl] at hown2
    rw [← e1]; exact Option.some.inj (hown.symm.trans hown2)
  have h6 := u_fits hfc hkC hkind (Or.inr hlay) hi (hty k hk) hn hfit
  refine W.putFinK hx hb hown (hts _ hlink) (hsame _ hi) hst hcf hin2 (by rw [q2]; exact h6) q1 q3 (by rw [hsl]; exact k2_hasslot (q4 k hk)) rfl rfl hdg fun H' e1 e2 e3 => ?_
  rw [hsl] at e1 ⊢
  exact kk H' _ ⟨hP.put ht ⟨_, hc, t_OB.to (V := updV (vp_V fs) k v) ⟨_, e1, q2, q3, t_set q4 hap hk v⟩ (fun j _ => vp_updV_set hl v j)⟩ e3, hIn.put (hIn t a _ ht), hS0.put e2 e3 (hIn t a _ ht)⟩
theorem g_alen (S : CallFix p m c cc nL s args Ts own) (hE : gE K A s s.heap) (hI : gI K A s G H locs) {t : gTag} {a k n : Nat} {ty : FieldType} {x : ((Nat → Int32) ⊕ (Nat → Int64) ⊕ (Nat → UInt32) ⊕ (Nat → UInt64) ⊕ (Nat → Option Nat))} (ht : G t = some (a, .inl (K.2.1 k, n, x))) (hk : (gTys K.2.1)[k]? = some (K.2.1 k, ty)) {v : Int32} (hv : Int32.ofNat n = v) (hdg : decode cc pc = .ok (.arraylength, 1))
    (kk : W p l e R s m args below meth c H locs cells slots Q (F0 m (pc + 1) ls (.int v :: rest))) : W p l e R s m args below meth c H locs cells slots Q (F0 m pc ls (.ref a :: rest)) := by
  exact va_alen S.1 S.2.1 hE.1 (hI.1.one ht) 0 k rfl hk hv hdg kk
theorem g_iald (S : CallFix p m c cc nL s args Ts own) (hE : gE K A s s.heap) (hI : gI K A s G H locs) {t : gTag} {a n j : Nat} {f : Nat → Int32} (ht : G t = some (a, .inl (K.2.1 0, n, .inl f))) {i : Int32} (hi : i = nI j) (hj : j < n) (hn : n < 2 ^ 31) (hdg : decode cc pc = .ok (.iaload, 1))
    (kk : W p l e R s m args below meth c H locs cells slots Q (F0 m (pc + 1) ls (.int (f j) :: rest))) : W p l e R s m args below meth c H locs cells slots Q (F0 m pc ls (.int i :: .ref a :: rest)) := by
  subst hi
  refine va_iald S.1 S.2.1 hE.1 (hI.1.one ht) 0 0 rfl rfl (vp_in_nI hj hn) hdg ?_
  rw [nI_clamp (Nat.lt_trans hj hn)]
  exact kk
theorem g_iast (S : CallFix p m c cc nL s args Ts own) (hE : gE K A s s.heap) (hI : gI K A s G H locs) {t : gTag} {a n j : Nat} {f : Nat → Int32} (ht : G t = some (a, .inl (K.2.1 0, n, .inl f))) {i x : Int32} (hi : i = nI j) (hj : j < n) (hn : n < 2 ^ 31) (hdg : decode cc pc = .ok (.iastore, 1))
    (kk : ∀ (H1 : Heap) (locs1 : List Loc), gI K A s (gset G t a (.inl (K.2.1 0, n, .inl (upd f j x)))) H1 locs1 → W p l e R s m args below meth c H1 locs1 cells slots Q (F0 m (pc + 1) ls rest)) : W p l e R s m args below meth c H locs cells slots Q (F0 m pc ls (.int x :: .int i :: .ref a :: rest)) := by
  obtain ⟨hP, hIn, hS⟩ := hI
  subst hi
  have hin := vp_in_nI hj hn
  have hc := nI_clamp (Nat.lt_trans hj hn)
  refine W.iast S.1 S.2.1 (hP.1 t a _ ht) ((hE.1.2 0 _ rfl).1 n (fun j => .int (f j))) (fun q => by cases q) (by show ¬ (nI j < 0 ∨ (arrV _ _ _).slots.size ≤ _); rw [arrV_size]; exact hin) rfl rfl hdg fun H1 e z oq => ?_
  refine kk H1 _ ⟨hP.put ht ?_ oq, hIn.put (hIn t a _ ht), hS.put z oq (hIn t a _ ht)⟩
  show H1[a]? = some (vp_cell _ _)
  rw [e, hc]
  rw [vp_cell_i, vp_cell_i, arrV_store]
  congr 2
  funext q
  by_cases hq : q = j
  · subst hq
    simp [updV, upd]
  · simp [updV, upd, hq]
theorem g_aald (S : CallFix p m c cc nL s args Ts own) (hE : gE K A s s.heap) (hI : gI K A s G H locs) {t : gTag} {a n j k : Nat} {ty : FieldType} {f : Nat → Option Nat} (ht : G t = some (a, .inl (K.2.1 k, n, .inr (.inr (.inr (.inr f)))))) (hk : (gTys K.2.1)[k]? = some (K.2.1 k, ty)) (hty : ty.isReference = true) {i : Int32} (hi : i = nI j) (hj : j < n) (hn : n < 2 ^ 31) {v : Value} (hv : va_rf (f j) = v) (hdg : decode cc pc = .ok (.aaload, 1))
    (kk : W p l e R s m args below meth c H locs cells slots Q (F0 m (pc + 1) ls (v :: rest))) : W p l e R s m args below meth c H locs cells slots Q (F0 m pc ls (.int i :: .ref a :: rest)) := by
  subst hi
  subst hv
  have hc := nI_clamp (Nat.lt_trans hj hn)
  have hin := vp_in_nI hj hn
  exact W.aald (v := va_rf (f j)) (ty := ty) S.1 S.2.1 (hI.1.1 t a _ ht) ((hE.1.2 k _ hk).1 n (fun j => va_rf (f j))) hty (fun q => by cases q) (by show ¬ (nI j < 0 ∨ (arrV _ _ _).slots.size ≤ _); rw [arrV_size]; exact hin) (by show (arrV _ _ _).slots[_]? = _; rw [hc, arrV_read _ _ hj]) rfl rfl hdg kk
theorem g_aast (S : CallFix p m c cc nL s args Ts own) (hE : gE K A s s.heap) (hI : gI K A s G H locs) {t : gTag} {a n j k v : Nat} {ty : FieldType} {f : Nat → Option Nat} (ht : G t = some (a, .inl (K.2.1 k, n, .inr (.inr (.inr (.inr f)))))) (hk : (gTys K.2.1)[k]? = some (K.2.1 k, ty)) (hty : ty.isReference = true) {C : String} (hr : ∃ cellV : Cell, H[v]? = some cellV ∧ cellV.vm.isStatics = false ∧ s.vm.findClass C = some cellV.cls) (hcomp : ∀ (kA : Class) (comp : ClassId), s.vm.classes[K.2.1 k]? = some kA → kA.kind = .array comp ty → ∀ c0 : ClassId, s.vm.findClass C = some c0 → s.vm.assignable c0 comp = true ∧ ∃ kc, s.vm.classes[comp]? = some kc) {i : Int32} (hi : i = nI j) (hj : j < n) (hn : n < 2 ^ 31) (hdg : decode cc pc = .ok (.aastore, 1))
    (kk : ∀ (H1 : Heap) (locs1 : List Loc), gI K A s (gset G t a (.inl (K.2.1 k, n, .inr (.inr (.inr (.inr (va_up f j (some v)))))))) H1 locs1 → W p l e R s m args below meth c H1 locs1 cells slots Q (F0 m (pc + 1) ls rest)) : W p l e R s m args below meth c H locs cells slots Q (F0 m pc ls (.ref v :: .int i :: .ref a :: rest)) := by
  obtain ⟨hP, hIn, hS⟩ := hI
  subst hi
  have hc := nI_clamp (Nat.lt_trans hj hn)
  have h0 : ¬ nI j < 0 := nI_pos (Nat.lt_trans hj hn)
  obtain ⟨cellV, g1, g3, g2⟩ := hr
  obtain ⟨-, kA, k1, comp, k2⟩ := (hE.1.2 k _ hk).1 0 (fun _ => .null)
  obtain ⟨hasg, kE, hkE⟩ := hcomp kA comp k1 k2 _ g2
  obtain ⟨kC, hkC, -⟩ := Vm.findClass_spec g2
  refine W.aast S.1 S.2.1 (hP.1 t a _ ht) (fun q h => by cases h) (fun h => by cases h) k1 k2 hty hkE ⟨h0, by show _ < (arrV _ _ _).slots.size; rw [arrV_size, hc]; exact hj⟩ g1 (fun q h => by rw [h] at g3; cases g3) hkC hasg rfl rfl hdg fun H1 e z oq => ?_
  refine kk H1 _ ⟨hP.put ht ?_ oq, hIn.put (hIn t a _ ht), hS.put z oq (hIn t a _ ht)⟩
  show H1[a]? = some (vp_cell _ _)
  rw [e, hc]
  rw [vp_cell_q, vp_cell_q, arrV_store]
  congr 2
  funext q
  by_cases hq : q = j
  · subst hq
    simp [updV, va_up, va_rf]
  · simp [updV, va_up, hq]
theorem g_new (S : CallFix p m c cc nL s args Ts own) (hE : gE K A s s.heap) (hI : gI K A s G H locs) (hA : ∀ q, s.heap.size ≤ q → A q) {C : String} {T : u_T} {N ci index : Nat} (hin : ∀ w ∈ u_ws C T N, w ∈ Ts) (ty : Nat → FieldType) (hty : ∀ k, k < N → parseFieldDescriptor (T k).2.2.1 = some (ty k)) (hcl : Cond.classLink own index C ∈ Ts) (hinst : Cond.instantiable C N ∈ Ts) (hini : Cond.initialized C ∈ Ts) (hc : vwCl[ci]? = some (C, T, N)) {fs : List Value} (hfs : ∀ j, j < N → defaultValue (ty j) = vp_V fs j) (t : gTag) (hcells : cells + 1 ≤ R.cells) (hslots : slots + N ≤ R.slots) (hdg : decode cc pc = .ok (.new index, 3))
    (kk : ∀ (q : Nat) (H1 : Heap), H.size ≤ q → gI K A s (gset G t q (.inr (ci, fs))) H1 locs → W p l e R s m args below meth c H1 locs (cells + 1) (slots + N) Q (F0 m (pc + 3) ls (.ref q :: rest))) : W p l e R s m args below meth c H locs cells slots Q (F0 m pc ls rest) := by
  obtain ⟨hx, hb, hml, hown, hts⟩ := S
  obtain ⟨hP, hIn, hS⟩ := hI
  have hKn := hE.1.1 ci _ hc
  refine W.newcK hx hb hown (hts _ hcl) (hts _ hinst) (hts _ hini) rfl hdg hcells hslots hKn.2.1 rfl fun H1 kC hkC e1 z1 o1 => ?_
  exact kk H.size H1 (Nat.le_refl _) ⟨hP.new t ⟨_, hc, (u_born ty hts hin hKn hkC e1 hty).to hfs⟩ o1, hIn.put (hA _ hS.1), ⟨Nat.le_trans hS.1 (by omega), fun x h1 h2 => (o1 x (Nat.lt_of_lt_of_le h1 hS.1)).trans (hS.2.1 x h1 h2), hS.2.2⟩⟩
theorem g_newP (S : CallFix p m c cc nL s args Ts own) (hE : gE K A s s.heap) (hI : gI K A s G H locs) (hA : ∀ q, s.heap.size ≤ q → A q) {atype : ArrayType} {ty : FieldType} (hty : newarray.typeOf atype = ty) (harr : Cond.arrayClass ty ∈ Ts) (k : Nat) (hk : (gTys K.2.1)[k]? = some (K.2.1 k, ty)) (hra : ∀ cA : ClassId, va_RA s (K.2.1 k) ty → s.vm.findClass ("[" ++ ty.toString) = some cA → K.2.1 k = cA) {n : Int32} {N' : Nat} {a0 : vp_A} (ha : ∀ cA : ClassId, vp_cell cA a0 = arrV cA N' (fun _ => defaultValue ty)) (hn : n = nI N') (hn2 : N' < 1000000) (hbytes : N' * componentBytes ty ≤ 536870912) (t : gTag) (hcells : cells + 1 ≤ R.cells) (hslots : slots + N' ≤ R.slots) (hdg : decode cc pc = .ok (.newarray atype, 2))
    (kk : ∀ (q : Nat) (H1 : Heap), H.size ≤ q → gI K A s (gset G t q (.inl (K.2.1 k, a0))) H1 locs → W p l e R s m args below meth c H1 locs (cells + 1) (slots + N') Q (F0 m (pc + 2) ls (.ref q :: rest))) : W p l e R s m args below meth c H locs cells slots Q (F0 m pc ls (.int n :: rest)) := by
  obtain ⟨hx, hb, hml, hown, hts⟩ := S
  obtain ⟨hP, hIn, hS⟩ := hI
  subst hty
  subst hn
  refine va_newaK hx hb (hts _ harr) rfl hdg rfl (nI_pos (by omega)) (nI_clamp (by omega)) hbytes hcells hslots rfl fun H1 cA e1 z1 o1 hAr hNm => ?_
  have hcA : K.2.1 k = cA := hra cA (hE.1.2 k _ hk).2 hNm
  refine kk H.size H1 (Nat.le_refl _) ⟨hP.new t ?_ o1, hIn.put (hA _ hS.1), ⟨Nat.le_trans hS.1 (by omega), fun x h1 h2 => (o1 x (Nat.lt_of_lt_of_le h1 hS.1)).trans (hS.2.1 x h1 h2), hS.2.2⟩⟩
  show H1[H.size]? = some (vp_cell _ _)
  rw [ha, hcA]
  exact e1
theorem g_newI (S : CallFix p m c cc nL s args Ts own) (hE : gE K A s s.heap) (hI : gI K A s G H locs) (hA : ∀ q, s.heap.size ≤ q → A q) (harr : Cond.arrayClass .int ∈ Ts) {n : Int32} {N' : Nat} (hn : n = nI N') (hn2 : N' < 1000000) (t : gTag) (hcells : cells + 1 ≤ R.cells) (hslots : slots + N' ≤ R.slots) (hdg : decode cc pc = .ok (.newarray .int, 2))
    (kk : ∀ (q : Nat) (H1 : Heap), H.size ≤ q → gI K A s (gset G t q (.inl (K.2.1 0, N', .inl (fun _ => 0)))) H1 locs → W p l e R s m args below meth c H1 locs (cells + 1) (slots + N') Q (F0 m (pc + 2) ls (.ref q :: rest))) : W p l e R s m args below meth c H locs cells slots Q (F0 m pc ls (.int n :: rest)) :=
  g_newP S hE hI hA (ty := .int) rfl harr 0 rfl (fun cA h1 h2 => Option.some.inj (h1.symm.trans h2)) (fun cA => vp_cell_i _ _ _) hn hn2 (by show N' * 4 ≤ _; omega) t hcells hslots hdg kk
theorem g_newA (S : CallFix p m c cc nL s args Ts own) (hE : gE K A s s.heap) (hI : gI K A s G H locs) (hA : ∀ q, s.heap.size ≤ q → A q) {C : String} {index : Nat} (hcl : Cond.classLink own index C ∈ Ts) (hover : va_AO C s) (k : Nat) (hk : (gTys K.2.1)[k]? = some (K.2.1 k, .object C)) {n : Int32} {N' : Nat} (hn : n = nI N') (hn2 : N' < 1000000) (t : gTag) (hcells : cells + 1 ≤ R.cells) (hslots : slots + N' ≤ R.slots) (hdg : decode cc pc = .ok (.anewarray index, 3))
    (kk : ∀ (q : Nat) (H1 : Heap), H.size ≤ q → gI K A s (gset G t q (.inl (K.2.1 k, N', .inr (.inr (.inr (.inr (fun _ => none))))))) H1 locs → W p l e R s m args below meth c H1 locs (cells + 1) (slots + N') Q (F0 m (pc + 3) ls (.ref q :: rest))) : W p l e R s m args below meth c H locs cells slots Q (F0 m pc ls (.int n :: rest)) := by
  obtain ⟨hx, hb, hml, hown, hts⟩ := S
  obtain ⟨hP, hIn, hS⟩ := hI
  subst hn
  have hcl32 := nI_clamp (n := N') (by omega)
  refine W.anew hx hb hown (hts _ hcl) hover.use rfl hdg rfl (nI_pos (by omega)) (by rw [hcl32]; omega) hcells (by rw [hcl32]; exact hslots) fun cA kA comp f1 f2 f3 f4 => ?_
  rw [hcl32]
  have hcA : K.2.1 k = cA := by
    obtain ⟨_, _, _, _, _, h9⟩ := (hE.1.2 k _ hk).2
    exact Option.some.inj (h9.symm.trans f1)
  generalize hH1 : H.push ({ cls := cA, slots := Array.replicate N' .null, vm := .none } : Cell) = H1
  have z1 : H1.size = H.size + 1 := by rw [← hH1, Array.size_push]
  have e1 : H1[H.size]? = some (arrV cA N' (fun _ => .null)) := by rw [← hH1, Array.getElem?_push_size, ← arrV_new]
  have o1 : ∀ q : Nat, q < H.size → H1[q]? = H[q]? := fun q hq => by rw [← hH1, Array.getElem?_push, if_neg (Nat.ne_of_lt hq)]
  refine kk H.size H1 (Nat.le_refl _) ⟨hP.new t ?_ o1, hIn.put (hA _ hS.1), ⟨Nat.le_trans hS.1 (by omega), fun x h1 h2 => (o1 x (Nat.lt_of_lt_of_le h1 hS.1)).trans (hS.2.1 x h1 h2), hS.2.2⟩⟩
  show H1[H.size]? = some (vp_cell _ _)
  rw [vp_cell_q, hcA]
  exact e1
end GR
