/-! rows of rows: what one instruction makes, seen as a run of pushes and stores -/
def mqF (h i : Nat) : Nat → Value := fun j => if j < i then .ref (h + 1 + j) else .null
theorem mqF_s (h i : Nat) : updV (mqF h i) i (.ref (h + 1 + i)) = mqF h (i + 1) := by
  funext j
  show (if j = i then _ else (if j < i then Value.ref (h + 1 + j) else .null)) = (if j < i + 1 then Value.ref (h + 1 + j) else .null)
  by_cases c : j = i
  · subst c
    rw [if_pos rfl, if_pos (Nat.lt_succ_self _)]
  · rw [if_neg c]
    by_cases d : j < i
    · rw [if_pos d, if_pos (Nat.lt_succ_of_lt d)]
    · rw [if_neg d, if_neg (by omega)]
def mqS (T : State) (ca ci : ClassId) (N M : Nat) : Nat → State
  | 0 => T.pushCell (arrV ca N (mqF T.heap.size 0))
  | i + 1 => ((mqS T ca ci N M i).pushCell (arrV ci M (fun _ => .int 0))).setCell T.heap.size (arrV ca N (mqF T.heap.size (i + 1)))
theorem mqS_f (T : State) (ca ci : ClassId) (N M : Nat) : ∀ i : Nat, (mqS T ca ci N M i).heap.size = T.heap.size + 1 + i ∧ (mqS T ca ci N M i).heap[T.heap.size]? = some (arrV ca N (mqF T.heap.size i)) ∧ (mqS T ca ci N M i).vm = T.vm ∧ (mqS T ca ci N M i).slotsUsed = T.slotsUsed + N + i * M
  | 0 => ⟨by simp [mqS], by simp [mqS], rfl, by simp [mqS, arrV_size]⟩
  | i + 1 => by
    obtain ⟨a, b, d, u⟩ := mqS_f T ca ci N M i
    have hlt : T.heap.size < (mqS T ca ci N M i).heap.size := by omega
    have hb : ((mqS T ca ci N M i).pushCell (arrV ci M (fun _ => .int 0))).heap[T.heap.size]? = some (arrV ca N (mqF T.heap.size i)) := by rw [State.heap_pushCell_of_lt (h := hlt)]; exact b
    refine ⟨?_, State.heap_setCell_self hb, by simp [mqS, d], ?_⟩
    · simp [mqS, State.setCell, a]; omega
    · simp [mqS, u, arrV_size, Nat.succ_mul]; omega
theorem mqS_top (T : State) (f : JFrame) (ca ci : ClassId) (N M : Nat) : ∀ i : Nat, mqS (T.setTop f) ca ci N M i = (mqS T ca ci N M i).setTop f
  | 0 => rfl
  | i + 1 => by simp only [mqS, mqS_top T f ca ci N M i, State.heap_setTop, State.pushCell_setTop, State.setCell_setTop]
theorem mqS_old (T : State) (ca ci : ClassId) (N M : Nat) {a : Nat} (ha : a < T.heap.size) : ∀ i : Nat, (mqS T ca ci N M i).heap[a]? = T.heap[a]?
  | 0 => State.heap_pushCell_of_lt _ _ ha
  | i + 1 => by
    have f1 := (mqS_f T ca ci N M i).1
    have hlt : a < (mqS T ca ci N M i).heap.size := by omega
    show (((mqS T ca ci N M i).pushCell _).setCell T.heap.size _).heap[a]? = _
    rw [State.heap_setCell_other (Nat.ne_of_gt ha), State.heap_pushCell_of_lt (h := hlt)]
    exact mqS_old T ca ci N M ha i
theorem mqS_row (T : State) (ca ci : ClassId) (N M : Nat) : ∀ i j : Nat, j < i → (mqS T ca ci N M i).heap[T.heap.size + 1 + j]? = some (arrV ci M (fun _ => .int 0))
  | 0, _, h => absurd h (Nat.not_lt_zero _)
  | i + 1, j, h => by
    have f1 := (mqS_f T ca ci N M i).1
    show (((mqS T ca ci N M i).pushCell _).setCell T.heap.size _).heap[T.heap.size + 1 + j]? = _
    rw [State.heap_setCell_other (show T.heap.size ≠ T.heap.size + 1 + j by omega)]
    by_cases c : j < i
    · have hlt : T.heap.size + 1 + j < (mqS T ca ci N M i).heap.size := by omega
      rw [State.heap_pushCell_of_lt (h := hlt)]
      exact mqS_row T ca ci N M i j c
    · rw [show T.heap.size + 1 + j = (mqS T ca ci N M i).heap.size by omega]
      exact State.heap_pushCell_size _ _
section MQX
variable {p : Program} {l : Launch} {e : Env} {R : Room} {s : State} {m : MethodId} {args : Array Value} {below : List Frame} {meth : Method} {c : Code} {T : State} {locs : List Loc} {cells slots : Nat}
theorem mqS_X (X : Stand p l e R s m args below meth c T locs cells slots) (ca ci : ClassId) (N M : Nat) : ∀ i : Nat, Stand p l e R s m args below meth c (mqS T ca ci N M i) locs (cells + 1 + i) (slots + N + i * M)
  | 0 => by
    have h := X.pushed (arrV ca N (mqF T.heap.size 0))
    rw [arrV_size] at h
    simpa [mqS] using h
  | i + 1 => by
    obtain ⟨a, b, -, -⟩ := mqS_f T ca ci N M i
    have hlt : T.heap.size < (mqS T ca ci N M i).heap.size := by omega
    have hb : ((mqS T ca ci N M i).pushCell (arrV ci M (fun _ => .int 0))).heap[T.heap.size]? = some (arrV ca N (mqF T.heap.size i)) := by rw [State.heap_pushCell_of_lt (h := hlt)]; exact b
    have h := (((mqS_X X ca ci N M i).pushed (arrV ci M (fun _ => .int 0))).stored hb i (.ref (T.heap.size + 1 + i))).dropFresh (fun x hx => by
      rw [List.mem_singleton.mp hx]
      exact X.heapGrown)
    rw [arrV_size, arrV_store, mqF_s] at h
    rw [show slots + N + (i + 1) * M = slots + N + i * M + M by rw [Nat.succ_mul]; omega]
    exact h
end MQX
section MQW
variable {E : CtlPost} {e : Env} {d : Bool} {acts : List Action} {T : State}
theorem mq_wp {ca ci cc : ClassId} {k kc : Class} {n m : Int32} {N M : Nat} (hk : T.vm.classes[ca]? = some k) (hkind : k.kind = .array ci (.array .int)) (hkc : T.vm.classes[ci]? = some kc) (hkindc : kc.kind = .array cc .int) (hn : ¬ n < 0) (hm : ¬ m < 0) (hN : n.toNatClampNeg = N) (hM : m.toNatClampNeg = M)
    (hl1 : ¬ N > e.platform.arrayLengthLimit) (hh1 : ¬ N * componentBytes (.array .int) > e.platform.maxHeapBytes) (hl2 : ¬ M > e.platform.arrayLengthLimit) (hh2 : ¬ M * componentBytes .int > e.platform.maxHeapBytes) (hc : T.heap.size + 1 + N ≤ e.platform.maxCells) (hs : T.slotsUsed + N + N * M ≤ e.platform.maxSlots)
    {Q : Addr → Pre} (hq : ∀ d' acts', Q T.heap.size d' acts' (mqS T ca ci N M N)) : wp (Op.multianewarray.make ca [n, m]) Q E e d acts T := by
  have hfind : ([m].find? (· < 0)) = none := by simp [hm]
  rw [Op.multianewarray.make]
  simp only [wp_bind', W.ite, hn, if_false, wp_pure', W.theClass, hk, hkind, Option.some.injEq, exists_eq_left']
  rw [hN]
  refine W.newArray_of hk hkind hl1 hh1 (by omega) (by have := Nat.zero_le (N * M); omega) rfl (fun acts1 => ?_)
  rw [show T.pushCell ({ cls := ca, slots := Array.replicate N .null } : Cell) = mqS T ca ci N M 0 by
    show _ = T.pushCell (arrV ca N _)
    rw [show ({ cls := ca, slots := Array.replicate N .null } : Cell) = arrV ca N (fun _ => .null) from arrV_new ca N .null]
    rfl]
  simp only [hfind]
  rw [ite_self, wp_bind', Std.Legacy.Range.forIn_eq_forIn_range']
  have hsz : ([:N] : Std.Legacy.Range).size = N := by simp [Std.Legacy.Range.size]
  rw [hsz]
  show wp (forIn (List.range' 0 N 1) PUnit.unit _) _ E e d acts1 _
  refine wp_forIn_inv (fun rest s9 => ∃ i, i ≤ N ∧ rest = List.range' i (N - i) ∧ s9 = mqS T ca ci N M i) _ _ ⟨0, Nat.zero_le _, rfl, rfl⟩ ?_ ?_
  · rintro x rest s9 d9 acts9 Q9 ⟨i, hi, hl, rfl⟩ hnext
    have hlt : i < N := by
      rcases Nat.lt_or_ge i N with h | h
      · exact h
      · rw [show N - i = 0 by omega] at hl
        simp at hl
    rw [show N - i = (N - (i + 1)) + 1 by omega, List.range'_succ] at hl
    obtain ⟨rfl, hrest⟩ := List.cons.inj hl
    obtain ⟨f1, f2, f3, f4⟩ := mqS_f T ca ci N M x
    have hmul : x * M + M ≤ N * M := by
      have h9 := Nat.mul_le_mul_right M (show x + 1 ≤ N from hlt)
      rw [Nat.succ_mul] at h9
      exact h9
    simp only [wp_bind']
    rw [Op.multianewarray.make]
    simp only [wp_bind', W.ite, hm, if_false, wp_pure', W.theClass, f3, hkc, hkindc, Option.some.injEq, exists_eq_left']
    rw [hM]
    refine W.newArray_of (by rw [f3]; exact hkc) hkindc hl2 hh2 (by rw [f1]; omega) (by rw [f4]; omega) rfl (fun acts2 => ?_)
    rw [show ({ cls := ci, slots := Array.replicate M (defaultValue .int) } : Cell) = arrV ci M (fun _ => .int 0) from arrV_new ci M _]
    have hlt0 : T.heap.size < (mqS T ca ci N M x).heap.size := by omega
    simp only [wp_bind', W.writeLoc, wp_pure']
    refine ⟨arrV ca N (mqF T.heap.size x), by rw [State.heap_pushCell_of_lt (h := hlt0)]; exact f2, by simp [arrV], by rw [arrV_size]; exact hlt, ?_, hnext _ _ _ ⟨x + 1, hlt, hrest, ?_⟩⟩
    · simp [arrV, State.fitsSlot, State.slotType?, f3, hk, hkind, fits]
    · rw [f1, arrV_store, mqF_s]
      rfl
  · rintro s9 d9 acts9 ⟨i, hi, hl, rfl⟩
    have hiN : i = N := by
      rcases Nat.lt_or_ge i N with h | h
      · rw [show N - i = (N - (i + 1)) + 1 by omega, List.range'_succ] at hl
        cases hl
      · omega
    subst hiN
    simp only [wp_pure']
    exact hq _ _
end MQW
section MQG
variable {p : Program} {l : Launch} {e : Env} {R : Room} {s : State} {m : MethodId} {args : Array Value} {below : List Frame} {meth : Method} {c : Code} {H : Heap} {locs : List Loc} {cells slots : Nat} {Q : State → Prop}
variable {cc : ByteArray} {pc nL : Nat} {ls : Array Slot} {rest : List Value} {K : gK} {A : Nat → Prop} {G : gW} {own : String} {Ts : List Cond}
theorem W.mna (hexec : p.tables.exec = Jvm.exec) (hb : c.code = cc) {index : Nat} (hown : s.vm.findClass own = some m.cls) (hclink : (Cond.classLink own index "[[I").before args s = true) (hover : (Cond.arrayOver (.array .int)).before args s = true) (harr : (Cond.arrayClass .int).before args s = true) {N M : Nat} (hN : N < 1000000) (hM : M < 1000000)
    (hcells : cells + (1 + N) ≤ R.cells) (hslots : slots + (N + N * M) ≤ R.slots) {g : JFrame} (hg : g.method = m) (hdg : decode cc g.pc = .ok (.multianewarray index 2, 4)) {rest : List Value} (hstack : g.stack = .int (nI M) :: .int (nI N) :: rest)
    (kk : ∀ (ca ci : ClassId) (H1 : Heap), s.vm.findClass "[[I" = some ca → s.vm.findClass "[I" = some ci → H1.size = H.size + 1 + N → H1[H.size]? = some (arrV ca N (mqF H.size N)) → (∀ j : Nat, j < N → H1[H.size + 1 + j]? = some (arrV ci M (fun _ => .int 0))) → (∀ q : Nat, q < H.size → H1[q]? = H[q]?) →
      W p l e R s m args below meth c H1 locs (cells + 1 + N) (slots + N + N * M) Q { g with pc := g.pc + 4, stack := .ref H.size :: rest }) : W p l e R s m args below meth c H locs cells slots Q g := by
  intro T hT X
  subst hT
  subst hb
  subst hg
  have hpl : e.platform.magicAccessors = ({} : Platform).magicAccessors := by rw [X.admits.platform]
  obtain ⟨ci, ca, kA, hci, -, hkA, hkindA, hca⟩ := arrayOverA_spec hover
  obtain ⟨ci2, kC, cc, hci2, hkC, hkindC⟩ := Cond.arrayClass_spec harr
  cases Option.some.inj (hci2.symm.trans hci)
  obtain ⟨c0, hfc0, hcl⟩ := Cond.classLink_spec hown hclink e.platform hpl
  cases hca.symm.trans hfc0
  obtain ⟨hg₁, hwarm₁, hready₁⟩ := State.classEntry (e := e) X.warmed hcl
  generalize T.vm.noted g.method.cls index (.cls ca) = vm₁ at hg₁ hwarm₁ hready₁
  have hal : s.vm.Alike vm₁ := hwarm₁.alike
  obtain ⟨kA₁, hkA₁, heA⟩ := hal.2.2 _ _ hkA
  obtain ⟨kC₁, hkC₁, heC⟩ := hal.2.2 _ _ hkC
  have hkindA₁ : kA₁.kind = .array ci (.array .int) := by rw [heA]; exact hkindA
  have hkindC₁ : kC₁.kind = .array cc .int := by rw [heC]; exact hkindC
  have X₁ := X.noted hwarm₁
  obtain ⟨hr1, hr2⟩ := X.roomAbove hcells hslots
  have XF := mqS_X X₁ ca ci N M N
  obtain ⟨f1, f2, -, -⟩ := mqS_f (T.setVm vm₁) ca ci N M N
  obtain ⟨t, a1, b1⟩ := kk ca ci _ hca hci f1 f2 (fun j hj => mqS_row (T.setVm vm₁) ca ci N M N j hj) (fun q hq => mqS_old (T.setVm vm₁) ca ci N M hq N) (mqS (T.setVm vm₁) ca ci N M N) rfl XF
  refine ⟨t, ?_, b1⟩
  have hl1 : ¬ N > e.platform.arrayLengthLimit := by rw [Launch.admits_arrayLengthLimit X.admits]; omega
  have hh1 : ¬ N * componentBytes (.array .int) > e.platform.maxHeapBytes := by rw [Launch.admits_maxHeapBytes X.admits]; show ¬ N * 4 > 536870912; omega
  have hl2 : ¬ M > e.platform.arrayLengthLimit := by rw [Launch.admits_arrayLengthLimit X.admits]; omega
  have hh2 : ¬ M * componentBytes .int > e.platform.maxHeapBytes := by rw [Launch.admits_maxHeapBytes X.admits]; show ¬ M * 4 > 536870912; omega
  jvm_step X.here [hexec, hdg]
  simp only [Op.multianewarray.sem, wp_bind', W.resolveClassAt_links (State.method?_setTop g X.here.top) hg₁]
  rw [W.popN, if_neg (by decide)]
  refine ⟨g, State.topJava?_setTop' (s := T.setVm vm₁) g X.here.top, [.int (nI N), .int (nI M)], rest, rfl, hstack, ?_⟩
  simp only [List.mapM_cons, List.mapM_nil, wp_bind', wp_pure']
  refine mq_wp (k := kA₁) (kc := kC₁) (ci := ci) (cc := cc) hkA₁ hkindA₁ hkC₁ hkindC₁ (nI_pos (by omega)) (nI_pos (by omega)) (nI_clamp (by omega)) (nI_clamp (by omega)) hl1 hh1 hl2 hh2 (by show T.heap.size + 1 + _ ≤ _; omega) (by show T.slotsUsed + _ + _ ≤ _; omega) (fun d' acts' => ?_)
  have eS : ((T.setTop g).setVm vm₁).setTop { g with stack := rest } = (T.setVm vm₁).setTop { g with stack := rest } := by
    show ((T.setVm vm₁).setTop g).setTop _ = _
    rw [State.setTop_setTop]
  rw [eS, mqS_top]
  simp only [wp_bind', W.mark, W.pushRef, State.topJava?_setTop' _ XF.here.top, Option.some.injEq, exists_eq_left', State.setTop_setTop, State.heap_setTop]
  intro acts
  simp [jvm, XF.here.top]
  exact a1
/-- a world with a row of rows: itself at (r, k + 1, 0), its rows at (r, k, i) -/
def g2D (K : gK) (G : gW) (r k q N M : Nat) : gW := fun u => if u = (r, k + 1, 0) then some (q, cR (K.2.1 5) N (fun i => if i < N then some (q + 1 + i) else none)) else if u.1 = r ∧ u.2.1 = k ∧ u.2.2 < N then some (q + 1 + u.2.2, cI K M (fun _ => 0)) else G u
theorem g2D_o {K : gK} {G : gW} {r k q N M : Nat} : g2D K G r k q N M (r, k + 1, 0) = some (q, cR (K.2.1 5) N (fun i => if i < N then some (q + 1 + i) else none)) := if_pos rfl
theorem g2D_i {K : gK} {G : gW} {r k q N M i : Nat} (hi : i < N) : g2D K G r k q N M (r, k, i) = some (q + 1 + i, cI K M (fun _ => 0)) := by
  unfold g2D
  rw [if_neg (by simp), if_pos ⟨rfl, rfl, hi⟩]
theorem g2D_n {K : gK} {G : gW} {r k q N M : Nat} {u : gTag} (h : u.1 ≠ r ∨ (u.2.1 ≠ k ∧ u.2.1 ≠ k + 1)) : g2D K G r k q N M u = G u := by
  unfold g2D
  rw [if_neg (fun z => by subst z; rcases h with h | h; exact h rfl; exact h.2 rfl), if_neg (fun z => by rcases h with h | h; exact h z.1; exact h.1 z.2.1)]
theorem g_mna (S : CallFix p m c cc nL s args Ts own) (hE : gE K A s s.heap) (hI : gI K A s G H locs) (hA : ∀ q, s.heap.size ≤ q → A q) {index : Nat} (hcl : Cond.classLink own index "[[I" ∈ Ts) (harr : Cond.arrayClass .int ∈ Ts) {N M : Nat} (hN : N < 1000000) (hM : M < 1000000) (r k : Nat)
    (hcells : cells + (1 + N) ≤ R.cells) (hslots : slots + (N + N * M) ≤ R.slots) (hdg : decode cc pc = .ok (.multianewarray index 2, 4))
    (kk : ∀ (q : Nat) (H1 : Heap), gI K A s (g2D K G r k q N M) H1 locs → W p l e R s m args below meth c H1 locs (cells + 1 + N) (slots + N + N * M) Q (F0 m (pc + 4) ls (.ref q :: rest))) : W p l e R s m args below meth c H locs cells slots Q (F0 m pc ls (.int (nI M) :: .int (nI N) :: rest)) := by
  obtain ⟨hx, hb, hml, hown, hts⟩ := S
  obtain ⟨hP, hIn, hS⟩ := hI
  have hover : va_AOA .int s := hE.2.2.2.2.2.2.2.2.2.2.2.2.1
  refine W.mna hx hb hown (hts _ hcl) (va_AOA.use (A := args) hover) (hts _ harr) hN hM hcells hslots rfl hdg rfl (fun ca ci H1 e1 e2 z1 h0 h1 h2 => ?_)
  have c5 : K.2.1 5 = ca := Option.some.inj ((hE.1.2 5 (K.2.1 5, .array .int) rfl).2.symm.trans e1)
  have c0 : K.2.1 0 = ci := Option.some.inj ((hE.1.2 0 (K.2.1 0, .int) rfl).2.symm.trans e2)
  refine kk H.size H1 ⟨⟨fun u a f hu => ?_, fun u v a f f2 hu hv => ?_⟩, fun u a f hu => ?_, ⟨Nat.le_trans hS.1 (by omega), fun x k1 k2 => (h2 x (Nat.lt_of_lt_of_le k1 hS.1)).trans (hS.2.1 x k1 k2), hS.2.2⟩⟩
  · unfold g2D at hu
    by_cases k1 : u = (r, k + 1, 0)
    · rw [if_pos k1] at hu
      cases hu
      show H1[H.size]? = some (vp_cell _ _)
      rw [vp_cell_q, c5, h0]
      refine congrArg some (congrArg (arrV ca N) (funext fun j => ?_))
      show (if j < N then Value.ref (H.size + 1 + j) else .null) = va_rf (if j < N then some (H.size + 1 + j) else none)
      by_cases k2 : j < N
      · rw [if_pos k2, if_pos k2]; rfl
      · rw [if_neg k2, if_neg k2]; rfl
    · rw [if_neg k1] at hu
      by_cases k2 : u.1 = r ∧ u.2.1 = k ∧ u.2.2 < N
      · rw [if_pos k2] at hu
        cases hu
        show H1[H.size + 1 + u.2.2]? = some (vp_cell _ _)
        rw [vp_cell_i, c0]
        exact h1 _ k2.2.2
      · rw [if_neg k2] at hu
        exact (hP.1 u a f hu).kept (h2 a (hP.lt hu))
  · unfold g2D at hu hv
    have hold : ∀ (w : gTag) (b : Nat) (f9 : va_E), G w = some (b, f9) → b < H.size := fun w b f9 h9 => hP.lt h9
    by_cases k1 : u = (r, k + 1, 0) <;> by_cases k2 : v = (r, k + 1, 0)
    · rw [k1, k2]
    · rw [if_pos k1] at hu
      rw [if_neg k2] at hv
      cases hu
      by_cases k3 : v.1 = r ∧ v.2.1 = k ∧ v.2.2 < N
      · rw [if_pos k3] at hv
        have := congrArg Prod.fst (Option.some.inj hv)
        have : H.size + 1 + v.2.2 = H.size := this
        omega
      · rw [if_neg k3] at hv
        have := hold _ _ _ hv
        omega
    · rw [if_neg k1] at hu
      rw [if_pos k2] at hv
      cases hv
      by_cases k3 : u.1 = r ∧ u.2.1 = k ∧ u.2.2 < N
      · rw [if_pos k3] at hu
        have : H.size + 1 + u.2.2 = H.size := congrArg Prod.fst (Option.some.inj hu)
        omega
      · rw [if_neg k3] at hu
        have := hold _ _ _ hu
        omega
    · rw [if_neg k1] at hu
      rw [if_neg k2] at hv
      by_cases k3 : u.1 = r ∧ u.2.1 = k ∧ u.2.2 < N <;> by_cases k4 : v.1 = r ∧ v.2.1 = k ∧ v.2.2 < N
      · rw [if_pos k3] at hu
        rw [if_pos k4] at hv
        have g1 : H.size + 1 + u.2.2 = a := congrArg Prod.fst (Option.some.inj hu)
        have g2 : H.size + 1 + v.2.2 = a := congrArg Prod.fst (Option.some.inj hv)
        obtain ⟨u1, u2, u3⟩ := u
        obtain ⟨v1, v2, v3⟩ := v
        obtain ⟨w1, w2, -⟩ := k3
        obtain ⟨w3, w4, -⟩ := k4
        have w1 : u1 = r := w1
        have w2 : u2 = k := w2
        have w3 : v1 = r := w3
        have w4 : v2 = k := w4
        have g1 : H.size + 1 + u3 = a := g1
        have g2 : H.size + 1 + v3 = a := g2
        rw [w1, w2, w3, w4, show u3 = v3 by omega]
      · rw [if_pos k3] at hu
        rw [if_neg k4] at hv
        have g1 : H.size + 1 + u.2.2 = a := congrArg Prod.fst (Option.some.inj hu)
        have := hold _ _ _ hv
        omega
      · rw [if_neg k3] at hu
        rw [if_pos k4] at hv
        have g1 : H.size + 1 + v.2.2 = a := congrArg Prod.fst (Option.some.inj hv)
        have := hold _ _ _ hu
        omega
      · rw [if_neg k3] at hu
        rw [if_neg k4] at hv
        exact hP.2 u v a f f2 hu hv
  · unfold g2D at hu
    by_cases k1 : u = (r, k + 1, 0)
    · rw [if_pos k1] at hu
      cases hu
      exact hA _ hS.1
    · rw [if_neg k1] at hu
      by_cases k2 : u.1 = r ∧ u.2.1 = k ∧ u.2.2 < N
      · rw [if_pos k2] at hu
        have g1 : H.size + 1 + u.2.2 = a := congrArg Prod.fst (Option.some.inj hu)
        have := hS.1
        exact hA _ (by omega)
      · rw [if_neg k2] at hu
        exact hIn u a f hu
/-- an array of such tables -/
theorem g_newT (S : CallFix p m c cc nL s args Ts own) (hE : gE K A s s.heap) (hI : gI K A s G H locs) (hA : ∀ q, s.heap.size ≤ q → A q) {index : Nat} (hcl : Cond.classLink own index "[[I" ∈ Ts) {n : Int32} {N' : Nat} (hn : n = nI N') (hn2 : N' < 1000000) (t : gTag) (hcells : cells + 1 ≤ R.cells) (hslots : slots + N' ≤ R.slots) (hdg : decode cc pc = .ok (.anewarray index, 3))
    (kk : ∀ (q : Nat) (H1 : Heap), H.size ≤ q → gI K A s (gset G t q (cR (K.2.1 6) N' (fun _ => none))) H1 locs → W p l e R s m args below meth c H1 locs (cells + 1) (slots + N') Q (F0 m (pc + 3) ls (.ref q :: rest))) : W p l e R s m args below meth c H locs cells slots Q (F0 m pc ls (.int n :: rest)) := by
  obtain ⟨hx, hb, hml, hown, hts⟩ := S
  obtain ⟨hP, hIn, hS⟩ := hI
  subst hn
  have hcl32 := nI_clamp (n := N') (by omega)
  have hover : va_AOA (.array .int) s := hE.2.2.2.2.2.2.2.2.2.2.2.2.2.1
  refine W.anewA (t := .array .int) hx hb hown (hts _ hcl) (va_AOA.use (A := args) hover) rfl hdg rfl (nI_pos (by omega)) (by rw [hcl32]; omega) hcells (by rw [hcl32]; exact hslots) fun cA kA comp f1 f2 f3 f4 => ?_
  rw [hcl32]
  have hcA : K.2.1 6 = cA := Option.some.inj ((hE.1.2 6 (K.2.1 6, .array (.array .int)) rfl).2.symm.trans f1)
  generalize hH1 : H.push ({ cls := cA, slots := Array.replicate N' .null, vm := .none } : Cell) = H1
  have z1 : H1.size = H.size + 1 := by rw [← hH1, Array.size_push]
  have e1 : H1[H.size]? = some (arrV cA N' (fun _ => .null)) := by rw [← hH1, Array.getElem?_push_size, ← arrV_new]
  have o1 : ∀ q : Nat, q < H.size → H1[q]? = H[q]? := fun q hq => by rw [← hH1, Array.getElem?_push, if_neg (Nat.ne_of_lt hq)]
  refine kk H.size H1 (Nat.le_refl _) ⟨hP.new t ?_ o1, hIn.put (hA _ hS.1), ⟨Nat.le_trans hS.1 (by omega), fun x h1 h2 => (o1 x (Nat.lt_of_lt_of_le h1 hS.1)).trans (hS.2.1 x h1 h2), hS.2.2⟩⟩
  show H1[H.size]? = some (vp_cell _ _)
  rw [vp_cell_q, hcA]
  exact e1
theorem g_compT (hE : gE K A s s.heap) : ∀ (kA : Class) (comp : ClassId), s.vm.classes[K.2.1 6]? = some kA → kA.kind = .array comp (.array (.array .int)) → ∀ c0 : ClassId, s.vm.findClass "[[I" = some c0 → s.vm.assignable c0 comp = true ∧ ∃ kc, s.vm.classes[comp]? = some kc := by
  intro kA comp h1 h2 c0 h3
  have hover : va_AOA (.array .int) s := hE.2.2.2.2.2.2.2.2.2.2.2.2.2.1
  obtain ⟨comp2, c2, k2, e1, -, e2, e3, e4⟩ := arrayOverA_spec hover
  have hcA : K.2.1 6 = c2 := Option.some.inj ((hE.1.2 6 (K.2.1 6, .array (.array .int)) rfl).2.symm.trans e4)
  rw [hcA] at h1
  cases h1.symm.trans e2
  cases h2.symm.trans e3
  cases h3.symm.trans e1
  obtain ⟨kC, hkC, -⟩ := Vm.findClass_spec e1
  exact ⟨Vm.assignable_self _ _, kC, hkC⟩
end MQG
