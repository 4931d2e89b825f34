/-! rows for the library's lists: a static field, a class object, System.arraycopy -/
section GJR
variable {p : Program} {l : Launch} {e : Env} {R : Room} {s : State} {m : MethodId} {args : Array Value} {below : List Frame} {meth : Method} {c : Code} {H : Heap} {locs : List Loc} {cells slots : Nat} {Q : State → Prop}
variable {cc : ByteArray} {pc nL : Nat} {ls : Array Slot} {rest : List Value} {K : gK} {A : Nat → Prop} {G : gW} {own : String} {Ts : List Cond}
theorem g_gets (S : CallFix p m c cc nL s args Ts own) (hE : gE K A s s.heap) (hI : gI K A s G H locs) {index : Nat} (hlink : Cond.fieldLink own index "java/util/ArrayList" "DEFAULTCAPACITY_EMPTY_ELEMENTDATA" "[Ljava/lang/Object;" ∈ Ts) (hdg : decode cc pc = .ok (.getstatic index, 3))
    (kk : W p l e R s m args below meth c H locs cells slots Q (F0 m (pc + 3) ls (.ref K.2.2.1 :: rest))) : W p l e R s m args below meth c H locs cells slots Q (F0 m pc ls rest) :=
  va_gets S.1 S.2.1 hE.2.1 hI.2.2 S.2.2.2.1 (S.2.2.2.2 _ hlink) (fun _ h => h) hdg kk
theorem g_ldcM (S : CallFix p m c cc nL s args Ts own) (hE : gE K A s s.heap) {index : Nat} (hlink : Cond.classLink own index "[Ljava/lang/Object;" ∈ Ts) (hdg : decode cc pc = .ok (.ldc index, 2))
    (kk : W p l e R s m args below meth c H locs cells slots Q (F0 m (pc + 2) ls (.ref (K.2.2.2 1000) :: rest))) : W p l e R s m args below meth c H locs cells slots Q (F0 m pc ls rest) :=
  va_ldcM S.1 S.2.1 S.2.2.2.1 (S.2.2.2.2 _ hlink) hE.2.2.2.2.2.2.2.2.2.2.2.2.2.2.1 hdg kk
/-- a thing of which arrays of Object may hold the reference -/
def isC (K : gK) (C : String) (e : va_E) : Prop := (C, "java/lang/Object") ∈ gCas ∧ ((∃ ci fs T N, e = .inr (ci, fs) ∧ vwCl[ci]? = some (C, T, N)) ∨ (C = "[I" ∧ ∃ x, e = .inl (K.2.1 0, x)))
theorem isC.cell (hE : gE K A s s.heap) (hI : gI K A s G H locs) {C : String} {u : gTag} {v : Nat} {e : va_E} (hu : G u = some (v, e)) (h : isC K C e) : ∃ cell : Cell, H[v]? = some cell ∧ cell.vm.isStatics = false ∧ s.vm.findClass C = some cell.cls := by
  rcases h.2 with ⟨ci, fs, T, N, rfl, hc⟩ | ⟨rfl, x, rfl⟩
  · exact g_hro hE hI hu hc
  · exact g_hra hE hI (k := 0) (ty := .int) hu rfl rfl
theorem isC.asg (hE : gE K A s s.heap) {C : String} {e : va_E} (h : isC K C e) {comp c0 : ClassId} (h1 : s.vm.findClass "java/lang/Object" = some comp) (h2 : s.vm.findClass C = some c0) : s.vm.assignable c0 comp = true := by
  obtain ⟨c3, c4, e1, e2, e3⟩ := Cond.castable_spec ((hE.2.2.2.2.2.2.2.1 _ h.1).use (A := #[]) rfl)
  cases h1.symm.trans e2
  cases h2.symm.trans e1
  exact e3
theorem isC.comp (hE : gE K A s s.heap) {C : String} {e : va_E} (h : isC K C e) : ∀ (kA : Class) (comp : ClassId), s.vm.classes[K.2.1 4]? = some kA → kA.kind = .array comp (.object "java/lang/Object") → ∀ c0 : ClassId, s.vm.findClass C = some c0 → s.vm.assignable c0 comp = true ∧ ∃ kc, s.vm.classes[comp]? = some kc := by
  intro kA comp h1 h2 c0 h3
  obtain ⟨kA2, comp2, e1, e2, e3, -⟩ := (hE.1.2 4 (K.2.1 4, .object "java/lang/Object") rfl).2
  cases h1.symm.trans e1
  cases h2.symm.trans e2
  obtain ⟨kC, hkC, -⟩ := Vm.findClass_spec e3
  exact ⟨h.asg hE e3 h3, kC, hkC⟩
/-- System.arraycopy between two arrays of Object: the first k to the places from d on -/
theorem g_copy (S : CallFix p m c cc nL s args Ts own) (hE : gE K A s s.heap) (hI : gI K A s G H locs) {index : Nat} (hsz : ls.size = nL) (hlink : Cond.methodLink own index arraycopyName ∈ Ts) (hnat : Cond.native arraycopyName ∈ Ts) (hstat : Cond.static arraycopyName ∈ Ts) (hini : Cond.initialized "java/lang/System" ∈ Ts)
    {t0 t1 : gTag} {a0 a n0 n1 k d : Nat} {f g : Nat → Option Nat} (h0 : G t0 = some (a0, cR (K.2.1 4) n0 f)) (h1 : G t1 = some (a, cR (K.2.1 4) n1 g)) (hk : k ≤ n0) (hd : d + k ≤ n1) (hn0 : n0 < 2 ^ 30) (hn1 : n1 < 2 ^ 30) {C : String} (hC : (C, "java/lang/Object") ∈ gCas) (hel : ∀ i, i < k → ∀ y, f i = some y → ∃ u e, G u = some (y, e) ∧ isC K C e)
    (hframes : 1 ≤ R.frames) (hlocals : (rest.map fun v => v.category).sum + (nativeFrameWords "java/lang/System" "arraycopy" 5 + 11) ≤ R.locals) (hdg : decode cc pc = .ok (.invokestatic index, 3))
    (kk : ∀ (H1 : Heap) (locs1 : List Loc), gI K A s (gset G t1 a (cR (K.2.1 4) n1 (va_cpy f g 0 d k))) H1 locs1 → W p l e R s m args below meth c H1 locs1 cells slots Q (F0 m (pc + 3) ls rest)) : W p l e R s m args below meth c H locs cells slots Q (F0 m pc ls (.int (nI k) :: .int (nI d) :: .ref a :: .int (nI 0) :: .ref a0 :: rest)) := by
  obtain ⟨hP, hIn, hS⟩ := hI
  have z0 : (nI 0).toNatClampNeg = 0 := nI_clamp (by decide)
  have zd : (nI d).toNatClampNeg = d := nI_clamp (by omega)
  have zk : (nI k).toNatClampNeg = k := nI_clamp (by omega)
  have hc0 : H[a0]? = some (vp_cell (K.2.1 4) (n0, .inr (.inr (.inr (.inr f))))) := hP.1 t0 _ _ h0
  have hc1 : H[a]? = some (vp_cell (K.2.1 4) (n1, .inr (.inr (.inr (.inr g))))) := hP.1 t1 _ _ h1
  obtain ⟨-, k0, hk0, cm0, hkk0⟩ := (hE.1.2 4 (K.2.1 4, .object "java/lang/Object") rfl).1 n0 (fun j => va_rf (f j))
  intro T hT X
  obtain ⟨vm', X', step⟩ := X.arraycopy S.1 S.2.2.2.1 (S.2.2.2.2 _ hlink) (S.2.2.2.2 _ hnat) (S.2.2.2.2 _ hstat) (S.2.2.2.2 _ hini) (src := a0) (dst := a) (cs := vp_cell (K.2.1 4) (n0, .inr (.inr (.inr (.inr f))))) (cd := vp_cell (K.2.1 4) (n1, .inr (.inr (.inr (.inr g))))) (srcPos := nI 0) (destPos := nI d) (n := nI k) (by rw [hT]; exact hc0) (by rw [hT]; exact hc1)
    (fun _ h => by cases h) (fun _ h => by cases h) (fun h => by cases h) (fun h => by cases h) hk0 hk0 hkk0 hkk0 rfl (nI_pos (by decide)) (nI_pos (by omega)) (nI_pos (by omega))
    (by rw [nI_toInt (by decide), nI_toInt (by omega)]; show ¬ _ > ((arrV _ n0 (fun j => va_rf (f j))).slots.size : Int); rw [arrV_size]; omega)
    (by rw [nI_toInt (by omega), nI_toInt (by omega)]; show ¬ _ > ((arrV _ n1 (fun j => va_rf (g j))).slots.size : Int); rw [arrV_size]; omega)
    (fun vm₁ hal i hi => by
      rw [zk] at hi
      rw [z0, Nat.zero_add]
      have e9 : (vp_cell (K.2.1 4) (n0, .inr (.inr (.inr (.inr f))))).slots.getD i .null = va_rf (f i) := by
        show (arrV _ n0 (fun j => va_rf (f j))).slots.getD _ _ = _
        rw [Array.getD_eq_getD_getElem?, arrV_read _ _ (by omega)]
        rfl
      rw [e9]
      cases hy : f i with
      | none => exact ⟨rfl, trivial⟩
      | some y =>
        obtain ⟨u, ce, hu, hce⟩ := hel i hi y hy
        obtain ⟨cellV, g1, g2, g3⟩ := hce.cell hE ⟨hP, hIn, hS⟩ hu
        obtain ⟨kA, comp, r1, r2, r3, -⟩ := (hE.1.2 4 (K.2.1 4, .object "java/lang/Object") rfl).2
        cases hk0.symm.trans r1
        cases hkk0.symm.trans r2
        obtain ⟨kC, hkC, -⟩ := Vm.findClass_spec g3
        obtain ⟨kE, hkE, -⟩ := Vm.findClass_spec r3
        obtain ⟨kC', hkC', -⟩ := hal.2.2 _ _ hkC
        obtain ⟨kE', hkE', -⟩ := hal.2.2 _ _ hkE
        refine ⟨rfl, cellV, (show T.heap[y]? = some cellV by rw [hT]; exact g1), (fun q h => by rw [h] at g2; cases g2), ⟨kC', hkC'⟩, ⟨kE', hkE'⟩, ?_⟩
        show vm₁.assignable _ _ = true
        rw [hal.assignable]
        exact hce.asg hE r3 g3)
    (g := F0 m pc ls (.int (nI k) :: .int (nI d) :: .ref a :: .int (nI 0) :: .ref a0 :: rest)) rfl (by rw [S.2.2.1, hsz]) (rest := rest) rfl (by rw [S.2.1]; exact hdg) hframes (by show 2 * 0 + _ + _ ≤ _; omega)
  have e1 : copied (vp_cell (K.2.1 4) (n0, .inr (.inr (.inr (.inr f))))) (vp_cell (K.2.1 4) (n1, .inr (.inr (.inr (.inr g))))) (nI 0) (nI d) (nI k) = vp_cell (K.2.1 4) (n1, .inr (.inr (.inr (.inr (va_cpy f g 0 d k))))) := by
    have h4 : (nI 0).toNatClampNeg + (nI k).toNatClampNeg ≤ n0 := by rw [z0, zk]; omega
    have e2 : copied (vp_cell (K.2.1 4) (n0, .inr (.inr (.inr (.inr f))))) (vp_cell (K.2.1 4) (n1, .inr (.inr (.inr (.inr g))))) (nI 0) (nI d) (nI k) = vp_cell (K.2.1 4) (n1, .inr (.inr (.inr (.inr (va_cpy f g (nI 0).toNatClampNeg (nI d).toNatClampNeg (nI k).toNatClampNeg))))) := by
      rw [vp_cell_q, vp_cell_q, vp_cell_q]
      exact va_copied (fun z => va_rf z) (K.2.1 4) (K.2.1 4) f g h4
    rw [z0, zd, zk] at e2
    exact e2
  rw [e1] at X' step
  have hl : a < H.size := (Array.getElem?_eq_some_iff.mp hc1).1
  generalize hNC : vp_cell (K.2.1 4) (n1, .inr (.inr (.inr (.inr (va_cpy f g 0 d k))))) = nc at X' step
  have hheap : ((T.setVm vm').setCell a nc).heap = H.setIfInBounds a nc := by rw [← hT]; rfl
  have oq : ∀ q : Nat, q ≠ a → (H.setIfInBounds a nc)[q]? = H[q]? := fun q hq => by simp [Array.getElem?_setIfInBounds, Ne.symm hq]
  have ha : A a := hIn t1 _ _ h1
  obtain ⟨t, a1, b1⟩ := kk _ _ ⟨hP.put h1 (show (H.setIfInBounds a nc)[a]? = some (vp_cell _ _) by rw [hNC]; simp [Array.getElem?_setIfInBounds, hl]) oq, hIn.put ha, ⟨by simp; exact hS.1, fun q g1 g2 => by
      rw [oq q (fun e9 => g2 (by rw [e9]; exact ha))]
      exact hS.2.1 q g1 g2, fun q hq => by
      rcases List.mem_append.mp hq with h | h
      · exact hS.2.2 q h
      · obtain ⟨z, -, hz⟩ := List.mem_map.mp h
        rw [← hz]
        exact ha⟩⟩ _ hheap X'
  exact ⟨t, step t a1, b1⟩
/-- the shared empty array's length -/
theorem g_tlen (S : CallFix p m c cc nL s args Ts own) (hE : gE K A s s.heap) (hI : gI K A s G H locs) (hdg : decode cc pc = .ok (.arraylength, 1))
    (kk : W p l e R s m args below meth c H locs cells slots Q (F0 m (pc + 1) ls (.int (nI 0) :: rest))) : W p l e R s m args below meth c H locs cells slots Q (F0 m pc ls (.ref K.2.2.1 :: rest)) :=
  va_tlen S.1 S.2.1 hE.2.2.1 hI.2.2 (v := nI 0) rfl hdg kk
/-- out of the shared empty array: nothing -/
theorem g_copyE (S : CallFix p m c cc nL s args Ts own) (hE : gE K A s s.heap) (hI : gI K A s G H locs) {index : Nat} (hsz : ls.size = nL) (hlink : Cond.methodLink own index arraycopyName ∈ Ts) (hnat : Cond.native arraycopyName ∈ Ts) (hstat : Cond.static arraycopyName ∈ Ts) (hini : Cond.initialized "java/lang/System" ∈ Ts)
    {t1 : gTag} {a n1 d : Nat} {g : Nat → Option Nat} (h1 : G t1 = some (a, cR (K.2.1 4) n1 g)) (hd : d ≤ n1) (hn1 : n1 < 2 ^ 30)
    (hframes : 1 ≤ R.frames) (hlocals : (rest.map fun v => v.category).sum + (nativeFrameWords "java/lang/System" "arraycopy" 5 + 11) ≤ R.locals) (hdg : decode cc pc = .ok (.invokestatic index, 3))
    (kk : ∀ (H1 : Heap) (locs1 : List Loc), gI K A s G H1 locs1 → W p l e R s m args below meth c H1 locs1 cells slots Q (F0 m (pc + 3) ls rest)) : W p l e R s m args below meth c H locs cells slots Q (F0 m pc ls (.int (nI 0) :: .int (nI d) :: .ref a :: .int (nI 0) :: .ref K.2.2.1 :: rest)) := by
  obtain ⟨hP, hIn, hS⟩ := hI
  have z0 : (nI 0).toNatClampNeg = 0 := nI_clamp (by decide)
  have zd : (nI d).toNatClampNeg = d := nI_clamp (by omega)
  have hc1 : H[a]? = some (vp_cell (K.2.1 4) (n1, .inr (.inr (.inr (.inr g))))) := hP.1 t1 _ _ h1
  obtain ⟨-, k0, hk0, cm0, hkk0⟩ := (hE.1.2 4 (K.2.1 4, .object "java/lang/Object") rfl).1 n1 (fun j => va_rf (g j))
  obtain ⟨scr, hs1, ⟨hs2, k2, hk2, cm2, hkk2⟩, hs3, -, -, -, hs7⟩ := hE.2.2.1
  have hc0 : H[K.2.2.1]? = some scr := by rw [hS.2.1 _ (Array.getElem?_eq_some_iff.mp hs1).1 hs7]; exact hs1
  intro T hT X
  obtain ⟨vm', X', step⟩ := X.arraycopy S.1 S.2.2.2.1 (S.2.2.2.2 _ hlink) (S.2.2.2.2 _ hnat) (S.2.2.2.2 _ hstat) (S.2.2.2.2 _ hini) (src := K.2.2.1) (dst := a) (cs := scr) (cd := vp_cell (K.2.1 4) (n1, .inr (.inr (.inr (.inr g))))) (srcPos := nI 0) (destPos := nI d) (n := nI 0) (by rw [hT]; exact hc0) (by rw [hT]; exact hc1)
    hs2 (fun _ h => by cases h) hs3 (fun h => by cases h) hk2 hk0 hkk2 hkk0 rfl (nI_pos (by decide)) (nI_pos (by omega)) (nI_pos (by decide))
    (by rw [nI_toInt (by decide)]; omega)
    (by rw [nI_toInt (by omega), nI_toInt (by decide)]; show ¬ _ > ((arrV _ n1 (fun j => va_rf (g j))).slots.size : Int); rw [arrV_size]; omega)
    (fun vm₁ hal i hi => absurd hi (by rw [z0]; omega))
    (g := F0 m pc ls (.int (nI 0) :: .int (nI d) :: .ref a :: .int (nI 0) :: .ref K.2.2.1 :: rest)) rfl (by rw [S.2.2.1, hsz]) (rest := rest) rfl (by rw [S.2.1]; exact hdg) hframes (by show 2 * 0 + _ + _ ≤ _; omega)
  have e1 : copied scr (vp_cell (K.2.1 4) (n1, .inr (.inr (.inr (.inr g))))) (nI 0) (nI d) (nI 0) = vp_cell (K.2.1 4) (n1, .inr (.inr (.inr (.inr g)))) := by
    have h4 : (nI 0).toNatClampNeg + (nI 0).toNatClampNeg ≤ 0 := by rw [z0]; exact Nat.le_refl _
    have e2 : copied scr (vp_cell (K.2.1 4) (n1, .inr (.inr (.inr (.inr g))))) (nI 0) (nI d) (nI 0) = vp_cell (K.2.1 4) (n1, .inr (.inr (.inr (.inr (va_cpy (fun _ => none) g (nI 0).toNatClampNeg (nI d).toNatClampNeg (nI 0).toNatClampNeg))))) := by
      rw [vp_cell_q, vp_cell_q]
      exact va_copiedX (fun z => va_rf z) scr (K.2.1 4) (fun _ => none) g (fun j hj => absurd hj (Nat.not_lt_zero j)) h4
    rw [e2, z0, zd]
    congr 6
    funext j
    exact pk_cpy_out (by omega)
  rw [e1] at X' step
  have hl : a < H.size := (Array.getElem?_eq_some_iff.mp hc1).1
  generalize hNC : vp_cell (K.2.1 4) (n1, .inr (.inr (.inr (.inr g)))) = nc at X' step hc1
  have hheap : ((T.setVm vm').setCell a nc).heap = H.setIfInBounds a nc := by rw [← hT]; rfl
  have oq : ∀ q : Nat, q ≠ a → (H.setIfInBounds a nc)[q]? = H[q]? := fun q hq => by simp [Array.getElem?_setIfInBounds, Ne.symm hq]
  have ha : A a := hIn t1 _ _ h1
  have hG : gset G t1 a (cR (K.2.1 4) n1 g) = G := gset_self h1
  obtain ⟨t, a1, b1⟩ := kk _ _ ⟨by rw [← hG]; exact hP.put h1 (show (H.setIfInBounds a nc)[a]? = some (vp_cell _ _) by rw [hNC]; simp [Array.getElem?_setIfInBounds, hl]) oq, hIn, ⟨by simp; exact hS.1, fun q g1 g2 => by
      rw [oq q (fun e9 => g2 (by rw [e9]; exact ha))]
      exact hS.2.1 q g1 g2, fun q hq => by
      rcases List.mem_append.mp hq with h | h
      · exact hS.2.2 q h
      · obtain ⟨z, -, hz⟩ := List.mem_map.mp h
        rw [← hz]
        exact ha⟩⟩ _ hheap X'
  exact ⟨t, step t a1, b1⟩
/-- getClass() of an array of Object, of the world or the shared one -/
theorem g_getC (S : CallFix p m c cc nL s args Ts own) (hE : gE K A s s.heap) {a : Nat} (hr : ∃ cell : Cell, H[a]? = some cell ∧ cell.vm.isStatics = false ∧ s.vm.findClass "[Ljava/lang/Object;" = some cell.cls) {index : Nat} (hsz : ls.size = nL) (hlink : Cond.methodLink own index ⟨"java/lang/Object", "getClass", "()Ljava/lang/Class;"⟩ ∈ Ts) (hsel : Cond.selects "[Ljava/lang/Object;" ⟨"java/lang/Object", "getClass", "()Ljava/lang/Class;"⟩ ⟨"java/lang/Object", "getClass", "()Ljava/lang/Class;"⟩ ∈ Ts) (hinst : Cond.instanceMethod ⟨"java/lang/Object", "getClass", "()Ljava/lang/Class;"⟩ ∈ Ts) (hnat : Cond.native ⟨"java/lang/Object", "getClass", "()Ljava/lang/Class;"⟩ ∈ Ts)
    (hframes : 1 ≤ R.frames) (hlocals : (rest.map fun v => v.category).sum + 14 ≤ R.locals) (hdg : decode cc pc = .ok (.invokevirtual index, 3))
    (kk : W p l e R s m args below meth c H locs cells slots Q (F0 m (pc + 3) ls (.ref (K.2.2.2 1000) :: rest))) : W p l e R s m args below meth c H locs cells slots Q (F0 m pc ls (.ref a :: rest)) :=
  va_getC S.1 S.2.1 (S.2.2.1.trans hsz.symm) S.2.2.2.1 (S.2.2.2.2 _ hlink) hE.2.2.2.2.2.2.2.2.2.2.2.2.2.2.2.1.use (S.2.2.2.2 _ hsel) (S.2.2.2.2 _ hinst) (S.2.2.2.2 _ hnat) hE.2.2.2.2.2.2.2.2.2.2.2.2.2.2.1 hr hframes hlocals hdg kk
theorem g_hrO (hE : gE K A s s.heap) (hI : gI K A s G H locs) : ∃ cell : Cell, H[K.2.2.1]? = some cell ∧ cell.vm.isStatics = false ∧ s.vm.findClass "[Ljava/lang/Object;" = some cell.cls := by
  obtain ⟨cell, h1, h2, h3, h4⟩ := hE.2.2.2.1
  exact ⟨cell, by rw [hI.2.2.2.1 _ (Array.getElem?_eq_some_iff.mp h1).1 h4]; exact h1, h2, h3⟩
end GJR
