/-! the law's own rows: a number of the script by its helper, calls that make nothing -/
section GLB
variable {p : Program} {l : Launch} {e : Env} {R : Room} {s : State} {m : MethodId} {args : Array Value} {below : List Frame} {meth : Method} {c : Code} {H : Heap} {locs : List Loc} {cells slots : Nat} {Q : State → Prop}
variable {cc : ByteArray} {pc nL : Nat} {ls : Array Slot} {rest : List Value} {K : gK} {A : Nat → Prop} {G : gW} {own : String} {Ts : List Cond}
theorem gPcX.blind (K : gK) (av : List Value) (G : gW) (sz b Ln : Nat) (xs : Nat → Int32) : FrameBlind (fun a U => gPc K av G sz a U ∧ va_X b Ln xs U U.heap) := by
  intro a U g mk h
  exact ⟨gPc.blind K av G sz a U g mk h.1, show va_X b Ln xs (U.calling g mk a) U.heap from va_X.moved (u := U) (State.WarmedH.refl U).alike h.2⟩
theorem c_L_cell (l : Launch) (K : gK) (G : gW) {b Ln : Nat} {xs : Nat → Int32} {k sz : Nat} (hk : k < 1000) (hLn : Ln ≤ 260) (hbs : b < sz) (hbA : ¬ gA G sz b) : vx_Met l yL_cell wsL_cell (gRoom 2 40 0 0) (fun a U => gPc K [.ref b, .int (nI k)] G sz a U ∧ va_X b Ln xs U U.heap) (gQ K (fun v G1 => (∃ x, v = some (.int x)) ∧ G1 = G) (gA G sz)) (gX K gNo (gA G sz)) 0 0 (gA G sz) := by
  refine vx_ofW (cc := cL_cell) (maxL := 2) (ret := some .int) (by decide) rfl ?_
  intro p e s m args below meth c s₁ B hml htab hv
  obtain ⟨⟨rfl, hsz, hP, hE⟩, hX⟩ := hv
  have hts := atoms_spec (ws := wsL_cell) B.pre
  have hown : s.vm.findClass yL_cell.cls = some m.cls := findClass_of_methodNamed B.named
  subst hsz
  have hl := lv_entry ([.ref b, .int (nI k)] : List Value) (n := 2) (Nat.le_of_ble_eq_true rfl)
  rw [lg_entry_eq]
  generalize (lg_sl ([.ref b, .int (nI k)] : List Value) ++ List.replicate (2 - (lg_sl ([.ref b, .int (nI k)] : List Value)).length) Slot.unset).toArray = ls at hl ⊢
  have hl : lv_has ls 2 [(0, .ref b), (1, .int (nI k))] := hl
  have S : CallFix p m c cL_cell 2 s (([.ref b, .int (nI k)] : List Value).toArray) wsL_cell RL := ⟨B.exec, B.bytes, hml, hown, hts⟩
  have hx := S.1
  have hb := S.2.1
  have hI : gI K (gA G s.heap.size) s G s.heap [] := ⟨hP, gIn.self G _, va_S.rf⟩
  refine lv_iload_n hx hb dL_cell_0 rfl (lv_at hl 1 rfl) ?_
  refine lv_aload_n hx hb dL_cell_1 rfl (lv_at hl 0 rfl) ?_
  refine va_slen hx hb hX hbs hbA hI.2.2 dL_cell_2 ?_
  refine lv_icmp_ge (tgt := 12) hx hb dL_cell_3 (by decide) (fun c1 => ?_) (fun c1 => ?_)
  · refine lv_ldc hx hb S.2.2.2.1 (S.2.2.2.2 _ (List.mem_cons_of_mem _ (List.mem_of_getElem? (i := 0) rfl))) dL_cell_12 ?_
    refine lv_iload_n hx hb dL_cell_14 rfl (lv_at hl 1 rfl) ?_
    refine lv_iconst (v := nI 3) hx hb dL_cell_15 (by decide) ?_
    refine lv_iadd hx hb dL_cell_16 ?_
    refine lv_imul hx hb dL_cell_17 ?_
    exact g_iret S hI B.returns B.notSynchronized (Nat.zero_le _) (Nat.zero_le _) dL_cell_18 ⟨⟨_, rfl⟩, rfl⟩
  · have hkL : k < Ln := Nat.not_le.mp (fun z => c1 (nI_le z (by omega)))
    refine lv_aload_n hx hb dL_cell_6 rfl (lv_at hl 0 rfl) ?_
    refine lv_iload_n hx hb dL_cell_7 rfl (lv_at hl 1 rfl) ?_
    refine va_sld hx hb hX hbs hbA hI.2.2 (vp_in_nI hkL (by omega)) dL_cell_8 ?_
    refine lv_goto (tgt := 18) hx hb dL_cell_9 (by decide) ?_
    exact g_iret S hI B.returns B.notSynchronized (Nat.zero_le _) (Nat.zero_le _) dL_cell_18 ⟨⟨_, rfl⟩, rfl⟩
theorem g_callCell (S : CallFix p m c cc nL s args Ts own) (hE : gE K A s s.heap) (hI : gI K A s G H locs) (hA : ∀ q, s.heap.size ≤ q → A q) {b Ln : Nat} {xs : Nat → Int32} (hX : va_X b Ln xs s s.heap) (hbl : b < s.heap.size) (hbA : ¬ A b) (hLn : Ln ≤ 260) {k index : Nat} (hk : k < 1000) (hG : GoodIn Ts (va_wsS own index yL_cell wsL_cell)) (hR : 3 ≤ R.frames ∧ 61 ≤ R.locals) (hsize : ls.size = nL) (hW : (rest.map fun v => v.category).sum ≤ 8) (hdg : decode cc pc = .ok (.invokestatic index, 3)) (hf : cells ≤ R.cells ∧ slots ≤ R.slots)
    (kk : ∀ (x : Int32) (H1 : Heap) (locs1 : List Loc), gI K A s G H1 locs1 → W p l e R s m args below meth c H1 locs1 cells slots Q (F0 m (pc + 3) ls (.int x :: rest))) : W p l e R s m args below meth c H locs cells slots Q (F0 m pc ls (.int (nI k) :: .ref b :: rest)) := by
  have hsz : s.heap.size ≤ H.size := hI.2.2.1
  have hX1 : va_X b Ln xs s H := hX.kept (hI.2.2.2.1 b hbl hbA)
  exact g_fin (xp := gNo) (mc := 0) (ms := 0) (vx_runS (As := [.ref b, .int (nI k)]) (rest := rest) S (c_L_cell l K G (b := b) (Ln := Ln) (xs := xs) (k := k) (sz := H.size) hk hLn (Nat.lt_of_lt_of_le hbl hsz) (fun z => hbA (gA.of hI.2.1 (fun q h => hA q (Nat.le_trans hsz h)) b z))) (va_cwS 2 S.2.2.2.2 hG rfl rfl rfl (by decide +kernel) hR) ⟨gPcX.blind K _ G H.size b Ln xs, fun U hU hW => ⟨g_pre hE hI hA _ U hU hW, by rw [hU]; exact va_X.moved hW.alike hX1⟩⟩ rfl rfl hsize rfl (lv_room hW) hdg hf) hI hA (fun E ce q9 G1 H1 locs1 h => h.elim)
    (fun v G1 H1 locs1 hp hI1 => by
      obtain ⟨⟨x, rfl⟩, rfl⟩ := hp
      exact kk x H1 locs1 hI1)
variable {y : MethodName} {ws ws' : List Cond} {fr lo index n maxL b : Nat} {As st0 : List Value} {bytes : ByteArray} {ret : Option FieldType} {C : String} {post : Option Value → gW → Prop}
theorem g_callV0 (S : CallFix p m c cc nL s args Ts own) (hE : gE K A s s.heap) (hI : gI K A s G H locs) (hA : ∀ q, s.heap.size ≤ q → A q) (hM : gM l y ws fr lo 0 0 K (.ref b :: As) G post gNo) (hG : GoodIn Ts (wsV own index C y ws)) (hw : ws = Cond.code y bytes maxL ret :: ws')
    (hd : y.cls = C ∧ y.cls ≠ "java/lang/invoke/MethodHandle" ∧ y.cls ≠ "java/lang/invoke/VarHandle" ∧ (parseMethodDescriptor y.desc).map (fun d => d.parameters.length) = some n) (hR : fr + 1 ≤ R.frames ∧ 8 + (maxL + 11) + lo ≤ R.locals) (hr : ∃ cell : Cell, H[b]? = some cell ∧ cell.vm.isStatics = false ∧ s.vm.findClass C = some cell.cls) (hn : As.length = n) (hsize : ls.size = nL) (hst : st0 = As.reverse ++ .ref b :: rest) (hW : (rest.map fun v => v.category).sum ≤ 8) (hdg : decode cc pc = .ok (.invokevirtual index, 3)) (hf : cells ≤ R.cells ∧ slots ≤ R.slots)
    (kk : ∀ (v : Option Value) (G1 : gW) (H1 : Heap) (locs1 : List Loc), post v G1 → gI K A s G1 H1 locs1 → W p l e R s m args below meth c H1 locs1 cells slots Q (F0 m (pc + 3) ls (v.toList ++ rest))) : W p l e R s m args below meth c H locs cells slots Q (F0 m pc ls st0) :=
  g_callV (mc := 0) (ms := 0) (xp := gNo) S hE hI hA hM hG hw hd hR hr hn hsize hst hW hdg hf (fun E ce q9 G1 H1 locs1 h => h.elim) kk
theorem g_callS0 (S : CallFix p m c cc nL s args Ts own) (hE : gE K A s s.heap) (hI : gI K A s G H locs) (hA : ∀ q, s.heap.size ≤ q → A q) (hM : gM l y ws fr lo 0 0 K As G post gNo) (hG : GoodIn Ts (va_wsS own index y ws)) (hw : ws = Cond.code y bytes maxL ret :: ws')
    (hd : y.cls ≠ "java/lang/invoke/MethodHandle" ∧ y.cls ≠ "java/lang/invoke/VarHandle" ∧ (parseMethodDescriptor y.desc).map (fun d => d.parameters.length) = some n) (hR : fr + 1 ≤ R.frames ∧ 8 + (maxL + 11) + lo ≤ R.locals) (hn : As.length = n) (hsize : ls.size = nL) (hst : st0 = As.reverse ++ rest) (hW : (rest.map fun v => v.category).sum ≤ 8) (hdg : decode cc pc = .ok (.invokestatic index, 3)) (hf : cells ≤ R.cells ∧ slots ≤ R.slots)
    (kk : ∀ (v : Option Value) (G1 : gW) (H1 : Heap) (locs1 : List Loc), post v G1 → gI K A s G1 H1 locs1 → W p l e R s m args below meth c H1 locs1 cells slots Q (F0 m (pc + 3) ls (v.toList ++ rest))) : W p l e R s m args below meth c H locs cells slots Q (F0 m pc ls st0) :=
  g_callS (mc := 0) (ms := 0) (xp := gNo) S hE hI hA hM hG hw hd hR hn hsize hst hW hdg hf (fun E ce q9 G1 H1 locs1 h => h.elim) kk
theorem g_shr (hexec : p.tables.exec = Jvm.exec) (hb : c.code = cc) {x y : Int32} (hdg : decode cc pc = .ok (.ishr, 1))
    (k : ∀ v : Int32, W p l e R s m args below meth c H locs cells slots Q (F0 m (pc + 1) ls (.int v :: rest))) : W p l e R s m args below meth c H locs cells slots Q (F0 m pc ls (.int y :: .int x :: rest)) := lv_ishr hexec hb hdg (k _)
theorem g_addA (hexec : p.tables.exec = Jvm.exec) (hb : c.code = cc) {x y : Int32} (hdg : decode cc pc = .ok (.iadd, 1))
    (k : ∀ v : Int32, W p l e R s m args below meth c H locs cells slots Q (F0 m (pc + 1) ls (.int v :: rest))) : W p l e R s m args below meth c H locs cells slots Q (F0 m pc ls (.int y :: .int x :: rest)) := lv_iadd hexec hb hdg (k _)
theorem g_lcmpE (hexec : p.tables.exec = Jvm.exec) (hb : c.code = cc) {x y : Int64} (hxy : x = y) (hdg : decode cc pc = .ok (.lcmp, 1))
    (kk : W p l e R s m args below meth c H locs cells slots Q (F0 m (pc + 1) ls (.int (nI 0) :: rest))) : W p l e R s m args below meth c H locs cells slots Q (F0 m pc ls (.long y :: .long x :: rest)) := by
  subst hxy
  have hn : ¬ x < x := by rw [Int64.lt_iff_toInt_lt]; omega
  intro T hT X
  obtain ⟨t, a, b⟩ := kk T hT X
  refine ⟨t, ?_, b⟩
  jvm_step X.here [X.here.top, hexec, hb, hdg, hn]
  exact a
end GLB
/-! numbers of the law -/
theorem lw_m1le {k : Nat} (hk : k < 2 ^ 31) : ¬ nI k ≤ -1 := by
  rw [Int32.le_iff_toInt_le, nI_toInt hk, show (-1 : Int32).toInt = -1 from by decide]
  omega
theorem lw_hk {h k : Nat} (h2 : k + k + 1 ≤ h) (h3 : h ≤ 100) : nI h - nI (100 + k) + nI 99 = nI (h - k - 1) := by
  apply Int32.toInt_inj.mp
  have e1 : (nI h - nI (100 + k)).toInt = (h : Int) - ((100 + k : Nat) : Int) := pk_sub_toInt (by omega) (by omega)
  rw [Int32.toInt_add, e1, nI_toInt (by omega), nI_toInt (by omega)]
  rw [Int.bmod_eq_of_le (by omega) (by omega)]
  omega
theorem lw_ge0 {a b : Nat} (h : b ≤ a) (ha : a < 2 ^ 31) : 0 ≤ nI a - nI b := by
  rw [pk_sub h]
  exact nI_pos' (by omega)
theorem lw_pays (a b : Int32) : b + (a - b) = a := by rw [Int32.add_comm, Int32.sub_add_cancel]
theorem sPut_len {u : SV} {a b : Nat} : (sL (sPut u a b)).length = (sL u).length + 1 := by
  show (sL u ++ [(a, b)]).length = _
  rw [List.length_append]
  rfl
/-- the worth of the pieces that the law asks for, the kerf being 1 -/
theorem lw_cut1 {y : YV} {g w h : Nat} (hF : yF y = 1) (h1 : 3 ≤ w) (h2 : 1 ≤ h) : wV (ySt2 y g) (yF y) 1 h + wV (ySt2 y g) (yF y) (w - 2) h ≤ wV (ySt2 y g) (yF y) w h := by
  have := wV_cV (st := ySt2 y g) (kf := yF y) (w := w) (h := h) (k := 1) (by omega) h2 (Nat.le_refl _) (by omega)
  rw [show w - yF y - 1 = w - 2 by omega] at this
  exact this
theorem lw_cutV {y : YV} {g w h k : Nat} (hF : yF y = 1) (h1 : 1 ≤ w) (h2 : 1 ≤ h) (e : (qV (ySt2 y g) (yF y) w h).2 = some (true, k)) : (1 ≤ k ∧ k + k + 1 ≤ w) ∧ wV (ySt2 y g) (yF y) k h + wV (ySt2 y g) (yF y) (w - k - 1) h = wV (ySt2 y g) (yF y) w h := by
  obtain ⟨⟨a1, a2⟩, a3⟩ := qV_v h1 h2 e
  rw [show w - yF y - k = w - k - 1 by omega] at a3
  exact ⟨⟨a1, by omega⟩, a3⟩
theorem lw_cutH {y : YV} {g w h k : Nat} (hF : yF y = 1) (h1 : 1 ≤ w) (h2 : 1 ≤ h) (e : (qV (ySt2 y g) (yF y) w h).2 = some (false, k)) : (1 ≤ k ∧ k + k + 1 ≤ h) ∧ wV (ySt2 y g) (yF y) w k + wV (ySt2 y g) (yF y) w (h - k - 1) = wV (ySt2 y g) (yF y) w h := by
  obtain ⟨⟨a1, a2⟩, a3⟩ := qV_h h1 h2 e
  rw [show h - yF y - k = h - k - 1 by omega] at a3
  exact ⟨⟨a1, by omega⟩, a3⟩
theorem lw_worth {y : YV} (h : yPr y) {g a b : Nat} (h1 : 1 ≤ a) (h2 : 1 ≤ b) (h3 : a ≤ 24) (h4 : b ≤ 24) : wV (ySt2 y g) (yF y) a b ≤ 575424 := wV_le (fun _ _ => bestN_le (fun j hj => (h j hj).2)) h1 h2 h3 h4
theorem YardC.sok {K : gK} {L1 L2 : Nat → Nat → Nat} {M : Nat → Nat} {hy : Nat} {G : gW} {y : YV} (h : YardC K L1 L2 M hy G y) : ∀ i, i < ySc y → sOK (yS y i) := fun _ hi => by
  obtain ⟨P, -, -, -, h9⟩ := h.2.1.slab hi
  exact h9
theorem YardC.kok {K : gK} {L1 L2 : Nat → Nat → Nat} {M : Nat → Nat} {hy : Nat} {G : gW} {y : YV} (h : YardC K L1 L2 M hy G y) : ∀ i, i < yKc y → kOK (yK y i) := fun _ hi => (h.2.1.kind hi).2
/-- a step of the law: what comes of the yard -/
def TR (y y1 : YV) : Prop := PI y1 ∧ yKc y1 = yKc y ∧ wst y ≤ wst y1 ∧ yPaid y ≤ yPaid y1 ∧ yPaid y1 ≤ yPaid y + 1998
theorem TR.rf {y : YV} (h : PI y) : TR y y := ⟨h, rfl, Nat.le_refl _, Nat.le_refl _, Nat.le_add_right _ _⟩
theorem stp.TR {c : Nat} {y y1 : YV} (h : stp c y y1) (hc : c ≤ 1998) : TR y y1 := ⟨h.1, h.2.1, h.2.2.1, h.2.2.2.2.1, by have := h.2.2.2.2.2; omega⟩
theorem TR.slab {y : YV} (h : PI y) {u : SV} (hu : sF u = -1) (hT : sT u = 0) : TR y (yAddS y u) := by
  obtain ⟨h1, h2, -, h4, h5⟩ := PI_slab h hu hT
  exact ⟨h1, h5, by omega, by omega, by omega⟩
