/-! ArrayList: its own cell at t, its array at one of two places tb -/
abbrev cL (mod : Int32) (ar n : Nat) : va_E := .inr (0, [.int mod, .ref ar, .int (nI n)])
def ALg (K : gK) (t : gTag) (tb : Bool → gTag) (G : gW) (h n : Nat) (f : Nat → Nat) : Prop :=
  ∃ mod, (n = 0 ∧ G t = some (h, cL mod K.2.2.1 0)) ∨ ∃ b ar cap g, G t = some (h, cL mod ar n) ∧ G (tb b) = some (ar, cR (K.2.1 4) cap g) ∧ (1 ≤ n ∧ n ≤ cap) ∧ (cap = 10 ∨ cap = 15 ∨ cap = 22 ∨ cap = 33 ∨ cap = 49) ∧ ∀ j, j < n → g j = some (f j)
/-- the list's places are three -/
def apart (t : gTag) (tb : Bool → gTag) : Prop := (∀ b, t ≠ tb b) ∧ ∀ b, tb b ≠ tb (!b)
/-- an element: it lies at a place that is none of the list's -/
def EL (K : gK) (t : gTag) (tb : Bool → gTag) (C : String) (G : gW) (v : Nat) : Prop := ∃ u e, u ≠ t ∧ (∀ b, u ≠ tb b) ∧ G u = some (v, e) ∧ isC K C e
def off3 (t : gTag) (tb : Bool → gTag) (G G1 : gW) : Prop := ∀ u, u ≠ t → (∀ b, u ≠ tb b) → G1 u = G u
theorem off3.rf {t : gTag} {tb : Bool → gTag} {G : gW} : off3 t tb G G := fun _ _ _ => rfl
theorem off3.tr {t : gTag} {tb : Bool → gTag} {G G1 G2 : gW} (h : off3 t tb G G1) (h2 : off3 t tb G1 G2) : off3 t tb G G2 := fun u a b => (h2 u a b).trans (h u a b)
theorem off3.st {t : gTag} {tb : Bool → gTag} {G G1 : gW} {a : Nat} {e : va_E} (h : off3 t tb G G1) : off3 t tb G (gset G1 t a e) := fun u p q => (gset_ne p).trans (h u p q)
theorem off3.sb {t : gTag} {tb : Bool → gTag} {G G1 : gW} {a : Nat} {e : va_E} {b : Bool} (h : off3 t tb G G1) : off3 t tb G (gset G1 (tb b) a e) := fun u p q => (gset_ne (q b)).trans (h u p q)
theorem ALg.moved {K : gK} {t : gTag} {tb : Bool → gTag} {G G1 : gW} {h n : Nat} {f : Nat → Nat} (a : ALg K t tb G h n f) (h1 : G1 t = G t) (h2 : ∀ b, G1 (tb b) = G (tb b)) : ALg K t tb G1 h n f := by
  obtain ⟨mod, ⟨e1, e2⟩ | ⟨b, ar, cap, g, e1, e2, e3⟩⟩ := a
  · exact ⟨mod, Or.inl ⟨e1, h1.trans e2⟩⟩
  · exact ⟨mod, Or.inr ⟨b, ar, cap, g, h1.trans e1, (h2 b).trans e2, e3⟩⟩
theorem EL.off {K : gK} {t : gTag} {tb : Bool → gTag} {C : String} {G G1 : gW} {v : Nat} (h : EL K t tb C G v) (ho : off3 t tb G G1) : EL K t tb C G1 v := by
  obtain ⟨u, e, h1, h2, h3, h4⟩ := h
  exact ⟨u, e, h1, h2, (ho u h1 h2).trans h3, h4⟩
theorem ishr1 {n : Nat} (hn : n < 1000) : (nI n) >>> (nI 1 &&& 31) = nI (n / 2) := pk_shrN (by omega) _ 1 (by decide)
section GSH
variable {p : Program} {l : Launch} {e : Env} {R : Room} {s : State} {m : MethodId} {args : Array Value} {below : List Frame} {meth : Method} {c : Code} {H : Heap} {locs : List Loc} {cells slots : Nat} {Q : State → Prop}
variable {cc : ByteArray} {pc : Nat} {ls : Array Slot} {rest : List Value}
theorem g_ishr (hexec : p.tables.exec = Jvm.exec) (hb : c.code = cc) {x y : Int32} (hdg : decode cc pc = .ok (.ishr, 1)) {v : Int32} (hv : x >>> (y &&& 31) = v)
    (k : W p l e R s m args below meth c H locs cells slots Q (F0 m (pc + 1) ls (.int v :: rest))) : W p l e R s m args below meth c H locs cells slots Q (F0 m pc ls (.int y :: .int x :: rest)) := by
  subst hv
  exact lv_ishr hexec hb hdg k
end GSH
set_option maxHeartbeats 4000000 in
set_option maxRecDepth 100000 in
/-- AbstractCollection() -/
theorem c_acInit (l : Launch) (K : gK) (G : gW) (h : Nat) : gM l yJxa1e45_init_da8c8 wsJxa1e45_init_da8c8 2 40 0 0 K [.ref h] G (fun v G1 => v = none ∧ G1 = G) (gNo) := by
  refine gM.of (cc := cJxa1e45_init_da8c8) (maxL := 1) (ret := none) (by decide) rfl (Nat.le_of_ble_eq_true rfl) ?_
  intro p e s m below meth c A S hr hlocks htab hname hE hA hI ls hl
  have hx := S.1
  have hb := S.2.1
  have hml := S.2.2.1
  have hl : lv_has ls 1 [(0, .ref h)] := hl
  obtain ⟨H, hHe⟩ : ∃ z, z = s.heap := ⟨_, rfl⟩
  obtain ⟨locs, hLe⟩ : ∃ z : List Loc, z = [] := ⟨_, rfl⟩
  rw [← hHe, ← hLe]
  have hI : gI K A s G H locs := by rw [hHe, hLe]; exact hI
  clear hHe hLe
  refine lv_aload_n hx hb dJxa1e45_init_da8c8_0 rfl (lv_at hl 0 rfl) ?_
  refine W.objInit hx hb S.2.2.2.1 (S.2.2.2.2 _ (List.mem_cons_of_mem _ (List.mem_of_getElem? (i := 0) rfl))) (S.2.2.2.2 _ (List.mem_cons_of_mem _ (List.mem_of_getElem? (i := 1) rfl))) (S.2.2.2.2 _ (List.mem_cons_of_mem _ (List.mem_of_getElem? (i := 2) rfl))) rfl (by rw [hml]; exact hl.1) rfl dJxa1e45_init_da8c8_1 (Nat.le_of_ble_eq_true rfl) (Nat.le_of_ble_eq_true rfl) ?_
  refine W.eq (g2 := F0 m 4 ls []) rfl ?_
  exact g_vret S hI hr hlocks (Nat.zero_le _) (Nat.zero_le _) dJxa1e45_init_da8c8_4 ⟨rfl, rfl⟩
set_option maxHeartbeats 4000000 in
set_option maxRecDepth 100000 in
/-- AbstractList() -/
theorem c_alInit0 (l : Launch) (K : gK) (G : gW) (t : gTag) (h : Nat) (m0 : Int32) (v1 v2 : Value) (hg : G t = some (h, .inr (0, [.int m0, v1, v2]))) : gM l yJxc12de_init_da8c8 wsJxc12de_init_da8c8 3 60 0 0 K [.ref h] G (fun v G1 => v = none ∧ G1 = gset G t h (.inr (0, [.int (nI 0), v1, v2]))) (gNo) := by
  refine gM.of (cc := cJxc12de_init_da8c8) (maxL := 1) (ret := none) (by decide) rfl (Nat.le_of_ble_eq_true rfl) ?_
  intro p e s m below meth c A S hr hlocks htab hname hE hA hI ls hl
  have hx := S.1
  have hb := S.2.1
  have hml := S.2.2.1
  have hl : lv_has ls 1 [(0, .ref h)] := hl
  obtain ⟨H, hHe⟩ : ∃ z, z = s.heap := ⟨_, rfl⟩
  obtain ⟨locs, hLe⟩ : ∃ z : List Loc, z = [] := ⟨_, rfl⟩
  rw [← hHe, ← hLe]
  have hI : gI K A s G H locs := by rw [hHe, hLe]; exact hI
  clear hHe hLe
  refine lv_aload_n hx hb dJxc12de_init_da8c8_0 rfl (lv_at hl 0 rfl) ?_
  refine g_callI (As := []) (rest := []) (b := h) (n := 0) S hE hI hA (c_acInit l K _ h) gJxc12de_init_da8c8_Jxa1e45_init_da8c8 rfl (List.mem_cons_of_mem _ (List.mem_append_left _ (List.mem_of_getElem? (i := 3) rfl))) (List.mem_cons_of_mem _ (List.mem_append_left _ (List.mem_of_getElem? (i := 1) rfl))) (List.mem_cons_of_mem _ (List.mem_append_left _ (List.mem_of_getElem? (i := 2) rfl))) rfl (by decide +kernel) ⟨Nat.le_of_ble_eq_true rfl, Nat.le_of_ble_eq_true rfl⟩ rfl hl.1 rfl (Nat.le_of_ble_eq_true rfl) dJxc12de_init_da8c8_1 ⟨Nat.le_of_ble_eq_true rfl, Nat.le_of_ble_eq_true rfl⟩ (fun E ce q9 Gx H1 locs1 hx9 => hx9.elim) (fun rv Gc_1 H locs hp hI => ?_)
  obtain ⟨rfl, hq9⟩ := hp
  rw [hq9] at hI
  refine W.eq (g2 := F0 m 4 ls []) rfl ?_
  refine lv_aload_n hx hb dJxc12de_init_da8c8_4 rfl (lv_at hl 0 rfl) ?_
  refine lv_iconst (v := nI 0) hx hb dJxc12de_init_da8c8_5 (by decide) ?_
  refine g_put S hE hI (C := RJx4a65c) (T := TJx4a65c) (N := 3) (ref := "java/util/AbstractList") (fun w h => (List.mem_cons_of_mem _ (List.mem_append_right _ h))) tyJx4a65c tyJx4a65c_ok nmJx4a65c hg rfl 0 (by decide) (List.mem_cons_of_mem _ (List.mem_append_left _ (List.mem_of_getElem? (i := 0) rfl))) (fun _ h9 => h9) rfl rfl rfl (Nat.le_of_ble_eq_true rfl) dJxc12de_init_da8c8_6 (fun H locs hI => ?_)
  have hI : gI K A s (gset G t h (.inr (0, [.int (nI 0), v1, v2]))) H locs := hI
  obtain ⟨G_1, hG_1⟩ : ∃ z, z = gset G t h (.inr (0, [.int (nI 0), v1, v2])) := ⟨_, rfl⟩
  rw [← hG_1] at hI
  have o_G_1 : G_1 t = some (h, .inr (0, [.int (nI 0), v1, v2])) := by rw [hG_1]; exact gset_eq _ _ _ _
  exact g_vret S hI hr hlocks (Nat.zero_le _) (Nat.zero_le _) dJxc12de_init_da8c8_9 ⟨rfl, hG_1⟩
set_option maxHeartbeats 4000000 in
set_option maxRecDepth 100000 in
/-- ArrayList() -/
theorem c_alInit (l : Launch) (K : gK) (G : gW) (t : gTag) (h : Nat) (hg : G t = some (h, .inr (0, [.int (nI 0), .null, .int (nI 0)]))) : gM l yJx4a65c_init_da8c8 wsJx4a65c_init_da8c8 4 80 0 0 K [.ref h] G (fun v G1 => v = none ∧ G1 = gset G t h (cL (nI 0) K.2.2.1 0)) (gNo) := by
  refine gM.of (cc := cJx4a65c_init_da8c8) (maxL := 1) (ret := none) (by decide) rfl (Nat.le_of_ble_eq_true rfl) ?_
  intro p e s m below meth c A S hr hlocks htab hname hE hA hI ls hl
  have hx := S.1
  have hb := S.2.1
  have hml := S.2.2.1
  have hl : lv_has ls 1 [(0, .ref h)] := hl
  obtain ⟨H, hHe⟩ : ∃ z, z = s.heap := ⟨_, rfl⟩
  obtain ⟨locs, hLe⟩ : ∃ z : List Loc, z = [] := ⟨_, rfl⟩
  rw [← hHe, ← hLe]
  have hI : gI K A s G H locs := by rw [hHe, hLe]; exact hI
  clear hHe hLe
  refine lv_aload_n hx hb dJx4a65c_init_da8c8_0 rfl (lv_at hl 0 rfl) ?_
  refine g_callI (As := []) (rest := []) (b := h) (n := 0) S hE hI hA (c_alInit0 l K _ t h (nI 0) .null (.int (nI 0)) hg) gJx4a65c_init_da8c8_Jxc12de_init_da8c8 rfl (List.mem_cons_of_mem _ (List.mem_append_left _ (List.mem_of_getElem? (i := 4) rfl))) (List.mem_cons_of_mem _ (List.mem_append_left _ (List.mem_of_getElem? (i := 2) rfl))) (List.mem_cons_of_mem _ (List.mem_append_left _ (List.mem_of_getElem? (i := 3) rfl))) rfl (by decide +kernel) ⟨Nat.le_of_ble_eq_true rfl, Nat.le_of_ble_eq_true rfl⟩ rfl hl.1 rfl (Nat.le_of_ble_eq_true rfl) dJx4a65c_init_da8c8_1 ⟨Nat.le_of_ble_eq_true rfl, Nat.le_of_ble_eq_true rfl⟩ (fun E ce q9 Gx H1 locs1 hx9 => hx9.elim) (fun rv Gc_1 H locs hp hI => ?_)
  obtain ⟨rfl, hGc⟩ := hp
  have ho1 : Gc_1 t = some (h, .inr (0, [.int (nI 0), .null, .int (nI 0)])) := by rw [hGc]; exact gset_eq _ _ _ _
  refine W.eq (g2 := F0 m 4 ls []) rfl ?_
  refine lv_aload_n hx hb dJx4a65c_init_da8c8_4 rfl (lv_at hl 0 rfl) ?_
  refine g_gets S hE hI (List.mem_cons_of_mem _ (List.mem_append_left _ (List.mem_of_getElem? (i := 0) rfl))) dJx4a65c_init_da8c8_5 ?_
  refine g_put S hE hI (C := RJx4a65c) (T := TJx4a65c) (N := 3) (ref := "java/util/ArrayList") (fun w h => (List.mem_cons_of_mem _ (List.mem_append_right _ h))) tyJx4a65c tyJx4a65c_ok nmJx4a65c ho1 rfl 1 (by decide) (List.mem_cons_of_mem _ (List.mem_append_left _ (List.mem_of_getElem? (i := 1) rfl))) (fun _ h9 => h9) rfl rfl rfl (Nat.le_of_ble_eq_true rfl) dJx4a65c_init_da8c8_8 (fun H locs hI => ?_)
  have hI : gI K A s (gset Gc_1 t h (.inr (0, [.int (nI 0), .ref K.2.2.1, .int (nI 0)]))) H locs := hI
  obtain ⟨G_1, hG_1⟩ : ∃ z, z = gset Gc_1 t h (.inr (0, [.int (nI 0), .ref K.2.2.1, .int (nI 0)])) := ⟨_, rfl⟩
  rw [← hG_1] at hI
  have o_G_1 : G_1 t = some (h, .inr (0, [.int (nI 0), .ref K.2.2.1, .int (nI 0)])) := by rw [hG_1]; exact gset_eq _ _ _ _
  exact g_vret S hI hr hlocks (Nat.zero_le _) (Nat.zero_le _) dJx4a65c_init_da8c8_11 ⟨rfl, by rw [hG_1, hGc, gset_gset]⟩
set_option maxHeartbeats 4000000 in
set_option maxRecDepth 100000 in
/-- ArrayList.size() -/
theorem c_alSize0 (l : Launch) (K : gK) (G : gW) (t : gTag) (h n : Nat) (mod : Int32) (ar : Nat) (hg : G t = some (h, cL mod ar n)) : gM l yJx4a65c_size_8abf5 wsJx4a65c_size_8abf5 2 40 0 0 K [.ref h] G (fun v G1 => v = some (.int (nI n)) ∧ G1 = G) (gNo) := by
  refine gM.of (cc := cJx4a65c_size_8abf5) (maxL := 1) (ret := (some .int)) (by decide) rfl (Nat.le_of_ble_eq_true rfl) ?_
  intro p e s m below meth c A S hr hlocks htab hname hE hA hI ls hl
  have hx := S.1
  have hb := S.2.1
  have hml := S.2.2.1
  have hl : lv_has ls 1 [(0, .ref h)] := hl
  obtain ⟨H, hHe⟩ : ∃ z, z = s.heap := ⟨_, rfl⟩
  obtain ⟨locs, hLe⟩ : ∃ z : List Loc, z = [] := ⟨_, rfl⟩
  rw [← hHe, ← hLe]
  have hI : gI K A s G H locs := by rw [hHe, hLe]; exact hI
  clear hHe hLe
  refine lv_aload_n hx hb dJx4a65c_size_8abf5_0 rfl (lv_at hl 0 rfl) ?_
  refine g_get S hE hI (C := RJx4a65c) (T := TJx4a65c) (N := 3) (ref := "java/util/ArrayList") (fun w h => (List.mem_cons_of_mem _ (List.mem_append_right _ h))) hg rfl 2 (by decide) (List.mem_cons_of_mem _ (List.mem_append_left _ (List.mem_of_getElem? (i := 0) rfl))) (fun _ h9 => h9) (v := .int (nI n)) rfl dJx4a65c_size_8abf5_1 ?_
  exact g_iret S hI hr hlocks (Nat.zero_le _) (Nat.zero_le _) dJx4a65c_size_8abf5_4 ⟨rfl, rfl⟩
set_option maxHeartbeats 4000000 in
set_option maxRecDepth 100000 in
/-- Preconditions.checkIndex -/
theorem c_ckIx3 (l : Launch) (K : gK) (G : gW) (i n : Nat) (hin : i < n ∧ n < 1000) : gM l yJ3_checkIndex_8e157 wsJ3_checkIndex_8e157 2 40 0 0 K [.int (nI i), .int (nI n), .null] G (fun v G1 => v = some (.int (nI i)) ∧ G1 = G) (gNo) := by
  refine gM.of (cc := cJ3_checkIndex_8e157) (maxL := 3) (ret := (some .int)) (by decide) rfl (Nat.le_of_ble_eq_true rfl) ?_
  intro p e s m below meth c A S hr hlocks htab hname hE hA hI ls hl
  have hx := S.1
  have hb := S.2.1
  have hml := S.2.2.1
  have hl : lv_has ls 3 [(0, .int (nI i)), (1, .int (nI n)), (2, .null)] := hl
  obtain ⟨H, hHe⟩ : ∃ z, z = s.heap := ⟨_, rfl⟩
  obtain ⟨locs, hLe⟩ : ∃ z : List Loc, z = [] := ⟨_, rfl⟩
  rw [← hHe, ← hLe]
  have hI : gI K A s G H locs := by rw [hHe, hLe]; exact hI
  clear hHe hLe
  refine lv_iload_n hx hb dJ3_checkIndex_8e157_0 rfl (lv_at hl 0 rfl) ?_
  refine lv_if_lt (tgt := 9) hx hb dJ3_checkIndex_8e157_1 (by decide) (fun c_1 => ?_) (fun c_1 => ?_)
  · skip
    have c_1 : i < 0 := (nI_ltI (a := i) (b := 0) (by omega) (by omega)).mp c_1
    exact absurd c_1 (by omega)
  · skip
    have c_1 : 0 ≤ i := Nat.not_lt.mp (fun z => c_1 ((nI_ltI (a := i) (b := 0) (by omega) (by omega)).mpr z))
    refine lv_iload_n hx hb dJ3_checkIndex_8e157_4 rfl (lv_at hl 0 rfl) ?_
    refine lv_iload_n hx hb dJ3_checkIndex_8e157_5 rfl (lv_at hl 1 rfl) ?_
    refine lv_icmp_lt (tgt := 16) hx hb dJ3_checkIndex_8e157_6 (by decide) (fun c_6 => ?_) (fun c_6 => ?_)
    · skip
      have c_6 : i < n := (nI_ltI (a := i) (b := n) (by omega) (by omega)).mp c_6
      refine lv_iload_n hx hb dJ3_checkIndex_8e157_16 rfl (lv_at hl 0 rfl) ?_
      exact g_iret S hI hr hlocks (Nat.zero_le _) (Nat.zero_le _) dJ3_checkIndex_8e157_17 ⟨rfl, rfl⟩
    · skip
      have c_6 : n ≤ i := Nat.not_lt.mp (fun z => c_6 ((nI_ltI (a := i) (b := n) (by omega) (by omega)).mpr z))
      exact absurd c_6 (by omega)
set_option maxHeartbeats 4000000 in
set_option maxRecDepth 100000 in
/-- Objects.checkIndex -/
theorem c_ckIx (l : Launch) (K : gK) (G : gW) (i n : Nat) (hin : i < n ∧ n < 1000) : gM l yJ15_checkIndex_7cf53 wsJ15_checkIndex_7cf53 3 62 0 0 K [.int (nI i), .int (nI n)] G (fun v G1 => v = some (.int (nI i)) ∧ G1 = G) (gNo) := by
  refine gM.of (cc := cJ15_checkIndex_7cf53) (maxL := 2) (ret := (some .int)) (by decide) rfl (Nat.le_of_ble_eq_true rfl) ?_
  intro p e s m below meth c A S hr hlocks htab hname hE hA hI ls hl
  have hx := S.1
  have hb := S.2.1
  have hml := S.2.2.1
  have hl : lv_has ls 2 [(0, .int (nI i)), (1, .int (nI n))] := hl
  obtain ⟨H, hHe⟩ : ∃ z, z = s.heap := ⟨_, rfl⟩
  obtain ⟨locs, hLe⟩ : ∃ z : List Loc, z = [] := ⟨_, rfl⟩
  rw [← hHe, ← hLe]
  have hI : gI K A s G H locs := by rw [hHe, hLe]; exact hI
  clear hHe hLe
  refine lv_iload_n hx hb dJ15_checkIndex_7cf53_0 rfl (lv_at hl 0 rfl) ?_
  refine lv_iload_n hx hb dJ15_checkIndex_7cf53_1 rfl (lv_at hl 1 rfl) ?_
  refine lv_null hx hb dJ15_checkIndex_7cf53_2 ?_
  refine g_callS (As := [.int (nI i), .int (nI n), .null]) (rest := []) (n := 3) S hE hI hA (c_ckIx3 l K _ i n hin) gJ15_checkIndex_7cf53_J3_checkIndex_8e157 rfl (by decide +kernel) ⟨Nat.le_of_ble_eq_true rfl, Nat.le_of_ble_eq_true rfl⟩ rfl hl.1 rfl (Nat.le_of_ble_eq_true rfl) dJ15_checkIndex_7cf53_3 ⟨Nat.le_of_ble_eq_true rfl, Nat.le_of_ble_eq_true rfl⟩ (fun E ce q9 Gx H1 locs1 hx9 => hx9.elim) (fun rv Gc_3 H locs hp hI => ?_)
  obtain ⟨rfl, hq9⟩ := hp
  rw [hq9] at hI
  refine W.eq (g2 := F0 m 6 ls [.int (nI i)]) rfl ?_
  exact g_iret S hI hr hlocks (Nat.zero_le _) (Nat.zero_le _) dJ15_checkIndex_7cf53_6 ⟨rfl, rfl⟩
set_option maxHeartbeats 4000000 in
set_option maxRecDepth 100000 in
/-- ArrayList.elementData(index) -/
theorem c_alElem (l : Launch) (K : gK) (G : gW) (t tc : gTag) (h n : Nat) (mod : Int32) (ar cap : Nat) (g : Nat → Option Nat) (i v : Nat) (hg : G t = some (h, cL mod ar n)) (hg2 : G tc = some (ar, cR (K.2.1 4) cap g)) (hin : i < n ∧ n ≤ cap ∧ cap ≤ 200) (hgi : g i = some v) : gM l yJx4a65c_elementData_915e3 wsJx4a65c_elementData_915e3 2 40 0 0 K [.ref h, .int (nI i)] G (fun r G1 => r = some (.ref v) ∧ G1 = G) (gNo) := by
  refine gM.of (cc := cJx4a65c_elementData_915e3) (maxL := 2) (ret := (some (.object "java/lang/Object"))) (by decide) rfl (Nat.le_of_ble_eq_true rfl) ?_
  intro p e s m below meth c A S hr hlocks htab hname hE hA hI ls hl
  have hx := S.1
  have hb := S.2.1
  have hml := S.2.2.1
  have hl : lv_has ls 2 [(0, .ref h), (1, .int (nI i))] := hl
  obtain ⟨H, hHe⟩ : ∃ z, z = s.heap := ⟨_, rfl⟩
  obtain ⟨locs, hLe⟩ : ∃ z : List Loc, z = [] := ⟨_, rfl⟩
  rw [← hHe, ← hLe]
  have hI : gI K A s G H locs := by rw [hHe, hLe]; exact hI
  clear hHe hLe
  refine lv_aload_n hx hb dJx4a65c_elementData_915e3_0 rfl (lv_at hl 0 rfl) ?_
  refine g_get S hE hI (C := RJx4a65c) (T := TJx4a65c) (N := 3) (ref := "java/util/ArrayList") (fun w h => (List.mem_cons_of_mem _ (List.mem_append_right _ h))) hg rfl 1 (by decide) (List.mem_cons_of_mem _ (List.mem_append_left _ (List.mem_of_getElem? (i := 0) rfl))) (fun _ h9 => h9) (v := .ref ar) rfl dJx4a65c_elementData_915e3_1 ?_
  refine lv_iload_n hx hb dJx4a65c_elementData_915e3_4 rfl (lv_at hl 1 rfl) ?_
  refine g_aald S hE hI (j := i) (f := g) hg2 (k := 4) rfl rfl rfl (by omega) (by omega) (v := .ref v) (congrArg va_rf hgi) dJx4a65c_elementData_915e3_5 ?_
  exact g_aret S hI hr (Or.inl ⟨_, rfl⟩) (Or.inr ⟨_, rfl⟩) hlocks (Nat.zero_le _) (Nat.zero_le _) dJx4a65c_elementData_915e3_6 ⟨rfl, rfl⟩
set_option maxHeartbeats 4000000 in
set_option maxRecDepth 100000 in
/-- ArrayList.get(index) -/
theorem c_alGet0 (l : Launch) (K : gK) (G : gW) (t tc : gTag) (h n : Nat) (mod : Int32) (ar cap : Nat) (g : Nat → Option Nat) (i v : Nat) (hg : G t = some (h, cL mod ar n)) (hg2 : G tc = some (ar, cR (K.2.1 4) cap g)) (hin : i < n ∧ n ≤ cap ∧ cap ≤ 200) (hgi : g i = some v) : gM l yJx4a65c_get_915e3 wsJx4a65c_get_915e3 4 83 0 0 K [.ref h, .int (nI i)] G (fun r G1 => r = some (.ref v) ∧ G1 = G) (gNo) := by
  refine gM.of (cc := cJx4a65c_get_915e3) (maxL := 2) (ret := (some (.object "java/lang/Object"))) (by decide) rfl (Nat.le_of_ble_eq_true rfl) ?_
  intro p e s m below meth c A S hr hlocks htab hname hE hA hI ls hl
  have hx := S.1
  have hb := S.2.1
  have hml := S.2.2.1
  have hl : lv_has ls 2 [(0, .ref h), (1, .int (nI i))] := hl
  obtain ⟨H, hHe⟩ : ∃ z, z = s.heap := ⟨_, rfl⟩
  obtain ⟨locs, hLe⟩ : ∃ z : List Loc, z = [] := ⟨_, rfl⟩
  rw [← hHe, ← hLe]
  have hI : gI K A s G H locs := by rw [hHe, hLe]; exact hI
  clear hHe hLe
  refine lv_iload_n hx hb dJx4a65c_get_915e3_0 rfl (lv_at hl 1 rfl) ?_
  refine lv_aload_n hx hb dJx4a65c_get_915e3_1 rfl (lv_at hl 0 rfl) ?_
  refine g_get S hE hI (C := RJx4a65c) (T := TJx4a65c) (N := 3) (ref := "java/util/ArrayList") (fun w h => (List.mem_cons_of_mem _ (List.mem_append_right _ h))) hg rfl 2 (by decide) (List.mem_cons_of_mem _ (List.mem_append_left _ (List.mem_of_getElem? (i := 0) rfl))) (fun _ h9 => h9) (v := .int (nI n)) rfl dJx4a65c_get_915e3_2 ?_
  refine g_callS (As := [.int (nI i), .int (nI n)]) (rest := []) (n := 2) S hE hI hA (c_ckIx l K _ i n ⟨by omega, by omega⟩) gJx4a65c_get_915e3_J15_checkIndex_7cf53 rfl (by decide +kernel) ⟨Nat.le_of_ble_eq_true rfl, Nat.le_of_ble_eq_true rfl⟩ rfl hl.1 rfl (Nat.le_of_ble_eq_true rfl) dJx4a65c_get_915e3_5 ⟨Nat.le_of_ble_eq_true rfl, Nat.le_of_ble_eq_true rfl⟩ (fun E ce q9 Gx H1 locs1 hx9 => hx9.elim) (fun rv Gc_5 H locs hp hI => ?_)
  obtain ⟨rfl, hq9⟩ := hp
  rw [hq9] at hI
  refine W.eq (g2 := F0 m 8 ls [.int (nI i)]) rfl ?_
  refine lv_pop hx hb dJx4a65c_get_915e3_8 rfl ?_
  refine lv_aload_n hx hb dJx4a65c_get_915e3_9 rfl (lv_at hl 0 rfl) ?_
  refine lv_iload_n hx hb dJx4a65c_get_915e3_10 rfl (lv_at hl 1 rfl) ?_
  refine g_callV (As := [.int (nI i)]) (rest := []) (b := h) (n := 1) S hE hI hA (c_alElem l K _ t tc h n mod ar cap g i v hg hg2 hin hgi) gJx4a65c_get_915e3_Jx4a65c_elementData_915e3 rfl (by decide +kernel) ⟨Nat.le_of_ble_eq_true rfl, Nat.le_of_ble_eq_true rfl⟩ (g_hro hE hI hg rfl) rfl hl.1 rfl (Nat.le_of_ble_eq_true rfl) dJx4a65c_get_915e3_11 ⟨Nat.le_of_ble_eq_true rfl, Nat.le_of_ble_eq_true rfl⟩ (fun E ce q9 Gx H1 locs1 hx9 => hx9.elim) (fun rv Gc_11 H locs hp hI => ?_)
  obtain ⟨rfl, hq9⟩ := hp
  rw [hq9] at hI
  refine W.eq (g2 := F0 m 14 ls [.ref v]) rfl ?_
  exact g_aret S hI hr (Or.inl ⟨_, rfl⟩) (Or.inr ⟨_, rfl⟩) hlocks (Nat.zero_le _) (Nat.zero_le _) dJx4a65c_get_915e3_14 ⟨rfl, rfl⟩
set_option maxHeartbeats 4000000 in
set_option maxRecDepth 100000 in
/-- ArraysSupport.newLength -/
theorem c_newLen (l : Launch) (K : gK) (G : gW) (a b c2 : Nat) (hab : a ≤ 1000 ∧ 1 ≤ b ∧ b ≤ 1000 ∧ c2 ≤ 1000) : gM l yJ8_newLength_cabcc wsJ8_newLength_cabcc 2 40 0 0 K [.int (nI a), .int (nI b), .int (nI c2)] G (fun v G1 => v = some (.int (nI (a + max b c2))) ∧ G1 = G) (gNo) := by
  refine gM.of (cc := cJ8_newLength_cabcc) (maxL := 4) (ret := (some .int)) (by decide) rfl (Nat.le_of_ble_eq_true rfl) ?_
  intro p e s m below meth c A S hr hlocks htab hname hE hA hI ls hl
  have hx := S.1
  have hb := S.2.1
  have hml := S.2.2.1
  have hl : lv_has ls 4 [(0, .int (nI a)), (1, .int (nI b)), (2, .int (nI c2))] := hl
  obtain ⟨H, hHe⟩ : ∃ z, z = s.heap := ⟨_, rfl⟩
  obtain ⟨locs, hLe⟩ : ∃ z : List Loc, z = [] := ⟨_, rfl⟩
  rw [← hHe, ← hLe]
  have hI : gI K A s G H locs := by rw [hHe, hLe]; exact hI
  clear hHe hLe
  refine lv_iload_n hx hb dJ8_newLength_cabcc_0 rfl (lv_at hl 0 rfl) ?_
  refine lv_iload_n hx hb dJ8_newLength_cabcc_1 rfl (lv_at hl 1 rfl) ?_
  refine lv_iload_n hx hb dJ8_newLength_cabcc_2 rfl (lv_at hl 2 rfl) ?_
  refine g_mmax S hl.1 (S.2.2.2.2 _ (List.mem_cons_of_mem _ (List.mem_of_getElem? (i := 0) rfl))) (S.2.2.2.2 _ (List.mem_cons_of_mem _ (List.mem_of_getElem? (i := 1) rfl))) (S.2.2.2.2 _ (List.mem_cons_of_mem _ (List.mem_of_getElem? (i := 2) rfl))) (S.2.2.2.2 _ (List.mem_cons_of_mem _ (List.mem_of_getElem? (i := 3) rfl))) (Nat.le_of_ble_eq_true rfl) (Nat.le_of_ble_eq_true rfl) (Nat.zero_le _) (Nat.zero_le _) dJ8_newLength_cabcc_3 (v := nI (max b c2)) (max_nI (by omega) (by omega)) ?_
  refine t_iadd hx hb dJ8_newLength_cabcc_6 (nI_add _ _) ?_
  refine lv_istore_n (lv' := [(3, .int (nI (a + (max b c2)))), (0, .int (nI a)), (1, .int (nI b)), (2, .int (nI c2))]) hx hb dJ8_newLength_cabcc_7 rfl hl (by decide) rfl (fun ls hl => ?_)
  refine lv_iconst (v := nI 0) hx hb dJ8_newLength_cabcc_8 (by decide) ?_
  refine lv_iload_n hx hb dJ8_newLength_cabcc_9 rfl (lv_at hl 0 rfl) ?_
  refine lv_icmp_ge (tgt := 21) hx hb dJ8_newLength_cabcc_10 (by decide) (fun c_10 => ?_) (fun c_10 => ?_)
  · skip
    have c_10 : (a + (max b c2)) ≤ 0 := (nI_leI (a := (a + (max b c2))) (b := 0) (by omega) (by omega)).mp c_10
    exact absurd c_10 (by omega)
  · skip
    have c_10 : 0 < (a + (max b c2)) := Nat.not_le.mp (fun z => c_10 ((nI_leI (a := (a + (max b c2))) (b := 0) (by omega) (by omega)).mpr z))
    refine lv_iload_n hx hb dJ8_newLength_cabcc_13 rfl (lv_at hl 0 rfl) ?_
    refine lv_ldc hx hb S.2.2.2.1 (S.2.2.2.2 _ (List.mem_cons_of_mem _ (List.mem_of_getElem? (i := 4) rfl))) dJ8_newLength_cabcc_14 ?_
    refine lv_icmp_gt (tgt := 21) hx hb dJ8_newLength_cabcc_16 (by decide) (fun c_16 => ?_) (fun c_16 => ?_)
    · skip
      have c_16 : 2147483639 < (a + (max b c2)) := (nI_ltI (a := 2147483639) (b := (a + (max b c2))) (by omega) (by omega)).mp c_16
      exact absurd c_16 (by omega)
    · skip
      have c_16 : (a + (max b c2)) ≤ 2147483639 := Nat.not_lt.mp (fun z => c_16 ((nI_ltI (a := 2147483639) (b := (a + (max b c2))) (by omega) (by omega)).mpr z))
      refine lv_iload_n hx hb dJ8_newLength_cabcc_19 rfl (lv_at hl 0 rfl) ?_
      exact g_iret S hI hr hlocks (Nat.zero_le _) (Nat.zero_le _) dJ8_newLength_cabcc_20 ⟨rfl, rfl⟩
set_option maxHeartbeats 4000000 in
set_option maxRecDepth 100000 in
/-- Arrays.copyOf(.., Object[].class) of the empty array -/
theorem c_copy3E (l : Launch) (K : gK) (G : gW) (td : gTag) (m0 : Nat) (hm : m0 ≤ 10) : gM l yJ7_copyOf_6403c wsJ7_copyOf_6403c 2 40 1 10 K [.ref K.2.2.1, .int (nI m0), .ref (K.2.2.2 1000)] G (fun r G1 => ∃ q, r = some (.ref q) ∧ G1 = gset G td q (cR (K.2.1 4) m0 (fun _ => none))) (gNo) := by
  refine gM.of (cc := cJ7_copyOf_6403c) (maxL := 4) (ret := (some (.array (.object "java/lang/Object")))) (by decide) rfl (Nat.le_of_ble_eq_true rfl) ?_
  intro p e s m below meth c A S hr hlocks htab hname hE hA hI ls hl
  have hx := S.1
  have hb := S.2.1
  have hml := S.2.2.1
  have hl : lv_has ls 4 [(0, .ref K.2.2.1), (1, .int (nI m0)), (2, .ref (K.2.2.2 1000))] := hl
  obtain ⟨H, hHe⟩ : ∃ z, z = s.heap := ⟨_, rfl⟩
  obtain ⟨locs, hLe⟩ : ∃ z : List Loc, z = [] := ⟨_, rfl⟩
  rw [← hHe, ← hLe]
  have hI : gI K A s G H locs := by rw [hHe, hLe]; exact hI
  clear hHe hLe
  refine lv_aload_n hx hb dJ7_copyOf_6403c_0 rfl (lv_at hl 2 rfl) ?_
  refine g_ldcM S hE (List.mem_cons_of_mem _ (List.mem_of_getElem? (i := 0) rfl)) dJ7_copyOf_6403c_1 ?_
  refine lv_acmp_ne (rx := some (K.2.2.2 1000)) (ry := some (K.2.2.2 1000)) (tgt := 13) hx hb dJ7_copyOf_6403c_3 (by decide) (fun c_3 => ?_) (fun c_3 => ?_)
  · skip
    exact absurd rfl c_3
  · skip
    refine lv_iload_n hx hb dJ7_copyOf_6403c_6 rfl (lv_at hl 1 rfl) ?_
    refine g_newA S hE hI hA (List.mem_cons_of_mem _ (List.mem_of_getElem? (i := 1) rfl)) hE.2.2.2.2.2.2.2.2.2.2.2.1 4 rfl (N' := m0) rfl (by omega) td (by show _ ≤ 1; omega) (by show _ ≤ 10; omega) dJ7_copyOf_6403c_7 (fun q_7 H hq_7 hI => ?_)
    obtain ⟨G_1, hG_1⟩ : ∃ z, z = gset G td q_7 (cR (K.2.1 4) m0 (fun _ => none)) := ⟨_, rfl⟩
    have hI : gI K A s G_1 H locs := by rw [hG_1]; exact hI
    have d0_G_1 : G_1 td = some (q_7, cR (K.2.1 4) m0 (fun _ => none)) := by rw [hG_1]; exact gset_eq _ _ _ _
    refine lv_goto (tgt := 24) hx hb dJ7_copyOf_6403c_10 (by decide) ?_
    refine lv_astore_n (lv' := [(3, .ref q_7), (0, .ref K.2.2.1), (1, .int (nI m0)), (2, .ref (K.2.2.2 1000))]) hx hb dJ7_copyOf_6403c_24 rfl hl (by decide) rfl (fun ls hl => ?_)
    refine lv_aload_n hx hb dJ7_copyOf_6403c_25 rfl (lv_at hl 1 rfl) ?_
    refine lv_iconst (v := nI 0) hx hb dJ7_copyOf_6403c_26 (by decide) ?_
    refine lv_aload_n hx hb dJ7_copyOf_6403c_27 rfl (lv_at hl 0 rfl) ?_
    refine lv_iconst (v := nI 0) hx hb dJ7_copyOf_6403c_28 (by decide) ?_
    refine lv_aload_n hx hb dJ7_copyOf_6403c_29 rfl (lv_at hl 1 rfl) ?_
    refine g_tlen S hE hI dJ7_copyOf_6403c_30 ?_
    refine lv_iload_n hx hb dJ7_copyOf_6403c_31 rfl (lv_at hl 2 rfl) ?_
    refine g_mmin S hl.1 (S.2.2.2.2 _ (List.mem_cons_of_mem _ (List.mem_of_getElem? (i := 2) rfl))) (S.2.2.2.2 _ (List.mem_cons_of_mem _ (List.mem_of_getElem? (i := 3) rfl))) (S.2.2.2.2 _ (List.mem_cons_of_mem _ (List.mem_of_getElem? (i := 4) rfl))) (S.2.2.2.2 _ (List.mem_cons_of_mem _ (List.mem_of_getElem? (i := 5) rfl))) (Nat.le_of_ble_eq_true rfl) (Nat.le_of_ble_eq_true rfl) (by show _ ≤ 1; omega) (by show _ ≤ 10; omega) dJ7_copyOf_6403c_32 (v := nI 0) (by rw [min_nI (by omega) (by omega), Nat.zero_min]) ?_
    refine g_copyE S hE hI (d := 0) hl.1 (List.mem_cons_of_mem _ (List.mem_of_getElem? (i := 6) rfl)) (List.mem_cons_of_mem _ (List.mem_of_getElem? (i := 7) rfl)) (List.mem_cons_of_mem _ (List.mem_of_getElem? (i := 8) rfl)) (List.mem_cons_of_mem _ (List.mem_of_getElem? (i := 9) rfl)) d0_G_1 (Nat.zero_le _) (by omega) (Nat.le_of_ble_eq_true rfl) (Nat.le_of_ble_eq_true rfl) dJ7_copyOf_6403c_35 (fun H locs hI => ?_)
    refine lv_aload_n hx hb dJ7_copyOf_6403c_38 rfl (lv_at hl 0 rfl) ?_
    exact g_aret S hI hr (Or.inr ⟨_, rfl⟩) (Or.inr ⟨_, rfl⟩) hlocks (by omega) (by omega) dJ7_copyOf_6403c_39 ⟨q_7, rfl, hG_1⟩
set_option maxHeartbeats 4000000 in
set_option maxRecDepth 100000 in
/-- Arrays.copyOf(.., Object[].class) -/
theorem c_copy3 (l : Launch) (K : gK) (G : gW) (td : gTag) (m0 : Nat) (t0 : gTag) (a0 n0 : Nat) (f : Nat → Option Nat) (C : String) (hm : m0 ≤ 60 ∧ n0 ≤ 200) (hg : G t0 = some (a0, cR (K.2.1 4) n0 f)) (hne : t0 ≠ td) (hC : (C, "java/lang/Object") ∈ gCas) (hel : ∀ i, i < min n0 m0 → ∀ y, f i = some y → ∃ u e, u ≠ td ∧ G u = some (y, e) ∧ isC K C e) : gM l yJ7_copyOf_6403c wsJ7_copyOf_6403c 2 40 1 60 K [.ref a0, .int (nI m0), .ref (K.2.2.2 1000)] G (fun r G1 => ∃ q, r = some (.ref q) ∧ G1 = gset G td q (cR (K.2.1 4) m0 (va_cpy f (fun _ => none) 0 0 (min n0 m0)))) (gNo) := by
  refine gM.of (cc := cJ7_copyOf_6403c) (maxL := 4) (ret := (some (.array (.object "java/lang/Object")))) (by decide) rfl (Nat.le_of_ble_eq_true rfl) ?_
  intro p e s m below meth c A S hr hlocks htab hname hE hA hI ls hl
  have hx := S.1
  have hb := S.2.1
  have hml := S.2.2.1
  have hl : lv_has ls 4 [(0, .ref a0), (1, .int (nI m0)), (2, .ref (K.2.2.2 1000))] := hl
  obtain ⟨H, hHe⟩ : ∃ z, z = s.heap := ⟨_, rfl⟩
  obtain ⟨locs, hLe⟩ : ∃ z : List Loc, z = [] := ⟨_, rfl⟩
  rw [← hHe, ← hLe]
  have hI : gI K A s G H locs := by rw [hHe, hLe]; exact hI
  clear hHe hLe
  refine lv_aload_n hx hb dJ7_copyOf_6403c_0 rfl (lv_at hl 2 rfl) ?_
  refine g_ldcM S hE (List.mem_cons_of_mem _ (List.mem_of_getElem? (i := 0) rfl)) dJ7_copyOf_6403c_1 ?_
  refine lv_acmp_ne (rx := some (K.2.2.2 1000)) (ry := some (K.2.2.2 1000)) (tgt := 13) hx hb dJ7_copyOf_6403c_3 (by decide) (fun c_3 => ?_) (fun c_3 => ?_)
  · skip
    exact absurd rfl c_3
  · skip
    refine lv_iload_n hx hb dJ7_copyOf_6403c_6 rfl (lv_at hl 1 rfl) ?_
    refine g_newA S hE hI hA (List.mem_cons_of_mem _ (List.mem_of_getElem? (i := 1) rfl)) hE.2.2.2.2.2.2.2.2.2.2.2.1 4 rfl (N' := m0) rfl (by omega) td (by show _ ≤ 1; omega) (by show _ ≤ 60; omega) dJ7_copyOf_6403c_7 (fun q_7 H hq_7 hI => ?_)
    obtain ⟨G_1, hG_1⟩ : ∃ z, z = gset G td q_7 (cR (K.2.1 4) m0 (fun _ => none)) := ⟨_, rfl⟩
    have hI : gI K A s G_1 H locs := by rw [hG_1]; exact hI
    have s0_G_1 : G_1 t0 = some (a0, cR (K.2.1 4) n0 f) := by rw [hG_1, gset_ne hne]; exact hg
    have d0_G_1 : G_1 td = some (q_7, cR (K.2.1 4) m0 (fun _ => none)) := by rw [hG_1]; exact gset_eq _ _ _ _
    refine lv_goto (tgt := 24) hx hb dJ7_copyOf_6403c_10 (by decide) ?_
    refine lv_astore_n (lv' := [(3, .ref q_7), (0, .ref a0), (1, .int (nI m0)), (2, .ref (K.2.2.2 1000))]) hx hb dJ7_copyOf_6403c_24 rfl hl (by decide) rfl (fun ls hl => ?_)
    refine lv_aload_n hx hb dJ7_copyOf_6403c_25 rfl (lv_at hl 1 rfl) ?_
    refine lv_iconst (v := nI 0) hx hb dJ7_copyOf_6403c_26 (by decide) ?_
    refine lv_aload_n hx hb dJ7_copyOf_6403c_27 rfl (lv_at hl 0 rfl) ?_
    refine lv_iconst (v := nI 0) hx hb dJ7_copyOf_6403c_28 (by decide) ?_
    refine lv_aload_n hx hb dJ7_copyOf_6403c_29 rfl (lv_at hl 1 rfl) ?_
    refine g_alen S hE hI (k := 4) s0_G_1 rfl (v := nI n0) rfl dJ7_copyOf_6403c_30 ?_
    refine lv_iload_n hx hb dJ7_copyOf_6403c_31 rfl (lv_at hl 2 rfl) ?_
    refine g_mmin S hl.1 (S.2.2.2.2 _ (List.mem_cons_of_mem _ (List.mem_of_getElem? (i := 2) rfl))) (S.2.2.2.2 _ (List.mem_cons_of_mem _ (List.mem_of_getElem? (i := 3) rfl))) (S.2.2.2.2 _ (List.mem_cons_of_mem _ (List.mem_of_getElem? (i := 4) rfl))) (S.2.2.2.2 _ (List.mem_cons_of_mem _ (List.mem_of_getElem? (i := 5) rfl))) (Nat.le_of_ble_eq_true rfl) (Nat.le_of_ble_eq_true rfl) (by show _ ≤ 1; omega) (by show _ ≤ 60; omega) dJ7_copyOf_6403c_32 (v := nI (min n0 m0)) (min_nI (by omega) (by omega)) ?_
    refine g_copy S hE hI (k := (min n0 m0)) (d := 0) (f := f) (g := (fun _ => none)) hl.1 (List.mem_cons_of_mem _ (List.mem_of_getElem? (i := 6) rfl)) (List.mem_cons_of_mem _ (List.mem_of_getElem? (i := 7) rfl)) (List.mem_cons_of_mem _ (List.mem_of_getElem? (i := 8) rfl)) (List.mem_cons_of_mem _ (List.mem_of_getElem? (i := 9) rfl)) s0_G_1 d0_G_1 (Nat.min_le_left _ _) (by omega) (by omega) (by omega) hC (fun i hi y hy => by obtain ⟨u, e9, h1, h2, h3⟩ := hel i hi y hy; exact ⟨u, e9, by rw [hG_1, gset_ne h1]; exact h2, h3⟩) (Nat.le_of_ble_eq_true rfl) (Nat.le_of_ble_eq_true rfl) dJ7_copyOf_6403c_35 (fun H locs hI => ?_)
    have hI : gI K A s (gset G_1 td q_7 (cR (K.2.1 4) m0 (va_cpy f (fun _ => none) 0 0 (min n0 m0)))) H locs := hI
    obtain ⟨G_2, hG_2⟩ : ∃ z, z = gset G_1 td q_7 (cR (K.2.1 4) m0 (va_cpy f (fun _ => none) 0 0 (min n0 m0))) := ⟨_, rfl⟩
    rw [← hG_2] at hI
    have s0_G_2 : G_2 t0 = some (a0, cR (K.2.1 4) n0 f) := by rw [hG_2, gset_ne hne]; exact s0_G_1
    have d0_G_2 : G_2 td = some (q_7, cR (K.2.1 4) m0 (va_cpy f (fun _ => none) 0 0 (min n0 m0))) := by rw [hG_2]; exact gset_eq _ _ _ _
    refine lv_aload_n hx hb dJ7_copyOf_6403c_38 rfl (lv_at hl 0 rfl) ?_
    exact g_aret S hI hr (Or.inr ⟨_, rfl⟩) (Or.inr ⟨_, rfl⟩) hlocks (by omega) (by omega) dJ7_copyOf_6403c_39 ⟨q_7, rfl, by rw [hG_2, hG_1, gset_gset]⟩
set_option maxHeartbeats 4000000 in
set_option maxRecDepth 100000 in
/-- Arrays.copyOf(.., Object[].class) -/
theorem c_copy3T (l : Launch) (K : gK) (G : gW) (td : gTag) (m0 : Nat) (t0 : gTag) (a0 n0 : Nat) (f : Nat → Option Nat) (C : String) (hm : m0 ≤ 10 ∧ n0 ≤ 200) (hg : G t0 = some (a0, cR (K.2.1 4) n0 f)) (hne : t0 ≠ td) (hC : (C, "java/lang/Object") ∈ gCas) (hel : ∀ i, i < min n0 m0 → ∀ y, f i = some y → ∃ u e, u ≠ td ∧ G u = some (y, e) ∧ isC K C e) : gM l yJ7_copyOf_6403c wsJ7_copyOf_6403c 2 40 1 10 K [.ref a0, .int (nI m0), .ref (K.2.2.2 1000)] G (fun r G1 => ∃ q, r = some (.ref q) ∧ G1 = gset G td q (cR (K.2.1 4) m0 (va_cpy f (fun _ => none) 0 0 (min n0 m0)))) (gNo) := by
  refine gM.of (cc := cJ7_copyOf_6403c) (maxL := 4) (ret := (some (.array (.object "java/lang/Object")))) (by decide) rfl (Nat.le_of_ble_eq_true rfl) ?_
  intro p e s m below meth c A S hr hlocks htab hname hE hA hI ls hl
  have hx := S.1
  have hb := S.2.1
  have hml := S.2.2.1
  have hl : lv_has ls 4 [(0, .ref a0), (1, .int (nI m0)), (2, .ref (K.2.2.2 1000))] := hl
  obtain ⟨H, hHe⟩ : ∃ z, z = s.heap := ⟨_, rfl⟩
  obtain ⟨locs, hLe⟩ : ∃ z : List Loc, z = [] := ⟨_, rfl⟩
  rw [← hHe, ← hLe]
  have hI : gI K A s G H locs := by rw [hHe, hLe]; exact hI
  clear hHe hLe
  refine lv_aload_n hx hb dJ7_copyOf_6403c_0 rfl (lv_at hl 2 rfl) ?_
  refine g_ldcM S hE (List.mem_cons_of_mem _ (List.mem_of_getElem? (i := 0) rfl)) dJ7_copyOf_6403c_1 ?_
  refine lv_acmp_ne (rx := some (K.2.2.2 1000)) (ry := some (K.2.2.2 1000)) (tgt := 13) hx hb dJ7_copyOf_6403c_3 (by decide) (fun c_3 => ?_) (fun c_3 => ?_)
  · skip
    exact absurd rfl c_3
  · skip
    refine lv_iload_n hx hb dJ7_copyOf_6403c_6 rfl (lv_at hl 1 rfl) ?_
    refine g_newA S hE hI hA (List.mem_cons_of_mem _ (List.mem_of_getElem? (i := 1) rfl)) hE.2.2.2.2.2.2.2.2.2.2.2.1 4 rfl (N' := m0) rfl (by omega) td (by show _ ≤ 1; omega) (by show _ ≤ 10; omega) dJ7_copyOf_6403c_7 (fun q_7 H hq_7 hI => ?_)
    obtain ⟨G_1, hG_1⟩ : ∃ z, z = gset G td q_7 (cR (K.2.1 4) m0 (fun _ => none)) := ⟨_, rfl⟩
    have hI : gI K A s G_1 H locs := by rw [hG_1]; exact hI
    have s0_G_1 : G_1 t0 = some (a0, cR (K.2.1 4) n0 f) := by rw [hG_1, gset_ne hne]; exact hg
    have d0_G_1 : G_1 td = some (q_7, cR (K.2.1 4) m0 (fun _ => none)) := by rw [hG_1]; exact gset_eq _ _ _ _
    refine lv_goto (tgt := 24) hx hb dJ7_copyOf_6403c_10 (by decide) ?_
    refine lv_astore_n (lv' := [(3, .ref q_7), (0, .ref a0), (1, .int (nI m0)), (2, .ref (K.2.2.2 1000))]) hx hb dJ7_copyOf_6403c_24 rfl hl (by decide) rfl (fun ls hl => ?_)
    refine lv_aload_n hx hb dJ7_copyOf_6403c_25 rfl (lv_at hl 1 rfl) ?_
    refine lv_iconst (v := nI 0) hx hb dJ7_copyOf_6403c_26 (by decide) ?_
    refine lv_aload_n hx hb dJ7_copyOf_6403c_27 rfl (lv_at hl 0 rfl) ?_
    refine lv_iconst (v := nI 0) hx hb dJ7_copyOf_6403c_28 (by decide) ?_
    refine lv_aload_n hx hb dJ7_copyOf_6403c_29 rfl (lv_at hl 1 rfl) ?_
    refine g_alen S hE hI (k := 4) s0_G_1 rfl (v := nI n0) rfl dJ7_copyOf_6403c_30 ?_
    refine lv_iload_n hx hb dJ7_copyOf_6403c_31 rfl (lv_at hl 2 rfl) ?_
    refine g_mmin S hl.1 (S.2.2.2.2 _ (List.mem_cons_of_mem _ (List.mem_of_getElem? (i := 2) rfl))) (S.2.2.2.2 _ (List.mem_cons_of_mem _ (List.mem_of_getElem? (i := 3) rfl))) (S.2.2.2.2 _ (List.mem_cons_of_mem _ (List.mem_of_getElem? (i := 4) rfl))) (S.2.2.2.2 _ (List.mem_cons_of_mem _ (List.mem_of_getElem? (i := 5) rfl))) (Nat.le_of_ble_eq_true rfl) (Nat.le_of_ble_eq_true rfl) (by show _ ≤ 1; omega) (by show _ ≤ 10; omega) dJ7_copyOf_6403c_32 (v := nI (min n0 m0)) (min_nI (by omega) (by omega)) ?_
    refine g_copy S hE hI (k := (min n0 m0)) (d := 0) (f := f) (g := (fun _ => none)) hl.1 (List.mem_cons_of_mem _ (List.mem_of_getElem? (i := 6) rfl)) (List.mem_cons_of_mem _ (List.mem_of_getElem? (i := 7) rfl)) (List.mem_cons_of_mem _ (List.mem_of_getElem? (i := 8) rfl)) (List.mem_cons_of_mem _ (List.mem_of_getElem? (i := 9) rfl)) s0_G_1 d0_G_1 (Nat.min_le_left _ _) (by omega) (by omega) (by omega) hC (fun i hi y hy => by obtain ⟨u, e9, h1, h2, h3⟩ := hel i hi y hy; exact ⟨u, e9, by rw [hG_1, gset_ne h1]; exact h2, h3⟩) (Nat.le_of_ble_eq_true rfl) (Nat.le_of_ble_eq_true rfl) dJ7_copyOf_6403c_35 (fun H locs hI => ?_)
    have hI : gI K A s (gset G_1 td q_7 (cR (K.2.1 4) m0 (va_cpy f (fun _ => none) 0 0 (min n0 m0)))) H locs := hI
    obtain ⟨G_2, hG_2⟩ : ∃ z, z = gset G_1 td q_7 (cR (K.2.1 4) m0 (va_cpy f (fun _ => none) 0 0 (min n0 m0))) := ⟨_, rfl⟩
    rw [← hG_2] at hI
    have s0_G_2 : G_2 t0 = some (a0, cR (K.2.1 4) n0 f) := by rw [hG_2, gset_ne hne]; exact s0_G_1
    have d0_G_2 : G_2 td = some (q_7, cR (K.2.1 4) m0 (va_cpy f (fun _ => none) 0 0 (min n0 m0))) := by rw [hG_2]; exact gset_eq _ _ _ _
    refine lv_aload_n hx hb dJ7_copyOf_6403c_38 rfl (lv_at hl 0 rfl) ?_
    exact g_aret S hI hr (Or.inr ⟨_, rfl⟩) (Or.inr ⟨_, rfl⟩) hlocks (by omega) (by omega) dJ7_copyOf_6403c_39 ⟨q_7, rfl, by rw [hG_2, hG_1, gset_gset]⟩
set_option maxHeartbeats 4000000 in
set_option maxRecDepth 100000 in
/-- Arrays.copyOf(original, newLength) -/
theorem c_copyE (l : Launch) (K : gK) (G : gW) (td : gTag) (m0 : Nat) (hm : m0 ≤ 10) : gM l yJ7_copyOf_1904c wsJ7_copyOf_1904c 3 63 1 10 K [.ref K.2.2.1, .int (nI m0)] G (fun r G1 => ∃ q, r = some (.ref q) ∧ G1 = gset G td q (cR (K.2.1 4) m0 (fun _ => none))) (gNo) := by
  refine gM.of (cc := cJ7_copyOf_1904c) (maxL := 2) (ret := (some (.array (.object "java/lang/Object")))) (by decide) rfl (Nat.le_of_ble_eq_true rfl) ?_
  intro p e s m below meth c A S hr hlocks htab hname hE hA hI ls hl
  have hx := S.1
  have hb := S.2.1
  have hml := S.2.2.1
  have hl : lv_has ls 2 [(0, .ref K.2.2.1), (1, .int (nI m0))] := hl
  obtain ⟨H, hHe⟩ : ∃ z, z = s.heap := ⟨_, rfl⟩
  obtain ⟨locs, hLe⟩ : ∃ z : List Loc, z = [] := ⟨_, rfl⟩
  rw [← hHe, ← hLe]
  have hI : gI K A s G H locs := by rw [hHe, hLe]; exact hI
  clear hHe hLe
  refine lv_aload_n hx hb dJ7_copyOf_1904c_0 rfl (lv_at hl 0 rfl) ?_
  refine lv_iload_n hx hb dJ7_copyOf_1904c_1 rfl (lv_at hl 1 rfl) ?_
  refine lv_aload_n hx hb dJ7_copyOf_1904c_2 rfl (lv_at hl 0 rfl) ?_
  refine g_getC S hE (g_hrO hE hI) hl.1 (List.mem_cons_of_mem _ (List.mem_of_getElem? (i := 0) rfl)) (List.mem_cons_of_mem _ (List.mem_of_getElem? (i := 1) rfl)) (List.mem_cons_of_mem _ (List.mem_of_getElem? (i := 2) rfl)) (List.mem_cons_of_mem _ (List.mem_of_getElem? (i := 3) rfl)) (Nat.le_of_ble_eq_true rfl) (Nat.le_of_ble_eq_true rfl) dJ7_copyOf_1904c_3 ?_
  refine g_callS (As := [.ref K.2.2.1, .int (nI m0), .ref (K.2.2.2 1000)]) (rest := []) (n := 3) S hE hI hA (c_copy3E l K _ td m0 hm) gJ7_copyOf_1904c_J7_copyOf_6403c rfl (by decide +kernel) ⟨Nat.le_of_ble_eq_true rfl, Nat.le_of_ble_eq_true rfl⟩ rfl hl.1 rfl (Nat.le_of_ble_eq_true rfl) dJ7_copyOf_1904c_6 ⟨by show _ ≤ 1; omega, by show _ ≤ 10; omega⟩ (fun E ce q9 Gx H1 locs1 hx9 => hx9.elim) (fun rv Gc_6 H locs hp hI => ?_)
  obtain ⟨q, rfl, hGc⟩ := hp
  refine W.eq (g2 := F0 m 9 ls [.ref q]) rfl ?_
  exact g_aret S hI hr (Or.inr ⟨_, rfl⟩) (Or.inr ⟨_, rfl⟩) hlocks (by omega) (by omega) dJ7_copyOf_1904c_9 ⟨q, rfl, hGc⟩
set_option maxHeartbeats 4000000 in
set_option maxRecDepth 100000 in
/-- Arrays.copyOf(original, newLength) -/
theorem c_copy (l : Launch) (K : gK) (G : gW) (td : gTag) (m0 : Nat) (t0 : gTag) (a0 n0 : Nat) (f : Nat → Option Nat) (C : String) (hm : m0 ≤ 60 ∧ n0 ≤ 200) (hg : G t0 = some (a0, cR (K.2.1 4) n0 f)) (hne : t0 ≠ td) (hC : (C, "java/lang/Object") ∈ gCas) (hel : ∀ i, i < min n0 m0 → ∀ y, f i = some y → ∃ u e, u ≠ td ∧ G u = some (y, e) ∧ isC K C e) : gM l yJ7_copyOf_1904c wsJ7_copyOf_1904c 3 63 1 60 K [.ref a0, .int (nI m0)] G (fun r G1 => ∃ q, r = some (.ref q) ∧ G1 = gset G td q (cR (K.2.1 4) m0 (va_cpy f (fun _ => none) 0 0 (min n0 m0)))) (gNo) := by
  refine gM.of (cc := cJ7_copyOf_1904c) (maxL := 2) (ret := (some (.array (.object "java/lang/Object")))) (by decide) rfl (Nat.le_of_ble_eq_true rfl) ?_
  intro p e s m below meth c A S hr hlocks htab hname hE hA hI ls hl
  have hx := S.1
  have hb := S.2.1
  have hml := S.2.2.1
  have hl : lv_has ls 2 [(0, .ref a0), (1, .int (nI m0))] := hl
  obtain ⟨H, hHe⟩ : ∃ z, z = s.heap := ⟨_, rfl⟩
  obtain ⟨locs, hLe⟩ : ∃ z : List Loc, z = [] := ⟨_, rfl⟩
  rw [← hHe, ← hLe]
  have hI : gI K A s G H locs := by rw [hHe, hLe]; exact hI
  clear hHe hLe
  refine lv_aload_n hx hb dJ7_copyOf_1904c_0 rfl (lv_at hl 0 rfl) ?_
  refine lv_iload_n hx hb dJ7_copyOf_1904c_1 rfl (lv_at hl 1 rfl) ?_
  refine lv_aload_n hx hb dJ7_copyOf_1904c_2 rfl (lv_at hl 0 rfl) ?_
  refine g_getC S hE (g_hra hE hI (k := 4) (ty := .object "java/lang/Object") hg rfl rfl) hl.1 (List.mem_cons_of_mem _ (List.mem_of_getElem? (i := 0) rfl)) (List.mem_cons_of_mem _ (List.mem_of_getElem? (i := 1) rfl)) (List.mem_cons_of_mem _ (List.mem_of_getElem? (i := 2) rfl)) (List.mem_cons_of_mem _ (List.mem_of_getElem? (i := 3) rfl)) (Nat.le_of_ble_eq_true rfl) (Nat.le_of_ble_eq_true rfl) dJ7_copyOf_1904c_3 ?_
  refine g_callS (As := [.ref a0, .int (nI m0), .ref (K.2.2.2 1000)]) (rest := []) (n := 3) S hE hI hA (c_copy3 l K _ td m0 t0 a0 n0 f C hm hg hne hC hel) gJ7_copyOf_1904c_J7_copyOf_6403c rfl (by decide +kernel) ⟨Nat.le_of_ble_eq_true rfl, Nat.le_of_ble_eq_true rfl⟩ rfl hl.1 rfl (Nat.le_of_ble_eq_true rfl) dJ7_copyOf_1904c_6 ⟨by show _ ≤ 1; omega, by show _ ≤ 60; omega⟩ (fun E ce q9 Gx H1 locs1 hx9 => hx9.elim) (fun rv Gc_6 H locs hp hI => ?_)
  obtain ⟨q, rfl, hGc⟩ := hp
  refine W.eq (g2 := F0 m 9 ls [.ref q]) rfl ?_
  exact g_aret S hI hr (Or.inr ⟨_, rfl⟩) (Or.inr ⟨_, rfl⟩) hlocks (by omega) (by omega) dJ7_copyOf_1904c_9 ⟨q, rfl, hGc⟩
set_option maxHeartbeats 4000000 in
set_option maxRecDepth 100000 in
/-- Arrays.copyOf(original, newLength) -/
theorem c_copyT (l : Launch) (K : gK) (G : gW) (td : gTag) (m0 : Nat) (t0 : gTag) (a0 n0 : Nat) (f : Nat → Option Nat) (C : String) (hm : m0 ≤ 10 ∧ n0 ≤ 200) (hg : G t0 = some (a0, cR (K.2.1 4) n0 f)) (hne : t0 ≠ td) (hC : (C, "java/lang/Object") ∈ gCas) (hel : ∀ i, i < min n0 m0 → ∀ y, f i = some y → ∃ u e, u ≠ td ∧ G u = some (y, e) ∧ isC K C e) : gM l yJ7_copyOf_1904c wsJ7_copyOf_1904c 3 63 1 10 K [.ref a0, .int (nI m0)] G (fun r G1 => ∃ q, r = some (.ref q) ∧ G1 = gset G td q (cR (K.2.1 4) m0 (va_cpy f (fun _ => none) 0 0 (min n0 m0)))) (gNo) := by
  refine gM.of (cc := cJ7_copyOf_1904c) (maxL := 2) (ret := (some (.array (.object "java/lang/Object")))) (by decide) rfl (Nat.le_of_ble_eq_true rfl) ?_
  intro p e s m below meth c A S hr hlocks htab hname hE hA hI ls hl
  have hx := S.1
  have hb := S.2.1
  have hml := S.2.2.1
  have hl : lv_has ls 2 [(0, .ref a0), (1, .int (nI m0))] := hl
  obtain ⟨H, hHe⟩ : ∃ z, z = s.heap := ⟨_, rfl⟩
  obtain ⟨locs, hLe⟩ : ∃ z : List Loc, z = [] := ⟨_, rfl⟩
  rw [← hHe, ← hLe]
  have hI : gI K A s G H locs := by rw [hHe, hLe]; exact hI
  clear hHe hLe
  refine lv_aload_n hx hb dJ7_copyOf_1904c_0 rfl (lv_at hl 0 rfl) ?_
  refine lv_iload_n hx hb dJ7_copyOf_1904c_1 rfl (lv_at hl 1 rfl) ?_
  refine lv_aload_n hx hb dJ7_copyOf_1904c_2 rfl (lv_at hl 0 rfl) ?_
  refine g_getC S hE (g_hra hE hI (k := 4) (ty := .object "java/lang/Object") hg rfl rfl) hl.1 (List.mem_cons_of_mem _ (List.mem_of_getElem? (i := 0) rfl)) (List.mem_cons_of_mem _ (List.mem_of_getElem? (i := 1) rfl)) (List.mem_cons_of_mem _ (List.mem_of_getElem? (i := 2) rfl)) (List.mem_cons_of_mem _ (List.mem_of_getElem? (i := 3) rfl)) (Nat.le_of_ble_eq_true rfl) (Nat.le_of_ble_eq_true rfl) dJ7_copyOf_1904c_3 ?_
  refine g_callS (As := [.ref a0, .int (nI m0), .ref (K.2.2.2 1000)]) (rest := []) (n := 3) S hE hI hA (c_copy3T l K _ td m0 t0 a0 n0 f C hm hg hne hC hel) gJ7_copyOf_1904c_J7_copyOf_6403c rfl (by decide +kernel) ⟨Nat.le_of_ble_eq_true rfl, Nat.le_of_ble_eq_true rfl⟩ rfl hl.1 rfl (Nat.le_of_ble_eq_true rfl) dJ7_copyOf_1904c_6 ⟨by show _ ≤ 1; omega, by show _ ≤ 10; omega⟩ (fun E ce q9 Gx H1 locs1 hx9 => hx9.elim) (fun rv Gc_6 H locs hp hI => ?_)
  obtain ⟨q, rfl, hGc⟩ := hp
  refine W.eq (g2 := F0 m 9 ls [.ref q]) rfl ?_
  exact g_aret S hI hr (Or.inr ⟨_, rfl⟩) (Or.inr ⟨_, rfl⟩) hlocks (by omega) (by omega) dJ7_copyOf_1904c_9 ⟨q, rfl, hGc⟩
set_option maxHeartbeats 4000000 in
set_option maxRecDepth 100000 in
/-- ArrayList.grow(minCapacity) of an empty list -/
theorem c_growE (l : Launch) (K : gK) (G : gW) (t td : gTag) (h : Nat) (mod : Int32) (m0 : Nat) (hg : G t = some (h, cL mod K.2.2.1 0)) (hne : t ≠ td) (hm : m0 ≤ 10) : gM l yJx4a65c_grow_92f84 wsJx4a65c_grow_92f84 2 40 1 10 K [.ref h, .int (nI m0)] G (fun r G1 => ∃ q, r = some (.ref q) ∧ G1 = gset (gset G td q (cR (K.2.1 4) (max 10 m0) (fun _ => none))) t h (cL mod q 0)) (gNo) := by
  refine gM.of (cc := cJx4a65c_grow_92f84) (maxL := 4) (ret := (some (.array (.object "java/lang/Object")))) (by decide) rfl (Nat.le_of_ble_eq_true rfl) ?_
  intro p e s m below meth c A S hr hlocks htab hname hE hA hI ls hl
  have hx := S.1
  have hb := S.2.1
  have hml := S.2.2.1
  have hl : lv_has ls 4 [(0, .ref h), (1, .int (nI m0))] := hl
  obtain ⟨H, hHe⟩ : ∃ z, z = s.heap := ⟨_, rfl⟩
  obtain ⟨locs, hLe⟩ : ∃ z : List Loc, z = [] := ⟨_, rfl⟩
  rw [← hHe, ← hLe]
  have hI : gI K A s G H locs := by rw [hHe, hLe]; exact hI
  clear hHe hLe
  refine lv_aload_n hx hb dJx4a65c_grow_92f84_0 rfl (lv_at hl 0 rfl) ?_
  refine g_get S hE hI (C := RJx4a65c) (T := TJx4a65c) (N := 3) (ref := "java/util/ArrayList") (fun w h => (List.mem_cons_of_mem _ (List.mem_append_right _ h))) hg rfl 1 (by decide) (List.mem_cons_of_mem _ (List.mem_append_left _ (List.mem_append_left _ (List.mem_of_getElem? (i := 0) rfl)))) (fun _ h9 => h9) (v := .ref K.2.2.1) rfl dJx4a65c_grow_92f84_1 ?_
  refine g_tlen S hE hI dJx4a65c_grow_92f84_4 ?_
  refine lv_istore_n (lv' := [(2, .int (nI 0)), (0, .ref h), (1, .int (nI m0))]) hx hb dJx4a65c_grow_92f84_5 rfl hl (by decide) rfl (fun ls hl => ?_)
  refine lv_iload_n hx hb dJx4a65c_grow_92f84_6 rfl (lv_at hl 0 rfl) ?_
  refine lv_if_gt (tgt := 20) hx hb dJx4a65c_grow_92f84_7 (by decide) (fun c_7 => ?_) (fun c_7 => ?_)
  · skip
    have c_7 : 0 < 0 := (nI_ltI (a := 0) (b := 0) (by omega) (by omega)).mp c_7
    exact absurd c_7 (by omega)
  · skip
    have c_7 : 0 ≤ 0 := Nat.not_lt.mp (fun z => c_7 ((nI_ltI (a := 0) (b := 0) (by omega) (by omega)).mpr z))
    refine lv_aload_n hx hb dJx4a65c_grow_92f84_10 rfl (lv_at hl 1 rfl) ?_
    refine g_get S hE hI (C := RJx4a65c) (T := TJx4a65c) (N := 3) (ref := "java/util/ArrayList") (fun w h => (List.mem_cons_of_mem _ (List.mem_append_right _ h))) hg rfl 1 (by decide) (List.mem_cons_of_mem _ (List.mem_append_left _ (List.mem_append_left _ (List.mem_of_getElem? (i := 0) rfl)))) (fun _ h9 => h9) (v := .ref K.2.2.1) rfl dJx4a65c_grow_92f84_11 ?_
    refine g_gets S hE hI (List.mem_cons_of_mem _ (List.mem_append_left _ (List.mem_append_left _ (List.mem_of_getElem? (i := 1) rfl)))) dJx4a65c_grow_92f84_14 ?_
    refine lv_acmp_eq (rx := some K.2.2.1) (ry := some K.2.2.1) (tgt := 45) hx hb dJx4a65c_grow_92f84_17 (by decide) (fun c_17 => ?_) (fun c_17 => ?_)
    · skip
      refine lv_aload_n hx hb dJx4a65c_grow_92f84_45 rfl (lv_at hl 1 rfl) ?_
      refine lv_bipush (v := nI 10) hx hb dJx4a65c_grow_92f84_46 (by decide) ?_
      refine lv_iload_n hx hb dJx4a65c_grow_92f84_48 rfl (lv_at hl 2 rfl) ?_
      refine g_mmax S hl.1 (S.2.2.2.2 _ (List.mem_cons_of_mem _ (List.mem_append_left _ (List.mem_append_left _ (List.mem_of_getElem? (i := 2) rfl))))) (S.2.2.2.2 _ (List.mem_cons_of_mem _ (List.mem_append_left _ (List.mem_append_left _ (List.mem_of_getElem? (i := 3) rfl))))) (S.2.2.2.2 _ (List.mem_cons_of_mem _ (List.mem_append_left _ (List.mem_append_left _ (List.mem_of_getElem? (i := 4) rfl))))) (S.2.2.2.2 _ (List.mem_cons_of_mem _ (List.mem_append_left _ (List.mem_append_left _ (List.mem_of_getElem? (i := 5) rfl))))) (Nat.le_of_ble_eq_true rfl) (Nat.le_of_ble_eq_true rfl) (Nat.zero_le _) (Nat.zero_le _) dJx4a65c_grow_92f84_49 (v := nI (max 10 m0)) (max_nI (by omega) (by omega)) ?_
      refine g_newA S hE hI hA (List.mem_cons_of_mem _ (List.mem_append_left _ (List.mem_append_left _ (List.mem_of_getElem? (i := 6) rfl)))) hE.2.2.2.2.2.2.2.2.2.2.2.1 4 rfl (N' := (max 10 m0)) rfl (by omega) td (by show _ ≤ 1; omega) (by show _ ≤ 10; omega) dJx4a65c_grow_92f84_52 (fun q_52 H hq_52 hI => ?_)
      obtain ⟨G_1, hG_1⟩ : ∃ z, z = gset G td q_52 (cR (K.2.1 4) (max 10 m0) (fun _ => none)) := ⟨_, rfl⟩
      have hI : gI K A s G_1 H locs := by rw [hG_1]; exact hI
      have o_G_1 : G_1 t = some (h, .inr (0, [.int mod, .ref K.2.2.1, .int (nI 0)])) := by rw [hG_1, gset_ne hne]; exact hg
      have d0_G_1 : G_1 td = some (q_52, cR (K.2.1 4) (max 10 m0) (fun _ => none)) := by rw [hG_1]; exact gset_eq _ _ _ _
      refine lv_dup_x1 hx hb dJx4a65c_grow_92f84_55 rfl rfl ?_
      refine g_put S hE hI (C := RJx4a65c) (T := TJx4a65c) (N := 3) (ref := "java/util/ArrayList") (fun w h => (List.mem_cons_of_mem _ (List.mem_append_right _ h))) tyJx4a65c tyJx4a65c_ok nmJx4a65c o_G_1 rfl 1 (by decide) (List.mem_cons_of_mem _ (List.mem_append_left _ (List.mem_append_left _ (List.mem_of_getElem? (i := 0) rfl)))) (fun _ h9 => h9) rfl rfl rfl (Nat.le_of_ble_eq_true rfl) dJx4a65c_grow_92f84_56 (fun H locs hI => ?_)
      have hI : gI K A s (gset G_1 t h (.inr (0, [.int mod, .ref q_52, .int (nI 0)]))) H locs := hI
      obtain ⟨G_2, hG_2⟩ : ∃ z, z = gset G_1 t h (.inr (0, [.int mod, .ref q_52, .int (nI 0)])) := ⟨_, rfl⟩
      rw [← hG_2] at hI
      have d0_G_2 : G_2 td = some (q_52, cR (K.2.1 4) (max 10 m0) (fun _ => none)) := by rw [hG_2, gset_ne (Ne.symm hne)]; exact d0_G_1
      have o_G_2 : G_2 t = some (h, .inr (0, [.int mod, .ref q_52, .int (nI 0)])) := by rw [hG_2]; exact gset_eq _ _ _ _
      exact g_aret S hI hr (Or.inr ⟨_, rfl⟩) (Or.inr ⟨_, rfl⟩) hlocks (by omega) (by omega) dJx4a65c_grow_92f84_59 ⟨q_52, rfl, by rw [hG_2, hG_1]⟩
    · skip
      exact absurd rfl c_17
set_option maxHeartbeats 4000000 in
set_option maxRecDepth 100000 in
/-- ArrayList.grow(minCapacity) of a full list -/
theorem c_growO (l : Launch) (K : gK) (G : gW) (t tc td : gTag) (h n : Nat) (mod : Int32) (ar cap : Nat) (g : Nat → Option Nat) (m0 : Nat) (C : String) (hg : G t = some (h, cL mod ar n)) (hg2 : G tc = some (ar, cR (K.2.1 4) cap g)) (hcap : 10 ≤ cap ∧ cap ≤ 40 ∧ cap < m0 ∧ m0 ≤ cap + 1 ∧ n ≤ cap) (hne : t ≠ td ∧ tc ≠ td) (hC : (C, "java/lang/Object") ∈ gCas) (hel : ∀ i, i < cap → ∀ y, g i = some y → ∃ u e, u ≠ td ∧ G u = some (y, e) ∧ isC K C e) : gM l yJx4a65c_grow_92f84 wsJx4a65c_grow_92f84 4 84 1 60 K [.ref h, .int (nI m0)] G (fun r G1 => ∃ q, r = some (.ref q) ∧ G1 = gset (gset G td q (cR (K.2.1 4) (cap + max (m0 - cap) (cap / 2)) (va_cpy g (fun _ => none) 0 0 cap))) t h (cL mod q n)) (gNo) := by
  refine gM.of (cc := cJx4a65c_grow_92f84) (maxL := 4) (ret := (some (.array (.object "java/lang/Object")))) (by decide) rfl (Nat.le_of_ble_eq_true rfl) ?_
  intro p e s m below meth c A S hr hlocks htab hname hE hA hI ls hl
  have hx := S.1
  have hb := S.2.1
  have hml := S.2.2.1
  have hl : lv_has ls 4 [(0, .ref h), (1, .int (nI m0))] := hl
  obtain ⟨H, hHe⟩ : ∃ z, z = s.heap := ⟨_, rfl⟩
  obtain ⟨locs, hLe⟩ : ∃ z : List Loc, z = [] := ⟨_, rfl⟩
  rw [← hHe, ← hLe]
  have hI : gI K A s G H locs := by rw [hHe, hLe]; exact hI
  clear hHe hLe
  refine lv_aload_n hx hb dJx4a65c_grow_92f84_0 rfl (lv_at hl 0 rfl) ?_
  refine g_get S hE hI (C := RJx4a65c) (T := TJx4a65c) (N := 3) (ref := "java/util/ArrayList") (fun w h => (List.mem_cons_of_mem _ (List.mem_append_right _ h))) hg rfl 1 (by decide) (List.mem_cons_of_mem _ (List.mem_append_left _ (List.mem_append_left _ (List.mem_of_getElem? (i := 0) rfl)))) (fun _ h9 => h9) (v := .ref ar) rfl dJx4a65c_grow_92f84_1 ?_
  refine g_alen S hE hI (k := 4) hg2 rfl (v := nI cap) rfl dJx4a65c_grow_92f84_4 ?_
  refine lv_istore_n (lv' := [(2, .int (nI cap)), (0, .ref h), (1, .int (nI m0))]) hx hb dJx4a65c_grow_92f84_5 rfl hl (by decide) rfl (fun ls hl => ?_)
  refine lv_iload_n hx hb dJx4a65c_grow_92f84_6 rfl (lv_at hl 0 rfl) ?_
  refine lv_if_gt (tgt := 20) hx hb dJx4a65c_grow_92f84_7 (by decide) (fun c_7 => ?_) (fun c_7 => ?_)
  · skip
    have c_7 : 0 < cap := (nI_ltI (a := 0) (b := cap) (by omega) (by omega)).mp c_7
    refine lv_iload_n hx hb dJx4a65c_grow_92f84_20 rfl (lv_at hl 0 rfl) ?_
    refine lv_iload_n hx hb dJx4a65c_grow_92f84_21 rfl (lv_at hl 2 rfl) ?_
    refine lv_iload_n hx hb dJx4a65c_grow_92f84_22 rfl (lv_at hl 0 rfl) ?_
    refine t_isub hx hb dJx4a65c_grow_92f84_23 (v := nI (m0 - cap)) (pk_sub (by omega)) ?_
    refine lv_iload_n hx hb dJx4a65c_grow_92f84_24 rfl (lv_at hl 0 rfl) ?_
    refine lv_iconst (v := nI 1) hx hb dJx4a65c_grow_92f84_25 (by decide) ?_
    refine g_ishr hx hb dJx4a65c_grow_92f84_26 (v := nI (cap / 2)) (ishr1 (by omega)) ?_
    refine g_callS (As := [.int (nI cap), .int (nI (m0 - cap)), .int (nI (cap / 2))]) (rest := []) (n := 3) S hE hI hA (c_newLen l K _ cap (m0 - cap) (cap / 2) ⟨by omega, by omega, by omega, by omega⟩) gJx4a65c_grow_92f84_J8_newLength_cabcc rfl (by decide +kernel) ⟨Nat.le_of_ble_eq_true rfl, Nat.le_of_ble_eq_true rfl⟩ rfl hl.1 rfl (Nat.le_of_ble_eq_true rfl) dJx4a65c_grow_92f84_27 ⟨Nat.le_of_ble_eq_true rfl, Nat.le_of_ble_eq_true rfl⟩ (fun E ce q9 Gx H1 locs1 hx9 => hx9.elim) (fun rv Gc_27 H locs hp hI => ?_)
    obtain ⟨rfl, hq9⟩ := hp
    rw [hq9] at hI
    refine W.eq (g2 := F0 m 30 ls [.int (nI (cap + max (m0 - cap) (cap / 2)))]) rfl ?_
    refine lv_istore_n (lv' := [(3, .int (nI (cap + max (m0 - cap) (cap / 2)))), (2, .int (nI cap)), (0, .ref h), (1, .int (nI m0))]) hx hb dJx4a65c_grow_92f84_30 rfl hl (by decide) rfl (fun ls hl => ?_)
    refine lv_aload_n hx hb dJx4a65c_grow_92f84_31 rfl (lv_at hl 2 rfl) ?_
    refine lv_aload_n hx hb dJx4a65c_grow_92f84_32 rfl (lv_at hl 2 rfl) ?_
    refine g_get S hE hI (C := RJx4a65c) (T := TJx4a65c) (N := 3) (ref := "java/util/ArrayList") (fun w h => (List.mem_cons_of_mem _ (List.mem_append_right _ h))) hg rfl 1 (by decide) (List.mem_cons_of_mem _ (List.mem_append_left _ (List.mem_append_left _ (List.mem_of_getElem? (i := 0) rfl)))) (fun _ h9 => h9) (v := .ref ar) rfl dJx4a65c_grow_92f84_33 ?_
    refine lv_iload_n hx hb dJx4a65c_grow_92f84_36 rfl (lv_at hl 0 rfl) ?_
    refine g_callS (As := [.ref ar, .int (nI (cap + max (m0 - cap) (cap / 2)))]) (rest := [.ref h]) (n := 2) S hE hI hA (c_copy l K _ td (cap + max (m0 - cap) (cap / 2)) tc ar cap g C ⟨by omega, by omega⟩ hg2 hne.2 hC (fun i hi y hy => hel i (by omega) y hy)) gJx4a65c_grow_92f84_J7_copyOf_1904c rfl (by decide +kernel) ⟨Nat.le_of_ble_eq_true rfl, Nat.le_of_ble_eq_true rfl⟩ rfl hl.1 rfl (Nat.le_of_ble_eq_true rfl) dJx4a65c_grow_92f84_37 ⟨by show _ ≤ 1; omega, by show _ ≤ 60; omega⟩ (fun E ce q9 Gx H1 locs1 hx9 => hx9.elim) (fun rv Gc_37 H locs hp hI => ?_)
    obtain ⟨q, rfl, hGc⟩ := hp
    have ho1 : Gc_37 t = some (h, cL mod ar n) := by rw [hGc, gset_ne hne.1]; exact hg
    rw [show min cap (cap + max (m0 - cap) (cap / 2)) = cap from Nat.min_eq_left (by omega)] at hGc
    refine W.eq (g2 := F0 m 40 ls [.ref q, .ref h]) rfl ?_
    refine lv_dup_x1 hx hb dJx4a65c_grow_92f84_40 rfl rfl ?_
    refine g_put S hE hI (C := RJx4a65c) (T := TJx4a65c) (N := 3) (ref := "java/util/ArrayList") (fun w h => (List.mem_cons_of_mem _ (List.mem_append_right _ h))) tyJx4a65c tyJx4a65c_ok nmJx4a65c ho1 rfl 1 (by decide) (List.mem_cons_of_mem _ (List.mem_append_left _ (List.mem_append_left _ (List.mem_of_getElem? (i := 0) rfl)))) (fun _ h9 => h9) rfl rfl rfl (Nat.le_of_ble_eq_true rfl) dJx4a65c_grow_92f84_41 (fun H locs hI => ?_)
    have hI : gI K A s (gset Gc_37 t h (.inr (0, [.int mod, .ref q, .int (nI n)]))) H locs := hI
    obtain ⟨G_1, hG_1⟩ : ∃ z, z = gset Gc_37 t h (.inr (0, [.int mod, .ref q, .int (nI n)])) := ⟨_, rfl⟩
    rw [← hG_1] at hI
    have o_G_1 : G_1 t = some (h, .inr (0, [.int mod, .ref q, .int (nI n)])) := by rw [hG_1]; exact gset_eq _ _ _ _
    exact g_aret S hI hr (Or.inr ⟨_, rfl⟩) (Or.inr ⟨_, rfl⟩) hlocks (by omega) (by omega) dJx4a65c_grow_92f84_44 ⟨q, rfl, by rw [hG_1, hGc]⟩
  · skip
    have c_7 : cap ≤ 0 := Nat.not_lt.mp (fun z => c_7 ((nI_ltI (a := 0) (b := cap) (by omega) (by omega)).mpr z))
    exact absurd c_7 (by omega)
