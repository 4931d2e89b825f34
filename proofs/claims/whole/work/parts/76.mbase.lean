/-! the model's face: its state, what a call leaves alone -/
def AgM (G G1 : gW) : Prop := ∀ t : gTag, (t.1 < 5 ∨ (20 ≤ t.1 ∧ t.1 < 50)) → G1 t = G t
theorem AgM.rf {G : gW} : AgM G G := fun _ _ => rfl
theorem AgM.tr {G G1 G2 : gW} (h : AgM G G1) (h2 : AgM G1 G2) : AgM G G2 := fun t ht => (h2 t ht).trans (h t ht)
theorem agOff {t : gTag} (ht : t.1 < 5 ∨ (20 ≤ t.1 ∧ t.1 < 50)) : t.1 ≠ 5 ∧ t.1 ≠ 7 ∧ t.1 ≠ 8 ∧ t.1 ≠ 9 ∧ t.1 ≠ 10 ∧ t.1 ≠ 11 ∧ t.1 ≠ 12 ∧ t.1 ≠ 13 ∧ t.1 ≠ 50 := by omega
theorem AgM.st {G G1 : gW} (h : AgM G G1) {r i j a : Nat} {e : va_E} (hr : ¬ (r < 5 ∨ (20 ≤ r ∧ r < 50))) : AgM G (gset G1 (r, i, j) a e) := fun t ht => (gset_ne (fun z => hr (by rw [z] at ht; exact ht))).trans (h t ht)
def MdC (K : gK) (L : Nat → Nat → Nat) (h0 th : Nat) (G : gW) (y : YV) (N : Nat) : Prop := G (9, 0, 0) = some (h0, cM th (L 30 0)) ∧ MY K 5 L G y N ∧ th ≤ 3 ∧ ySc y ≤ 40
theorem MdC.moved {K : gK} {L : Nat → Nat → Nat} {h0 th : Nat} {G G1 : gW} {y : YV} {N : Nat} (h : MdC K L h0 th G y N) (ho : ∀ t : gTag, (t.1 = 5 ∨ t.1 = 9 ∨ t.1 = 50) → G1 t = G t) : MdC K L h0 th G1 y N :=
  ⟨(ho _ (Or.inr (Or.inl rfl))).trans h.1, h.2.1.moved (fun t ht => ho t (Or.inl ht)) (fun m _ => ho _ (Or.inr (Or.inr rfl))), h.2.2⟩
theorem MdC.th {K : gK} {L : Nat → Nat → Nat} {h0 th t2 : Nat} {G : gW} {y : YV} {N : Nat} (h : MdC K L h0 th G y N) (ht : t2 ≤ 3) : MdC K L h0 t2 (gset G (9, 0, 0) h0 (cM t2 (L 30 0))) y N :=
  ⟨gset_eq _ _ _ _, h.2.1.moved (fun t h9 => gset_ne (fun z => by rw [z] at h9; exact absurd h9 (by decide))) (fun m _ => gset_ne (by simp)), ht, h.2.2.2⟩
/-- what a call of the model comes to -/
abbrev mPost (K : gK) (h0 : Nat) (G : gW) (o : oT) : Option Value → gW → Prop := fun v G1 => ∃ (L2 : Nat → Nat → Nat) (N2 : Nat) (x : Int32), v = some (.int x) ∧ (o.1 = 0 → x = o.2.1) ∧ MdC K L2 h0 o.1 G1 o.2.2 N2 ∧ AgM G G1
theorem mThrow {K : gK} {L : Nat → Nat → Nat} {h0 w : Nat} {G G1 : gW} {y : YV} {N : Nat} {o : oT} {x : Int32} (ho : o = (w, 0, y)) (hw : w ≠ 0) (hM : MdC K L h0 w G1 y N) (ha : AgM G G1) : mPost K h0 G o (some (.int x)) G1 := by
  subst ho
  exact ⟨L, N, x, rfl, fun z => absurd z hw, hM, ha⟩
theorem mOk {K : gK} {L : Nat → Nat → Nat} {h0 : Nat} {G G1 : gW} {y : YV} {N : Nat} {o : oT} {x : Int32} (ho : o = (0, x, y)) (hM : MdC K L h0 0 G1 y N) (ha : AgM G G1) : mPost K h0 G o (some (.int x)) G1 := by
  subst ho
  exact ⟨L, N, x, rfl, fun _ => rfl, hM, ha⟩
theorem c_start (l : Launch) (K : gK) (G : gW) (L : Nat → Nat → Nat) (h0 th : Nat) (y : YV) (N : Nat) (b : Bool) (w : Nat) (hM : MdC K L h0 th G y N) (hw : 1 ≤ w ∧ w ≤ 3) : gM l yX8_start wsX8_start 3 62 0 0 K [.ref h0, .int (bI b), .int (nI w)] G (fun v G1 => v = some (.int (bI b)) ∧ MdC K L h0 (if b then w else 0) G1 y N ∧ AgM G G1) gNo :=
  (c_X8_start l K G h0 th (L 30 0) b w hM.1 hM.2.2.1 hw).mono (fun v G1 hp => ⟨hp.1, by rw [hp.2]; exact hM.th (by cases b; exact Nat.zero_le _; exact hw.2), by rw [hp.2]; exact AgM.rf.st (by decide)⟩) (fun _ _ hx => hx)
theorem c_ref (l : Launch) (K : gK) (G : gW) (L : Nat → Nat → Nat) (h0 : Nat) (y : YV) (N : Nat) (b : Bool) (w : Nat) (hM : MdC K L h0 0 G y N) (hw : 1 ≤ w ∧ w ≤ 3) : gM l yX8_refuse wsX8_refuse 2 40 0 0 K [.ref h0, .int (bI b), .int (nI w)] G (fun v G1 => v = some (.int (bI b)) ∧ MdC K L h0 (if b then w else 0) G1 y N ∧ AgM G G1) gNo :=
  (c_X8_refuse l K G h0 0 (L 30 0) b w hM.1 hM.2.2.1 hw).mono (fun v G1 hp => by
    have he : thN b 0 w = if b then w else 0 := by unfold thN; cases b <;> rfl
    have hb : decide (0 < thN b 0 w) = b := by rw [he]; cases b with | false => rfl | true => exact decide_eq_true (by show 0 < w; omega)
    rw [hb, he] at hp
    exact ⟨hp.1, by rw [hp.2]; exact hM.th (by cases b; exact Nat.zero_le _; exact hw.2), by rw [hp.2]; exact AgM.rf.st (by decide)⟩) (fun _ _ hx => hx)
set_option maxHeartbeats 4000000 in
set_option maxRecDepth 100000 in
/-- isNoSlab(slab) -/
theorem c_X8_isNoSlab (l : Launch) (K : gK) (G : gW) (L : Nat → Nat → Nat) (h0 th : Nat) (y : YV) (N : Nat) (x : Int32) (hM : MdC K L h0 th G y N) : gM l yX8_isNoSlab wsX8_isNoSlab 4 84 0 0 K [.ref h0, .int x] G (fun v G1 => v = some (.int (bI (!inR x (ySc y)))) ∧ MdC K L h0 (if (!inR x (ySc y)) then 1 else 0) G1 y N ∧ AgM G G1) (gNo) := by
  refine gM.of (cc := cX8_isNoSlab) (maxL := 2) (ret := (some .boolean)) (by decide) rfl (Nat.le_of_ble_eq_true rfl) ?_
  intro p e s m below meth c A S hr hlocks htab hname hE hA hI ls hl
  have hx := S.1
  have hb := S.2.1
  have hml := S.2.2.1
  have hl : lv_has ls 2 [(0, .ref h0), (1, .int x)] := hl
  have h44 := hM.2.1.1.2.2.1
  have h6 := hM.2.1.1.2.2.2
  have hf2 := hM.2.1.1.2.1
  have h40 := hM.2.2.2
  have hth := hM.2.2.1
  have hag : AgM G G := AgM.rf
  obtain ⟨m1, ar1, hl1⟩ := hM.2.1.2.1.obj
  obtain ⟨m2, ar2, hl2⟩ := hM.2.1.2.2.1.obj
  obtain ⟨H, hHe⟩ : ∃ z, z = s.heap := ⟨_, rfl⟩
  obtain ⟨locs, hLe⟩ : ∃ z : List Loc, z = [] := ⟨_, rfl⟩
  rw [← hHe, ← hLe]
  have hI : gI K A s G H locs := by rw [hHe, hLe]; exact hI
  clear hHe hLe
  refine lv_aload_n hx hb dX8_isNoSlab_0 rfl (lv_at hl 0 rfl) ?_
  refine lv_aload_n hx hb dX8_isNoSlab_1 rfl (lv_at hl 0 rfl) ?_
  refine lv_iload_n hx hb dX8_isNoSlab_2 rfl (lv_at hl 1 rfl) ?_
  refine g_callV (As := [.int x]) (rest := [.ref h0]) (b := h0) (n := 1) S hE hI hA (c_X8_isNo l K _ h0 th L y N x hM.1 hM.2.1) gX8_isNoSlab_X8_isNo rfl (by decide +kernel) ⟨Nat.le_of_ble_eq_true rfl, Nat.le_of_ble_eq_true rfl⟩ (g_hro hE hI hM.1 rfl) rfl hl.1 rfl (Nat.le_of_ble_eq_true rfl) dX8_isNoSlab_3 ⟨Nat.le_of_ble_eq_true rfl, Nat.le_of_ble_eq_true rfl⟩ (fun E ce q9 Gx H1 locs1 hx9 => hx9.elim) (fun rv Gc_3 H locs hp hI => ?_)
  obtain ⟨rfl, hq9⟩ := hp
  rw [hq9] at hI
  refine W.eq (g2 := F0 m 6 ls [.int (bI (!inR x (ySc y))), .ref h0]) rfl ?_
  refine lv_iconst (v := nI 1) hx hb dX8_isNoSlab_6 (by decide) ?_
  refine g_callV (As := [.int (bI (!inR x (ySc y))), .int (nI 1)]) (rest := []) (b := h0) (n := 2) S hE hI hA (c_start l K _ L h0 th y N (!inR x (ySc y)) 1 hM (by decide)) gX8_isNoSlab_X8_start rfl (by decide +kernel) ⟨Nat.le_of_ble_eq_true rfl, Nat.le_of_ble_eq_true rfl⟩ (g_hro hE hI hM.1 rfl) rfl hl.1 rfl (Nat.le_of_ble_eq_true rfl) dX8_isNoSlab_7 ⟨Nat.le_of_ble_eq_true rfl, Nat.le_of_ble_eq_true rfl⟩ (fun E ce q9 Gx H1 locs1 hx9 => hx9.elim) (fun rv Gc_7 H locs hp hI => ?_)
  obtain ⟨rfl, hM, hg9⟩ := hp
  have hag := hag.tr hg9
  obtain ⟨m1, ar1, hl1⟩ := hM.2.1.2.1.obj
  obtain ⟨m2, ar2, hl2⟩ := hM.2.1.2.2.1.obj
  refine W.eq (g2 := F0 m 10 ls [.int (bI (!inR x (ySc y)))]) rfl ?_
  exact g_zret S hI hr hlocks (Nat.zero_le _) (Nat.zero_le _) (bI_01 _) dX8_isNoSlab_10 ⟨rfl, hM, hag⟩
set_option maxHeartbeats 4000000 in
set_option maxRecDepth 100000 in
/-- isNoKind(kind) -/
theorem c_X8_isNoKind (l : Launch) (K : gK) (G : gW) (L : Nat → Nat → Nat) (h0 th : Nat) (y : YV) (N : Nat) (x : Int32) (hM : MdC K L h0 th G y N) : gM l yX8_isNoKind wsX8_isNoKind 4 84 0 0 K [.ref h0, .int x] G (fun v G1 => v = some (.int (bI (!inR x (yKc y)))) ∧ MdC K L h0 (if (!inR x (yKc y)) then 1 else 0) G1 y N ∧ AgM G G1) (gNo) := by
  refine gM.of (cc := cX8_isNoKind) (maxL := 2) (ret := (some .boolean)) (by decide) rfl (Nat.le_of_ble_eq_true rfl) ?_
  intro p e s m below meth c A S hr hlocks htab hname hE hA hI ls hl
  have hx := S.1
  have hb := S.2.1
  have hml := S.2.2.1
  have hl : lv_has ls 2 [(0, .ref h0), (1, .int x)] := hl
  have h44 := hM.2.1.1.2.2.1
  have h6 := hM.2.1.1.2.2.2
  have hf2 := hM.2.1.1.2.1
  have h40 := hM.2.2.2
  have hth := hM.2.2.1
  have hag : AgM G G := AgM.rf
  obtain ⟨m1, ar1, hl1⟩ := hM.2.1.2.1.obj
  obtain ⟨m2, ar2, hl2⟩ := hM.2.1.2.2.1.obj
  obtain ⟨H, hHe⟩ : ∃ z, z = s.heap := ⟨_, rfl⟩
  obtain ⟨locs, hLe⟩ : ∃ z : List Loc, z = [] := ⟨_, rfl⟩
  rw [← hHe, ← hLe]
  have hI : gI K A s G H locs := by rw [hHe, hLe]; exact hI
  clear hHe hLe
  refine lv_aload_n hx hb dX8_isNoKind_0 rfl (lv_at hl 0 rfl) ?_
  refine lv_aload_n hx hb dX8_isNoKind_1 rfl (lv_at hl 0 rfl) ?_
  refine lv_iload_n hx hb dX8_isNoKind_2 rfl (lv_at hl 1 rfl) ?_
  refine g_callV (As := [.int x]) (rest := [.ref h0]) (b := h0) (n := 1) S hE hI hA (c_X8_isNoOne l K _ h0 th L y N x hM.1 hM.2.1) gX8_isNoKind_X8_isNoOne rfl (by decide +kernel) ⟨Nat.le_of_ble_eq_true rfl, Nat.le_of_ble_eq_true rfl⟩ (g_hro hE hI hM.1 rfl) rfl hl.1 rfl (Nat.le_of_ble_eq_true rfl) dX8_isNoKind_3 ⟨Nat.le_of_ble_eq_true rfl, Nat.le_of_ble_eq_true rfl⟩ (fun E ce q9 Gx H1 locs1 hx9 => hx9.elim) (fun rv Gc_3 H locs hp hI => ?_)
  obtain ⟨rfl, hq9⟩ := hp
  rw [hq9] at hI
  refine W.eq (g2 := F0 m 6 ls [.int (bI (!inR x (yKc y))), .ref h0]) rfl ?_
  refine lv_iconst (v := nI 1) hx hb dX8_isNoKind_6 (by decide) ?_
  refine g_callV (As := [.int (bI (!inR x (yKc y))), .int (nI 1)]) (rest := []) (b := h0) (n := 2) S hE hI hA (c_start l K _ L h0 th y N (!inR x (yKc y)) 1 hM (by decide)) gX8_isNoKind_X8_start rfl (by decide +kernel) ⟨Nat.le_of_ble_eq_true rfl, Nat.le_of_ble_eq_true rfl⟩ (g_hro hE hI hM.1 rfl) rfl hl.1 rfl (Nat.le_of_ble_eq_true rfl) dX8_isNoKind_7 ⟨Nat.le_of_ble_eq_true rfl, Nat.le_of_ble_eq_true rfl⟩ (fun E ce q9 Gx H1 locs1 hx9 => hx9.elim) (fun rv Gc_7 H locs hp hI => ?_)
  obtain ⟨rfl, hM, hg9⟩ := hp
  have hag := hag.tr hg9
  obtain ⟨m1, ar1, hl1⟩ := hM.2.1.2.1.obj
  obtain ⟨m2, ar2, hl2⟩ := hM.2.1.2.2.1.obj
  refine W.eq (g2 := F0 m 10 ls [.int (bI (!inR x (yKc y)))]) rfl ?_
  exact g_zret S hI hr hlocks (Nat.zero_le _) (Nat.zero_le _) (bI_01 _) dX8_isNoKind_10 ⟨rfl, hM, hag⟩
set_option maxHeartbeats 4000000 in
set_option maxRecDepth 100000 in
/-- isNoPair: no slab -/
theorem c_pairA (l : Launch) (K : gK) (G : gW) (L : Nat → Nat → Nat) (h0 th : Nat) (y : YV) (N : Nat) (x k : Int32) (hM : MdC K L h0 th G y N) (hr8 : inR x (ySc y) = false) : gM l yX8_isNoPair wsX8_isNoPair 4 84 0 0 K [.ref h0, .int x, .int k] G (fun v G1 => v = some (.int (bI true)) ∧ MdC K L h0 1 G1 y N ∧ AgM G G1) (gNo) := by
  refine gM.of (cc := cX8_isNoPair) (maxL := 3) (ret := (some .boolean)) (by decide) rfl (Nat.le_of_ble_eq_true rfl) ?_
  intro p e s m below meth c A S hr hlocks htab hname hE hA hI ls hl
  have hx := S.1
  have hb := S.2.1
  have hml := S.2.2.1
  have hl : lv_has ls 3 [(0, .ref h0), (1, .int x), (2, .int k)] := hl
  have h44 := hM.2.1.1.2.2.1
  have h6 := hM.2.1.1.2.2.2
  have hf2 := hM.2.1.1.2.1
  have h40 := hM.2.2.2
  have hth := hM.2.2.1
  have hag : AgM G G := AgM.rf
  obtain ⟨m1, ar1, hl1⟩ := hM.2.1.2.1.obj
  obtain ⟨m2, ar2, hl2⟩ := hM.2.1.2.2.1.obj
  obtain ⟨H, hHe⟩ : ∃ z, z = s.heap := ⟨_, rfl⟩
  obtain ⟨locs, hLe⟩ : ∃ z : List Loc, z = [] := ⟨_, rfl⟩
  rw [← hHe, ← hLe]
  have hI : gI K A s G H locs := by rw [hHe, hLe]; exact hI
  clear hHe hLe
  refine lv_aload_n hx hb dX8_isNoPair_0 rfl (lv_at hl 0 rfl) ?_
  refine lv_aload_n hx hb dX8_isNoPair_1 rfl (lv_at hl 0 rfl) ?_
  refine lv_iload_n hx hb dX8_isNoPair_2 rfl (lv_at hl 1 rfl) ?_
  refine g_callV (As := [.int x]) (rest := [.ref h0]) (b := h0) (n := 1) S hE hI hA (c_X8_isNo l K _ h0 th L y N x hM.1 hM.2.1) gX8_isNoPair_X8_isNo rfl (by decide +kernel) ⟨Nat.le_of_ble_eq_true rfl, Nat.le_of_ble_eq_true rfl⟩ (g_hro hE hI hM.1 rfl) rfl hl.1 rfl (Nat.le_of_ble_eq_true rfl) dX8_isNoPair_3 ⟨Nat.le_of_ble_eq_true rfl, Nat.le_of_ble_eq_true rfl⟩ (fun E ce q9 Gx H1 locs1 hx9 => hx9.elim) (fun rv Gc_3 H locs hp hI => ?_)
  obtain ⟨rfl, hq9⟩ := hp
  rw [hq9] at hI
  rw [hr8]
  refine W.eq (g2 := F0 m 6 ls [.int (bI true), .ref h0]) rfl ?_
  refine lv_if_ne (tgt := 17) hx hb dX8_isNoPair_6 (by decide) (fun c_6 => ?_) (fun c_6 => ?_)
  · skip
    have c_6 : true = true := bI_1.mp c_6
    refine lv_iconst (v := nI 1) hx hb dX8_isNoPair_17 (by decide) ?_
    refine lv_goto (tgt := 22) hx hb dX8_isNoPair_18 (by decide) ?_
    refine lv_iconst (v := nI 1) hx hb dX8_isNoPair_22 (by decide) ?_
    refine g_callV (As := [.int (nI 1), .int (nI 1)]) (rest := []) (b := h0) (n := 2) S hE hI hA (c_start l K _ L h0 th y N true 1 hM (by decide)) gX8_isNoPair_X8_start rfl (by decide +kernel) ⟨Nat.le_of_ble_eq_true rfl, Nat.le_of_ble_eq_true rfl⟩ (g_hro hE hI hM.1 rfl) rfl hl.1 rfl (Nat.le_of_ble_eq_true rfl) dX8_isNoPair_23 ⟨Nat.le_of_ble_eq_true rfl, Nat.le_of_ble_eq_true rfl⟩ (fun E ce q9 Gx H1 locs1 hx9 => hx9.elim) (fun rv Gc_23 H locs hp hI => ?_)
    obtain ⟨rfl, hM, hg9⟩ := hp
    have hag := hag.tr hg9
    have hM : MdC K L h0 1 Gc_23 y N := hM
    obtain ⟨m1, ar1, hl1⟩ := hM.2.1.2.1.obj
    obtain ⟨m2, ar2, hl2⟩ := hM.2.1.2.2.1.obj
    refine W.eq (g2 := F0 m 26 ls [.int (bI true)]) rfl ?_
    exact g_zret S hI hr hlocks (Nat.zero_le _) (Nat.zero_le _) (bI_01 _) dX8_isNoPair_26 ⟨rfl, hM, hag⟩
  · skip
    have c_6 : true = false := bI_0.mp c_6
    cases c_6
set_option maxHeartbeats 4000000 in
set_option maxRecDepth 100000 in
/-- isNoPair: no kind -/
theorem c_pairB (l : Launch) (K : gK) (G : gW) (L : Nat → Nat → Nat) (h0 th : Nat) (y : YV) (N : Nat) (x k : Int32) (hM : MdC K L h0 th G y N) (hr8 : inR x (ySc y) = true) (hr9 : inR k (yKc y) = false) : gM l yX8_isNoPair wsX8_isNoPair 4 84 0 0 K [.ref h0, .int x, .int k] G (fun v G1 => v = some (.int (bI true)) ∧ MdC K L h0 1 G1 y N ∧ AgM G G1) (gNo) := by
  refine gM.of (cc := cX8_isNoPair) (maxL := 3) (ret := (some .boolean)) (by decide) rfl (Nat.le_of_ble_eq_true rfl) ?_
  intro p e s m below meth c A S hr hlocks htab hname hE hA hI ls hl
  have hx := S.1
  have hb := S.2.1
  have hml := S.2.2.1
  have hl : lv_has ls 3 [(0, .ref h0), (1, .int x), (2, .int k)] := hl
  have h44 := hM.2.1.1.2.2.1
  have h6 := hM.2.1.1.2.2.2
  have hf2 := hM.2.1.1.2.1
  have h40 := hM.2.2.2
  have hth := hM.2.2.1
  have hag : AgM G G := AgM.rf
  obtain ⟨m1, ar1, hl1⟩ := hM.2.1.2.1.obj
  obtain ⟨m2, ar2, hl2⟩ := hM.2.1.2.2.1.obj
  obtain ⟨H, hHe⟩ : ∃ z, z = s.heap := ⟨_, rfl⟩
  obtain ⟨locs, hLe⟩ : ∃ z : List Loc, z = [] := ⟨_, rfl⟩
  rw [← hHe, ← hLe]
  have hI : gI K A s G H locs := by rw [hHe, hLe]; exact hI
  clear hHe hLe
  refine lv_aload_n hx hb dX8_isNoPair_0 rfl (lv_at hl 0 rfl) ?_
  refine lv_aload_n hx hb dX8_isNoPair_1 rfl (lv_at hl 0 rfl) ?_
  refine lv_iload_n hx hb dX8_isNoPair_2 rfl (lv_at hl 1 rfl) ?_
  refine g_callV (As := [.int x]) (rest := [.ref h0]) (b := h0) (n := 1) S hE hI hA (c_X8_isNo l K _ h0 th L y N x hM.1 hM.2.1) gX8_isNoPair_X8_isNo rfl (by decide +kernel) ⟨Nat.le_of_ble_eq_true rfl, Nat.le_of_ble_eq_true rfl⟩ (g_hro hE hI hM.1 rfl) rfl hl.1 rfl (Nat.le_of_ble_eq_true rfl) dX8_isNoPair_3 ⟨Nat.le_of_ble_eq_true rfl, Nat.le_of_ble_eq_true rfl⟩ (fun E ce q9 Gx H1 locs1 hx9 => hx9.elim) (fun rv Gc_3 H locs hp hI => ?_)
  obtain ⟨rfl, hq9⟩ := hp
  rw [hq9] at hI
  rw [hr8]
  refine W.eq (g2 := F0 m 6 ls [.int (bI false), .ref h0]) rfl ?_
  refine lv_if_ne (tgt := 17) hx hb dX8_isNoPair_6 (by decide) (fun c_6 => ?_) (fun c_6 => ?_)
  · skip
    have c_6 : false = true := bI_1.mp c_6
    cases c_6
  · skip
    have c_6 : false = false := bI_0.mp c_6
    refine lv_aload_n hx hb dX8_isNoPair_9 rfl (lv_at hl 0 rfl) ?_
    refine lv_iload_n hx hb dX8_isNoPair_10 rfl (lv_at hl 2 rfl) ?_
    refine g_callV (As := [.int k]) (rest := [.ref h0]) (b := h0) (n := 1) S hE hI hA (c_X8_isNoOne l K _ h0 th L y N k hM.1 hM.2.1) gX8_isNoPair_X8_isNoOne rfl (by decide +kernel) ⟨Nat.le_of_ble_eq_true rfl, Nat.le_of_ble_eq_true rfl⟩ (g_hro hE hI hM.1 rfl) rfl hl.1 rfl (Nat.le_of_ble_eq_true rfl) dX8_isNoPair_11 ⟨Nat.le_of_ble_eq_true rfl, Nat.le_of_ble_eq_true rfl⟩ (fun E ce q9 Gx H1 locs1 hx9 => hx9.elim) (fun rv Gc_11 H locs hp hI => ?_)
    obtain ⟨rfl, hq9⟩ := hp
    rw [hq9] at hI
    rw [hr9]
    refine W.eq (g2 := F0 m 14 ls [.int (bI true), .ref h0]) rfl ?_
    refine lv_if_eq (tgt := 21) hx hb dX8_isNoPair_14 (by decide) (fun c_14 => ?_) (fun c_14 => ?_)
    · skip
      have c_14 : true = false := bI_0.mp c_14
      cases c_14
    · skip
      have c_14 : true = true := bI_1.mp c_14
      refine lv_iconst (v := nI 1) hx hb dX8_isNoPair_17 (by decide) ?_
      refine lv_goto (tgt := 22) hx hb dX8_isNoPair_18 (by decide) ?_
      refine lv_iconst (v := nI 1) hx hb dX8_isNoPair_22 (by decide) ?_
      refine g_callV (As := [.int (nI 1), .int (nI 1)]) (rest := []) (b := h0) (n := 2) S hE hI hA (c_start l K _ L h0 th y N true 1 hM (by decide)) gX8_isNoPair_X8_start rfl (by decide +kernel) ⟨Nat.le_of_ble_eq_true rfl, Nat.le_of_ble_eq_true rfl⟩ (g_hro hE hI hM.1 rfl) rfl hl.1 rfl (Nat.le_of_ble_eq_true rfl) dX8_isNoPair_23 ⟨Nat.le_of_ble_eq_true rfl, Nat.le_of_ble_eq_true rfl⟩ (fun E ce q9 Gx H1 locs1 hx9 => hx9.elim) (fun rv Gc_23 H locs hp hI => ?_)
      obtain ⟨rfl, hM, hg9⟩ := hp
      have hag := hag.tr hg9
      have hM : MdC K L h0 1 Gc_23 y N := hM
      obtain ⟨m1, ar1, hl1⟩ := hM.2.1.2.1.obj
      obtain ⟨m2, ar2, hl2⟩ := hM.2.1.2.2.1.obj
      refine W.eq (g2 := F0 m 26 ls [.int (bI true)]) rfl ?_
      exact g_zret S hI hr hlocks (Nat.zero_le _) (Nat.zero_le _) (bI_01 _) dX8_isNoPair_26 ⟨rfl, hM, hag⟩
set_option maxHeartbeats 4000000 in
set_option maxRecDepth 100000 in
/-- isNoPair: none -/
theorem c_pairC (l : Launch) (K : gK) (G : gW) (L : Nat → Nat → Nat) (h0 th : Nat) (y : YV) (N : Nat) (x k : Int32) (hM : MdC K L h0 th G y N) (hr8 : inR x (ySc y) = true) (hr9 : inR k (yKc y) = true) : gM l yX8_isNoPair wsX8_isNoPair 4 84 0 0 K [.ref h0, .int x, .int k] G (fun v G1 => v = some (.int (bI false)) ∧ MdC K L h0 0 G1 y N ∧ AgM G G1) (gNo) := by
  refine gM.of (cc := cX8_isNoPair) (maxL := 3) (ret := (some .boolean)) (by decide) rfl (Nat.le_of_ble_eq_true rfl) ?_
  intro p e s m below meth c A S hr hlocks htab hname hE hA hI ls hl
  have hx := S.1
  have hb := S.2.1
  have hml := S.2.2.1
  have hl : lv_has ls 3 [(0, .ref h0), (1, .int x), (2, .int k)] := hl
  have h44 := hM.2.1.1.2.2.1
  have h6 := hM.2.1.1.2.2.2
  have hf2 := hM.2.1.1.2.1
  have h40 := hM.2.2.2
  have hth := hM.2.2.1
  have hag : AgM G G := AgM.rf
  obtain ⟨m1, ar1, hl1⟩ := hM.2.1.2.1.obj
  obtain ⟨m2, ar2, hl2⟩ := hM.2.1.2.2.1.obj
  obtain ⟨H, hHe⟩ : ∃ z, z = s.heap := ⟨_, rfl⟩
  obtain ⟨locs, hLe⟩ : ∃ z : List Loc, z = [] := ⟨_, rfl⟩
  rw [← hHe, ← hLe]
  have hI : gI K A s G H locs := by rw [hHe, hLe]; exact hI
  clear hHe hLe
  refine lv_aload_n hx hb dX8_isNoPair_0 rfl (lv_at hl 0 rfl) ?_
  refine lv_aload_n hx hb dX8_isNoPair_1 rfl (lv_at hl 0 rfl) ?_
  refine lv_iload_n hx hb dX8_isNoPair_2 rfl (lv_at hl 1 rfl) ?_
  refine g_callV (As := [.int x]) (rest := [.ref h0]) (b := h0) (n := 1) S hE hI hA (c_X8_isNo l K _ h0 th L y N x hM.1 hM.2.1) gX8_isNoPair_X8_isNo rfl (by decide +kernel) ⟨Nat.le_of_ble_eq_true rfl, Nat.le_of_ble_eq_true rfl⟩ (g_hro hE hI hM.1 rfl) rfl hl.1 rfl (Nat.le_of_ble_eq_true rfl) dX8_isNoPair_3 ⟨Nat.le_of_ble_eq_true rfl, Nat.le_of_ble_eq_true rfl⟩ (fun E ce q9 Gx H1 locs1 hx9 => hx9.elim) (fun rv Gc_3 H locs hp hI => ?_)
  obtain ⟨rfl, hq9⟩ := hp
  rw [hq9] at hI
  rw [hr8]
  refine W.eq (g2 := F0 m 6 ls [.int (bI false), .ref h0]) rfl ?_
  refine lv_if_ne (tgt := 17) hx hb dX8_isNoPair_6 (by decide) (fun c_6 => ?_) (fun c_6 => ?_)
  · skip
    have c_6 : false = true := bI_1.mp c_6
    cases c_6
  · skip
    have c_6 : false = false := bI_0.mp c_6
    refine lv_aload_n hx hb dX8_isNoPair_9 rfl (lv_at hl 0 rfl) ?_
    refine lv_iload_n hx hb dX8_isNoPair_10 rfl (lv_at hl 2 rfl) ?_
    refine g_callV (As := [.int k]) (rest := [.ref h0]) (b := h0) (n := 1) S hE hI hA (c_X8_isNoOne l K _ h0 th L y N k hM.1 hM.2.1) gX8_isNoPair_X8_isNoOne rfl (by decide +kernel) ⟨Nat.le_of_ble_eq_true rfl, Nat.le_of_ble_eq_true rfl⟩ (g_hro hE hI hM.1 rfl) rfl hl.1 rfl (Nat.le_of_ble_eq_true rfl) dX8_isNoPair_11 ⟨Nat.le_of_ble_eq_true rfl, Nat.le_of_ble_eq_true rfl⟩ (fun E ce q9 Gx H1 locs1 hx9 => hx9.elim) (fun rv Gc_11 H locs hp hI => ?_)
    obtain ⟨rfl, hq9⟩ := hp
    rw [hq9] at hI
    rw [hr9]
    refine W.eq (g2 := F0 m 14 ls [.int (bI false), .ref h0]) rfl ?_
    refine lv_if_eq (tgt := 21) hx hb dX8_isNoPair_14 (by decide) (fun c_14 => ?_) (fun c_14 => ?_)
    · skip
      have c_14 : false = false := bI_0.mp c_14
      refine lv_iconst (v := nI 0) hx hb dX8_isNoPair_21 (by decide) ?_
      refine lv_iconst (v := nI 1) hx hb dX8_isNoPair_22 (by decide) ?_
      refine g_callV (As := [.int (nI 0), .int (nI 1)]) (rest := []) (b := h0) (n := 2) S hE hI hA (c_start l K _ L h0 th y N false 1 hM (by decide)) gX8_isNoPair_X8_start rfl (by decide +kernel) ⟨Nat.le_of_ble_eq_true rfl, Nat.le_of_ble_eq_true rfl⟩ (g_hro hE hI hM.1 rfl) rfl hl.1 rfl (Nat.le_of_ble_eq_true rfl) dX8_isNoPair_23 ⟨Nat.le_of_ble_eq_true rfl, Nat.le_of_ble_eq_true rfl⟩ (fun E ce q9 Gx H1 locs1 hx9 => hx9.elim) (fun rv Gc_23 H locs hp hI => ?_)
      obtain ⟨rfl, hM, hg9⟩ := hp
      have hag := hag.tr hg9
      have hM : MdC K L h0 0 Gc_23 y N := hM
      obtain ⟨m1, ar1, hl1⟩ := hM.2.1.2.1.obj
      obtain ⟨m2, ar2, hl2⟩ := hM.2.1.2.2.1.obj
      refine W.eq (g2 := F0 m 26 ls [.int (bI false)]) rfl ?_
      exact g_zret S hI hr hlocks (Nat.zero_le _) (Nat.zero_le _) (bI_01 _) dX8_isNoPair_26 ⟨rfl, hM, hag⟩
    · skip
      have c_14 : false = true := bI_1.mp c_14
      cases c_14
set_option maxHeartbeats 4000000 in
set_option maxRecDepth 100000 in
/-- of(slab) -/
theorem c_X8_of (l : Launch) (K : gK) (G : gW) (L : Nat → Nat → Nat) (h0 th : Nat) (y : YV) (N : Nat) (i : Nat) (hM : MdC K L h0 th G y N) (hi : i < ySc y) : gM l yX8_of wsX8_of 5 104 0 0 K [.ref h0, .int (nI i)] G (fun v G1 => v = some (.ref (L 35 i)) ∧ G1 = G) (gNo) := by
  refine gM.of (cc := cX8_of) (maxL := 2) (ret := (some (.object "StonecutterYardModel$Slab"))) (by decide) rfl (Nat.le_of_ble_eq_true rfl) ?_
  intro p e s m below meth c A S hr hlocks htab hname hE hA hI ls hl
  have hx := S.1
  have hb := S.2.1
  have hml := S.2.2.1
  have hl : lv_has ls 2 [(0, .ref h0), (1, .int (nI i))] := hl
  have h44 := hM.2.1.1.2.2.1
  have h6 := hM.2.1.1.2.2.2
  have hf2 := hM.2.1.1.2.1
  have h40 := hM.2.2.2
  have hth := hM.2.2.1
  have hag : AgM G G := AgM.rf
  obtain ⟨m1, ar1, hl1⟩ := hM.2.1.2.1.obj
  obtain ⟨m2, ar2, hl2⟩ := hM.2.1.2.2.1.obj
  obtain ⟨hsl, hfl, hsok⟩ := hM.2.1.2.2.2.1 i hi
  obtain ⟨s1, s2, s3, s4, s5, s6, s7, s8⟩ := id hsok
  obtain ⟨H, hHe⟩ : ∃ z, z = s.heap := ⟨_, rfl⟩
  obtain ⟨locs, hLe⟩ : ∃ z : List Loc, z = [] := ⟨_, rfl⟩
  rw [← hHe, ← hLe]
  have hI : gI K A s G H locs := by rw [hHe, hLe]; exact hI
  clear hHe hLe
  refine lv_aload_n hx hb dX8_of_0 rfl (lv_at hl 0 rfl) ?_
  refine g_get S hE hI (C := RX8) (T := TX8) (N := 2) (ref := "StonecutterYardModel") (fun w h => (List.mem_cons_of_mem _ (List.mem_append_left _ (List.mem_append_left _ (List.mem_append_right _ h))))) hM.1 rfl 1 (by decide) (List.mem_cons_of_mem _ (List.mem_append_left _ (List.mem_append_left _ (List.mem_append_left _ (List.mem_of_getElem? (i := 0) rfl))))) (fun _ h9 => h9) (v := .ref (L 30 0)) rfl dX8_of_1 ?_
  refine g_get S hE hI (C := RX7) (T := TX7) (N := 3) (ref := "StonecutterYardModel$Yard") (fun w h => (List.mem_cons_of_mem _ (List.mem_append_left _ (List.mem_append_right _ h)))) hM.2.1.1.1 rfl 0 (by decide) (List.mem_cons_of_mem _ (List.mem_append_left _ (List.mem_append_left _ (List.mem_append_left _ (List.mem_of_getElem? (i := 1) rfl))))) (fun _ h9 => h9) (v := .ref (L 31 0)) rfl dX8_of_4 ?_
  refine lv_iload_n hx hb dX8_of_7 rfl (lv_at hl 1 rfl) ?_
  refine g_callV (As := [.int (nI i)]) (rest := []) (b := (L 31 0)) (n := 1) S hE hI hA (l_get l K _ (5, 31, 0) (tbL 5 32) (L 31 0) (ySc y) (L 35) i hM.2.1.2.1 hi) gX8_of_Jx4a65c_get_915e3 rfl (by decide +kernel) ⟨Nat.le_of_ble_eq_true rfl, Nat.le_of_ble_eq_true rfl⟩ (g_hro hE hI hl1 rfl) rfl hl.1 rfl (Nat.le_of_ble_eq_true rfl) dX8_of_8 ⟨Nat.le_of_ble_eq_true rfl, Nat.le_of_ble_eq_true rfl⟩ (fun E ce q9 Gx H1 locs1 hx9 => hx9.elim) (fun rv Gc_8 H locs hp hI => ?_)
  obtain ⟨rfl, hq9⟩ := hp
  rw [hq9] at hI
  refine W.eq (g2 := F0 m 11 ls [.ref (L 35 i)]) rfl ?_
  refine g_cast S (List.mem_cons_of_mem _ (List.mem_append_left _ (List.mem_append_left _ (List.mem_append_left _ (List.mem_of_getElem? (i := 2) rfl))))) (g_hro hE hI hsl rfl) dX8_of_11 ?_
  exact g_aret S hI hr (Or.inl ⟨_, rfl⟩) (Or.inr ⟨_, rfl⟩) hlocks (Nat.zero_le _) (Nat.zero_le _) dX8_of_14 ⟨rfl, rfl⟩
set_option maxHeartbeats 4000000 in
set_option maxRecDepth 100000 in
/-- isNoPoint: no slab -/
theorem c_npA (l : Launch) (K : gK) (G : gW) (L : Nat → Nat → Nat) (h0 th : Nat) (y : YV) (N : Nat) (x px py : Int32) (hM : MdC K L h0 th G y N) (hr9 : inR x (ySc y) = false) : gM l yX8_isNoPoint wsX8_isNoPoint 6 125 0 0 K [.ref h0, .int x, .int px, .int py] G (fun v G1 => v = some (.int (bI true)) ∧ MdC K L h0 1 G1 y N ∧ AgM G G1) (gNo) := by
  refine gM.of (cc := cX8_isNoPoint) (maxL := 4) (ret := (some .boolean)) (by decide) rfl (Nat.le_of_ble_eq_true rfl) ?_
  intro p e s m below meth c A S hr hlocks htab hname hE hA hI ls hl
  have hx := S.1
  have hb := S.2.1
  have hml := S.2.2.1
  have hl : lv_has ls 4 [(0, .ref h0), (1, .int x), (2, .int px), (3, .int py)] := hl
  have h44 := hM.2.1.1.2.2.1
  have h6 := hM.2.1.1.2.2.2
  have hf2 := hM.2.1.1.2.1
  have h40 := hM.2.2.2
  have hth := hM.2.2.1
  have hag : AgM G G := AgM.rf
  obtain ⟨m1, ar1, hl1⟩ := hM.2.1.2.1.obj
  obtain ⟨m2, ar2, hl2⟩ := hM.2.1.2.2.1.obj
  obtain ⟨H, hHe⟩ : ∃ z, z = s.heap := ⟨_, rfl⟩
  obtain ⟨locs, hLe⟩ : ∃ z : List Loc, z = [] := ⟨_, rfl⟩
  rw [← hHe, ← hLe]
  have hI : gI K A s G H locs := by rw [hHe, hLe]; exact hI
  clear hHe hLe
  refine lv_aload_n hx hb dX8_isNoPoint_0 rfl (lv_at hl 0 rfl) ?_
  refine lv_iload_n hx hb dX8_isNoPoint_1 rfl (lv_at hl 1 rfl) ?_
  refine g_callV (As := [.int x]) (rest := []) (b := h0) (n := 1) S hE hI hA (c_X8_isNoSlab l K _ L h0 th y N x hM) gX8_isNoPoint_X8_isNoSlab rfl (by decide +kernel) ⟨Nat.le_of_ble_eq_true rfl, Nat.le_of_ble_eq_true rfl⟩ (g_hro hE hI hM.1 rfl) rfl hl.1 rfl (Nat.le_of_ble_eq_true rfl) dX8_isNoPoint_2 ⟨Nat.le_of_ble_eq_true rfl, Nat.le_of_ble_eq_true rfl⟩ (fun E ce q9 Gx H1 locs1 hx9 => hx9.elim) (fun rv Gc_2 H locs hp hI => ?_)
  obtain ⟨rfl, hM, hg9⟩ := hp
  have hag := hag.tr hg9
  rw [hr9]
  rw [hr9] at hM
  have hM : MdC K L h0 1 Gc_2 y N := hM
  obtain ⟨m1, ar1, hl1⟩ := hM.2.1.2.1.obj
  obtain ⟨m2, ar2, hl2⟩ := hM.2.1.2.2.1.obj
  refine W.eq (g2 := F0 m 5 ls [.int (bI true)]) rfl ?_
  refine lv_if_ne (tgt := 34) hx hb dX8_isNoPoint_5 (by decide) (fun c_5 => ?_) (fun c_5 => ?_)
  · skip
    have c_5 : true = true := bI_1.mp c_5
    refine lv_iconst (v := nI 1) hx hb dX8_isNoPoint_34 (by decide) ?_
    refine lv_goto (tgt := 39) hx hb dX8_isNoPoint_35 (by decide) ?_
    exact g_zret S hI hr hlocks (Nat.zero_le _) (Nat.zero_le _) (Or.inr rfl) dX8_isNoPoint_39 ⟨rfl, hM, hag⟩
  · skip
    have c_5 : true = false := bI_0.mp c_5
    cases c_5
set_option maxHeartbeats 4000000 in
set_option maxRecDepth 100000 in
/-- isNoPoint: no point -/
theorem c_npB (l : Launch) (K : gK) (G : gW) (L : Nat → Nat → Nat) (h0 th : Nat) (y : YV) (N : Nat) (i : Nat) (px py : Int32) (hM : MdC K L h0 th G y N) (hi : i < ySc y) (hpt9 : inPt (yS y i) px py = false) : gM l yX8_isNoPoint wsX8_isNoPoint 6 125 0 0 K [.ref h0, .int (nI i), .int px, .int py] G (fun v G1 => v = some (.int (bI true)) ∧ MdC K L h0 1 G1 y N ∧ AgM G G1) (gNo) := by
  refine gM.of (cc := cX8_isNoPoint) (maxL := 4) (ret := (some .boolean)) (by decide) rfl (Nat.le_of_ble_eq_true rfl) ?_
  intro p e s m below meth c A S hr hlocks htab hname hE hA hI ls hl
  have hx := S.1
  have hb := S.2.1
  have hml := S.2.2.1
  have hl : lv_has ls 4 [(0, .ref h0), (1, .int (nI i)), (2, .int px), (3, .int py)] := hl
  have h44 := hM.2.1.1.2.2.1
  have h6 := hM.2.1.1.2.2.2
  have hf2 := hM.2.1.1.2.1
  have h40 := hM.2.2.2
  have hth := hM.2.2.1
  have hag : AgM G G := AgM.rf
  have hri : inR (nI i) (ySc y) = true := inR_nI hi (by omega)
  obtain ⟨m1, ar1, hl1⟩ := hM.2.1.2.1.obj
  obtain ⟨m2, ar2, hl2⟩ := hM.2.1.2.2.1.obj
  obtain ⟨hsl, hfl, hsok⟩ := hM.2.1.2.2.2.1 i hi
  obtain ⟨s1, s2, s3, s4, s5, s6, s7, s8⟩ := id hsok
  obtain ⟨H, hHe⟩ : ∃ z, z = s.heap := ⟨_, rfl⟩
  obtain ⟨locs, hLe⟩ : ∃ z : List Loc, z = [] := ⟨_, rfl⟩
  rw [← hHe, ← hLe]
  have hI : gI K A s G H locs := by rw [hHe, hLe]; exact hI
  clear hHe hLe
  refine lv_aload_n hx hb dX8_isNoPoint_0 rfl (lv_at hl 0 rfl) ?_
  refine lv_iload_n hx hb dX8_isNoPoint_1 rfl (lv_at hl 1 rfl) ?_
  refine g_callV (As := [.int (nI i)]) (rest := []) (b := h0) (n := 1) S hE hI hA (c_X8_isNoSlab l K _ L h0 th y N (nI i) hM) gX8_isNoPoint_X8_isNoSlab rfl (by decide +kernel) ⟨Nat.le_of_ble_eq_true rfl, Nat.le_of_ble_eq_true rfl⟩ (g_hro hE hI hM.1 rfl) rfl hl.1 rfl (Nat.le_of_ble_eq_true rfl) dX8_isNoPoint_2 ⟨Nat.le_of_ble_eq_true rfl, Nat.le_of_ble_eq_true rfl⟩ (fun E ce q9 Gx H1 locs1 hx9 => hx9.elim) (fun rv Gc_2 H locs hp hI => ?_)
  obtain ⟨rfl, hM, hg9⟩ := hp
  have hag := hag.tr hg9
  rw [hri]
  rw [hri] at hM
  have hM : MdC K L h0 0 Gc_2 y N := hM
  obtain ⟨m1, ar1, hl1⟩ := hM.2.1.2.1.obj
  obtain ⟨m2, ar2, hl2⟩ := hM.2.1.2.2.1.obj
  obtain ⟨hsl, hfl, hsok⟩ := hM.2.1.2.2.2.1 i hi
  obtain ⟨s1, s2, s3, s4, s5, s6, s7, s8⟩ := id hsok
  refine W.eq (g2 := F0 m 5 ls [.int (bI false)]) rfl ?_
  refine lv_if_ne (tgt := 34) hx hb dX8_isNoPoint_5 (by decide) (fun c_5 => ?_) (fun c_5 => ?_)
  · skip
    have c_5 : false = true := bI_1.mp c_5
    cases c_5
  · skip
    have c_5 : false = false := bI_0.mp c_5
    refine lv_aload_n hx hb dX8_isNoPoint_8 rfl (lv_at hl 0 rfl) ?_
    refine lv_aload_n hx hb dX8_isNoPoint_9 rfl (lv_at hl 0 rfl) ?_
    refine lv_iload_n hx hb dX8_isNoPoint_10 rfl (lv_at hl 1 rfl) ?_
    refine g_callV (As := [.int (nI i)]) (rest := [.ref h0]) (b := h0) (n := 1) S hE hI hA (c_X8_of l K _ L h0 0 y N i hM hi) gX8_isNoPoint_X8_of rfl (by decide +kernel) ⟨Nat.le_of_ble_eq_true rfl, Nat.le_of_ble_eq_true rfl⟩ (g_hro hE hI hM.1 rfl) rfl hl.1 rfl (Nat.le_of_ble_eq_true rfl) dX8_isNoPoint_11 ⟨Nat.le_of_ble_eq_true rfl, Nat.le_of_ble_eq_true rfl⟩ (fun E ce q9 Gx H1 locs1 hx9 => hx9.elim) (fun rv Gc_11 H locs hp hI => ?_)
    obtain ⟨rfl, hq9⟩ := hp
    rw [hq9] at hI
    refine W.eq (g2 := F0 m 14 ls [.ref (L 35 i), .ref h0]) rfl ?_
    refine lv_iload_n hx hb dX8_isNoPoint_14 rfl (lv_at hl 2 rfl) ?_
    refine lv_iload_n hx hb dX8_isNoPoint_15 rfl (lv_at hl 3 rfl) ?_
    refine g_callV (As := [.int px, .int py]) (rest := [.ref h0]) (b := (L 35 i)) (n := 2) S hE hI hA (c_X6_hasPoint l K _ (5, 35, i) (L 35 i) (yS y i) (L 36 i) px py hsl ⟨s2, s4⟩) gX8_isNoPoint_X6_hasPoint rfl (by decide +kernel) ⟨Nat.le_of_ble_eq_true rfl, Nat.le_of_ble_eq_true rfl⟩ (g_hro hE hI hsl rfl) rfl hl.1 rfl (Nat.le_of_ble_eq_true rfl) dX8_isNoPoint_16 ⟨Nat.le_of_ble_eq_true rfl, Nat.le_of_ble_eq_true rfl⟩ (fun E ce q9 Gx H1 locs1 hx9 => hx9.elim) (fun rv Gc_16 H locs hp hI => ?_)
    obtain ⟨rfl, hq9⟩ := hp
    rw [hq9] at hI
    rw [hpt9]
    refine W.eq (g2 := F0 m 19 ls [.int (bI false), .ref h0]) rfl ?_
    refine lv_if_ne (tgt := 26) hx hb dX8_isNoPoint_19 (by decide) (fun c_19 => ?_) (fun c_19 => ?_)
    · skip
      have c_19 : false = true := bI_1.mp c_19
      cases c_19
    · skip
      have c_19 : false = false := bI_0.mp c_19
      refine lv_iconst (v := nI 1) hx hb dX8_isNoPoint_22 (by decide) ?_
      refine lv_goto (tgt := 27) hx hb dX8_isNoPoint_23 (by decide) ?_
      refine lv_iconst (v := nI 1) hx hb dX8_isNoPoint_27 (by decide) ?_
      refine g_callV (As := [.int (nI 1), .int (nI 1)]) (rest := []) (b := h0) (n := 2) S hE hI hA (c_ref l K _ L h0 y N true 1 hM (by decide)) gX8_isNoPoint_X8_refuse rfl (by decide +kernel) ⟨Nat.le_of_ble_eq_true rfl, Nat.le_of_ble_eq_true rfl⟩ (g_hro hE hI hM.1 rfl) rfl hl.1 rfl (Nat.le_of_ble_eq_true rfl) dX8_isNoPoint_28 ⟨Nat.le_of_ble_eq_true rfl, Nat.le_of_ble_eq_true rfl⟩ (fun E ce q9 Gx H1 locs1 hx9 => hx9.elim) (fun rv Gc_28 H locs hp hI => ?_)
      obtain ⟨rfl, hM, hg9⟩ := hp
      have hag := hag.tr hg9
      have hM : MdC K L h0 1 Gc_28 y N := hM
      obtain ⟨m1, ar1, hl1⟩ := hM.2.1.2.1.obj
      obtain ⟨m2, ar2, hl2⟩ := hM.2.1.2.2.1.obj
      obtain ⟨hsl, hfl, hsok⟩ := hM.2.1.2.2.2.1 i hi
      obtain ⟨s1, s2, s3, s4, s5, s6, s7, s8⟩ := id hsok
      refine W.eq (g2 := F0 m 31 ls [.int (bI true)]) rfl ?_
      refine lv_if_eq (tgt := 38) hx hb dX8_isNoPoint_31 (by decide) (fun c_31 => ?_) (fun c_31 => ?_)
      · skip
        have c_31 : true = false := bI_0.mp c_31
        cases c_31
      · skip
        have c_31 : true = true := bI_1.mp c_31
        refine lv_iconst (v := nI 1) hx hb dX8_isNoPoint_34 (by decide) ?_
        refine lv_goto (tgt := 39) hx hb dX8_isNoPoint_35 (by decide) ?_
        exact g_zret S hI hr hlocks (Nat.zero_le _) (Nat.zero_le _) (Or.inr rfl) dX8_isNoPoint_39 ⟨rfl, hM, hag⟩
set_option maxHeartbeats 4000000 in
set_option maxRecDepth 100000 in
/-- isNoPoint: a point -/
theorem c_npC (l : Launch) (K : gK) (G : gW) (L : Nat → Nat → Nat) (h0 th : Nat) (y : YV) (N : Nat) (i a b : Nat) (hM : MdC K L h0 th G y N) (hi : i < ySc y) (hab : a < sW (yS y i) ∧ b < sH (yS y i)) : gM l yX8_isNoPoint wsX8_isNoPoint 6 125 0 0 K [.ref h0, .int (nI i), .int (nI a), .int (nI b)] G (fun v G1 => v = some (.int (bI false)) ∧ MdC K L h0 0 G1 y N ∧ AgM G G1) (gNo) := by
  refine gM.of (cc := cX8_isNoPoint) (maxL := 4) (ret := (some .boolean)) (by decide) rfl (Nat.le_of_ble_eq_true rfl) ?_
  intro p e s m below meth c A S hr hlocks htab hname hE hA hI ls hl
  have hx := S.1
  have hb := S.2.1
  have hml := S.2.2.1
  have hl : lv_has ls 4 [(0, .ref h0), (1, .int (nI i)), (2, .int (nI a)), (3, .int (nI b))] := hl
  have h44 := hM.2.1.1.2.2.1
  have h6 := hM.2.1.1.2.2.2
  have hf2 := hM.2.1.1.2.1
  have h40 := hM.2.2.2
  have hth := hM.2.2.1
  have hag : AgM G G := AgM.rf
  have hri : inR (nI i) (ySc y) = true := inR_nI hi (by omega)
  obtain ⟨m1, ar1, hl1⟩ := hM.2.1.2.1.obj
  obtain ⟨m2, ar2, hl2⟩ := hM.2.1.2.2.1.obj
  obtain ⟨hsl, hfl, hsok⟩ := hM.2.1.2.2.2.1 i hi
  obtain ⟨s1, s2, s3, s4, s5, s6, s7, s8⟩ := id hsok
  have hpt9 := inPt_nI hsok hab.1 hab.2
  obtain ⟨H, hHe⟩ : ∃ z, z = s.heap := ⟨_, rfl⟩
  obtain ⟨locs, hLe⟩ : ∃ z : List Loc, z = [] := ⟨_, rfl⟩
  rw [← hHe, ← hLe]
  have hI : gI K A s G H locs := by rw [hHe, hLe]; exact hI
  clear hHe hLe
  refine lv_aload_n hx hb dX8_isNoPoint_0 rfl (lv_at hl 0 rfl) ?_
  refine lv_iload_n hx hb dX8_isNoPoint_1 rfl (lv_at hl 1 rfl) ?_
  refine g_callV (As := [.int (nI i)]) (rest := []) (b := h0) (n := 1) S hE hI hA (c_X8_isNoSlab l K _ L h0 th y N (nI i) hM) gX8_isNoPoint_X8_isNoSlab rfl (by decide +kernel) ⟨Nat.le_of_ble_eq_true rfl, Nat.le_of_ble_eq_true rfl⟩ (g_hro hE hI hM.1 rfl) rfl hl.1 rfl (Nat.le_of_ble_eq_true rfl) dX8_isNoPoint_2 ⟨Nat.le_of_ble_eq_true rfl, Nat.le_of_ble_eq_true rfl⟩ (fun E ce q9 Gx H1 locs1 hx9 => hx9.elim) (fun rv Gc_2 H locs hp hI => ?_)
  obtain ⟨rfl, hM, hg9⟩ := hp
  have hag := hag.tr hg9
  rw [hri]
  rw [hri] at hM
  have hM : MdC K L h0 0 Gc_2 y N := hM
  obtain ⟨m1, ar1, hl1⟩ := hM.2.1.2.1.obj
  obtain ⟨m2, ar2, hl2⟩ := hM.2.1.2.2.1.obj
  obtain ⟨hsl, hfl, hsok⟩ := hM.2.1.2.2.2.1 i hi
  obtain ⟨s1, s2, s3, s4, s5, s6, s7, s8⟩ := id hsok
  have hpt9 := inPt_nI hsok hab.1 hab.2
  refine W.eq (g2 := F0 m 5 ls [.int (bI false)]) rfl ?_
  refine lv_if_ne (tgt := 34) hx hb dX8_isNoPoint_5 (by decide) (fun c_5 => ?_) (fun c_5 => ?_)
  · skip
    have c_5 : false = true := bI_1.mp c_5
    cases c_5
  · skip
    have c_5 : false = false := bI_0.mp c_5
    refine lv_aload_n hx hb dX8_isNoPoint_8 rfl (lv_at hl 0 rfl) ?_
    refine lv_aload_n hx hb dX8_isNoPoint_9 rfl (lv_at hl 0 rfl) ?_
    refine lv_iload_n hx hb dX8_isNoPoint_10 rfl (lv_at hl 1 rfl) ?_
    refine g_callV (As := [.int (nI i)]) (rest := [.ref h0]) (b := h0) (n := 1) S hE hI hA (c_X8_of l K _ L h0 0 y N i hM hi) gX8_isNoPoint_X8_of rfl (by decide +kernel) ⟨Nat.le_of_ble_eq_true rfl, Nat.le_of_ble_eq_true rfl⟩ (g_hro hE hI hM.1 rfl) rfl hl.1 rfl (Nat.le_of_ble_eq_true rfl) dX8_isNoPoint_11 ⟨Nat.le_of_ble_eq_true rfl, Nat.le_of_ble_eq_true rfl⟩ (fun E ce q9 Gx H1 locs1 hx9 => hx9.elim) (fun rv Gc_11 H locs hp hI => ?_)
    obtain ⟨rfl, hq9⟩ := hp
    rw [hq9] at hI
    refine W.eq (g2 := F0 m 14 ls [.ref (L 35 i), .ref h0]) rfl ?_
    refine lv_iload_n hx hb dX8_isNoPoint_14 rfl (lv_at hl 2 rfl) ?_
    refine lv_iload_n hx hb dX8_isNoPoint_15 rfl (lv_at hl 3 rfl) ?_
    refine g_callV (As := [.int (nI a), .int (nI b)]) (rest := [.ref h0]) (b := (L 35 i)) (n := 2) S hE hI hA (c_X6_hasPoint l K _ (5, 35, i) (L 35 i) (yS y i) (L 36 i) (nI a) (nI b) hsl ⟨s2, s4⟩) gX8_isNoPoint_X6_hasPoint rfl (by decide +kernel) ⟨Nat.le_of_ble_eq_true rfl, Nat.le_of_ble_eq_true rfl⟩ (g_hro hE hI hsl rfl) rfl hl.1 rfl (Nat.le_of_ble_eq_true rfl) dX8_isNoPoint_16 ⟨Nat.le_of_ble_eq_true rfl, Nat.le_of_ble_eq_true rfl⟩ (fun E ce q9 Gx H1 locs1 hx9 => hx9.elim) (fun rv Gc_16 H locs hp hI => ?_)
    obtain ⟨rfl, hq9⟩ := hp
    rw [hq9] at hI
    rw [hpt9]
    refine W.eq (g2 := F0 m 19 ls [.int (bI true), .ref h0]) rfl ?_
    refine lv_if_ne (tgt := 26) hx hb dX8_isNoPoint_19 (by decide) (fun c_19 => ?_) (fun c_19 => ?_)
    · skip
      have c_19 : true = true := bI_1.mp c_19
      refine lv_iconst (v := nI 0) hx hb dX8_isNoPoint_26 (by decide) ?_
      refine lv_iconst (v := nI 1) hx hb dX8_isNoPoint_27 (by decide) ?_
      refine g_callV (As := [.int (nI 0), .int (nI 1)]) (rest := []) (b := h0) (n := 2) S hE hI hA (c_ref l K _ L h0 y N false 1 hM (by decide)) gX8_isNoPoint_X8_refuse rfl (by decide +kernel) ⟨Nat.le_of_ble_eq_true rfl, Nat.le_of_ble_eq_true rfl⟩ (g_hro hE hI hM.1 rfl) rfl hl.1 rfl (Nat.le_of_ble_eq_true rfl) dX8_isNoPoint_28 ⟨Nat.le_of_ble_eq_true rfl, Nat.le_of_ble_eq_true rfl⟩ (fun E ce q9 Gx H1 locs1 hx9 => hx9.elim) (fun rv Gc_28 H locs hp hI => ?_)
      obtain ⟨rfl, hM, hg9⟩ := hp
      have hag := hag.tr hg9
      have hM : MdC K L h0 0 Gc_28 y N := hM
      obtain ⟨m1, ar1, hl1⟩ := hM.2.1.2.1.obj
      obtain ⟨m2, ar2, hl2⟩ := hM.2.1.2.2.1.obj
      obtain ⟨hsl, hfl, hsok⟩ := hM.2.1.2.2.2.1 i hi
      obtain ⟨s1, s2, s3, s4, s5, s6, s7, s8⟩ := id hsok
      have hpt9 := inPt_nI hsok hab.1 hab.2
      refine W.eq (g2 := F0 m 31 ls [.int (bI false)]) rfl ?_
      refine lv_if_eq (tgt := 38) hx hb dX8_isNoPoint_31 (by decide) (fun c_31 => ?_) (fun c_31 => ?_)
      · skip
        have c_31 : false = false := bI_0.mp c_31
        refine lv_iconst (v := nI 0) hx hb dX8_isNoPoint_38 (by decide) ?_
        exact g_zret S hI hr hlocks (Nat.zero_le _) (Nat.zero_le _) (Or.inl rfl) dX8_isNoPoint_39 ⟨rfl, hM, hag⟩
      · skip
        have c_31 : false = true := bI_1.mp c_31
        cases c_31
    · skip
      have c_19 : true = false := bI_0.mp c_19
      cases c_19
