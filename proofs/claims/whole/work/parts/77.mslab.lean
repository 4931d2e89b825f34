/-! the model's calls on slabs -/
theorem c_X7_cutB (l : Launch) (K : gK) (G : gW) (r : Nat) (L : Nat → Nat → Nat) (y : YV) (N : Nat) (i x : Nat) (dn : Bool) (hm : MY K r L G y N) (hi : i < ySc y) (hcan : canC (yLen (yS y i) dn) (yF y) x = true) (hsc : ySc y ≤ 42) (hr50 : r ≠ 50) : gM l yX7_cut wsX7_cut 8 171 24 270 K [.ref (L 30 0), .int (nI i), .int (bI dn), .int (nI x)] G (fun r9 G1 => ∃ L2 N2, r9 = some (.int (nI (ySc y))) ∧ MY K r L2 G1 (yCut y i dn x) N2 ∧ N ≤ N2 ∧ lOff (ySc y) L L2 ∧ frO r N G G1) gNo := by
  cases dn
  · exact c_mcutA l K G r L y N i x hm hi hcan hsc hr50
  · exact c_mcutD l K G r L y N i x hm hi hcan hsc hr50
theorem frO.ag {N : Nat} {G G1 : gW} (h : frO 5 N G G1) : AgM G G1 := fun t ht => h.1 t (agOff ht).1 (agOff ht).2.2.2.2.2.2.2.2
theorem frO.mo {N : Nat} {G G1 : gW} (h : frO 5 N G G1) : G1 (9, 0, 0) = G (9, 0, 0) := h.1 _ (by decide) (by decide)
theorem lOff.y {sc : Nat} {L L2 : Nat → Nat → Nat} (h : lOff sc L L2) : L2 30 0 = L 30 0 := h 30 0 (Or.inl (by decide))
/-- a slab gets one flaw more -/
theorem MY.setFl {K : gK} {r : Nat} {L : Nat → Nat → Nat} {G G1 : gW} {y : YV} {N i a b : Nat} (hm : MY K r L G y N) (hr50 : r ≠ 50) (hi : i < ySc y) (hl : (sL (yS y i)).length < 6) (hab : a < sW (yS y i) ∧ b < sH (yS y i)) (hat : ∀ v : gTag, v ≠ (r, 36, i) → (∀ b, v ≠ tbF r i b) → v ≠ (50, 0, N) → G1 v = G v) (hf : FLi K G1 (r, 36, i) (tbF r i) (L 36 i) (sL (yS y i) ++ [(a, b)]) (N + 1)) : MY K r L G1 (ySetS y i (sPut (yS y i) a b)) (N + 1) := by
  obtain ⟨⟨a1, a2⟩, b1, b2, b3, b4⟩ := hm
  have hne : ∀ v : gTag, v.1 = r → v.2.1 ≠ 36 → v.2.1 ≠ 37 → G1 v = G v := fun v h1 h2 h3 => hat v (fun z => h2 (by rw [z])) (fun b z => h3 (by rw [z]; rfl)) (fun z => hr50 (by rw [← h1, z]))
  have h50 : ∀ m, m < N → G1 (50, 0, m) = G (50, 0, m) := fun m hm9 => hat _ (by simp [Ne.symm hr50]) (fun b => by unfold tbF; simp [Ne.symm hr50]) (by simp; omega)
  refine ⟨⟨(hne _ rfl (by show (30 : Nat) ≠ 36; decide) (by show (30 : Nat) ≠ 37; decide)).trans a1, a2⟩, b1.moved (hne _ rfl (by show (31 : Nat) ≠ 36; decide) (by show (31 : Nat) ≠ 37; decide)) (fun b => hne _ rfl (by show (32 : Nat) ≠ 36; decide) (by show (32 : Nat) ≠ 37; decide)), b2.moved (hne _ rfl (by show (33 : Nat) ≠ 36; decide) (by show (33 : Nat) ≠ 37; decide)) (fun b => hne _ rfl (by show (34 : Nat) ≠ 36; decide) (by show (34 : Nat) ≠ 37; decide)), fun j hj => ?_, fun j hj => ⟨(hne _ rfl (by show (38 : Nat) ≠ 36; decide) (by show (38 : Nat) ≠ 37; decide)).trans (b4 j hj).1, (b4 j hj).2⟩⟩
  obtain ⟨c1, c2, c3⟩ := b3 j hj
  have c1 := (hne (r, 35, j) rfl (by show (35 : Nat) ≠ 36; decide) (by show (35 : Nat) ≠ 37; decide)).trans c1
  by_cases e : j = i
  · subst e
    rw [show yS (ySetS y j (sPut (yS y j) a b)) j = sPut (yS y j) a b from if_pos rfl]
    exact ⟨c1, hf, sPut_ok c3 hl hab.1 hab.2⟩
  · rw [show yS (ySetS y i (sPut (yS y i) a b)) j = yS y j from if_neg e]
    exact ⟨c1, (c2.moved (hat _ (by simp [e]) (fun b => by unfold tbF; simp) (by simp [hr50])) (fun b9 => hat _ (by unfold tbF; simp) (fun b => by unfold tbF; cases b <;> cases b9 <;> simp <;> omega) (by unfold tbF; simp [hr50])) h50).more (Nat.le_succ _), c3⟩
set_option maxHeartbeats 4000000 in
set_option maxRecDepth 100000 in
/-- X8_slab: slabA -/
theorem m_slabA (l : Launch) (K : gK) (G : gW) (L : Nat → Nat → Nat) (h0 th : Nat) (y : YV) (N : Nat) (w h g : Int32) (hM : MdC K L h0 th G y N) (hp9 : inP w h g = false) : gM l yX8_slab wsX8_slab 8 171 3 69 K [.ref h0, .int w, .int h, .int g] G (mPost K h0 G (oSlab y w h g)) (gNo) := by
  refine gM.of (cc := cX8_slab) (maxL := 4) (ret := (some .int)) (by decide) rfl (Nat.le_of_ble_eq_true rfl) ?_
  intro p e s m below meth c A S hr hlocks htab hname hE hA hI ls hl
  have hx := S.1
  have hb := S.2.1
  have hml := S.2.2.1
  have hl : lv_has ls 4 [(0, .ref h0), (1, .int w), (2, .int h), (3, .int g)] := hl
  have h44 := hM.2.1.1.2.2.1
  have h6 := hM.2.1.1.2.2.2
  have hf2 := hM.2.1.1.2.1
  have h40 := hM.2.2.2
  have hth := hM.2.2.1
  have hag : AgM G G := AgM.rf
  obtain ⟨m1, ar1, hl1⟩ := hM.2.1.2.1.obj
  obtain ⟨m2, ar2, hl2⟩ := hM.2.1.2.2.1.obj
  have ho : oSlab y w h g = (1, 0, y) := by unfold oSlab; rw [if_neg (by rw [hp9]; decide)]
  obtain ⟨H, hHe⟩ : ∃ z, z = s.heap := ⟨_, rfl⟩
  obtain ⟨locs, hLe⟩ : ∃ z : List Loc, z = [] := ⟨_, rfl⟩
  rw [← hHe, ← hLe]
  have hI : gI K A s G H locs := by rw [hHe, hLe]; exact hI
  clear hHe hLe
  refine lv_aload_n hx hb dX8_slab_0 rfl (lv_at hl 0 rfl) ?_
  refine lv_iload_n hx hb dX8_slab_1 rfl (lv_at hl 1 rfl) ?_
  refine lv_iload_n hx hb dX8_slab_2 rfl (lv_at hl 2 rfl) ?_
  refine lv_iload_n hx hb dX8_slab_3 rfl (lv_at hl 3 rfl) ?_
  refine g_callS (As := [.int w, .int h, .int g]) (rest := [.ref h0]) (n := 3) S hE hI hA (c_X8_isNoPiece l K _ w h g) gX8_slab_X8_isNoPiece rfl (by decide +kernel) ⟨Nat.le_of_ble_eq_true rfl, Nat.le_of_ble_eq_true rfl⟩ rfl hl.1 rfl (Nat.le_of_ble_eq_true rfl) dX8_slab_4 ⟨Nat.le_of_ble_eq_true rfl, Nat.le_of_ble_eq_true rfl⟩ (fun E ce q9 Gx H1 locs1 hx9 => hx9.elim) (fun rv Gc_4 H locs hp hI => ?_)
  obtain ⟨rfl, hq9⟩ := hp
  rw [hq9] at hI
  rw [hp9]
  refine W.eq (g2 := F0 m 7 ls [.int (bI true), .ref h0]) rfl ?_
  refine lv_iconst (v := nI 1) hx hb dX8_slab_7 (by decide) ?_
  refine g_callV (As := [.int (bI true), .int (nI 1)]) (rest := []) (b := h0) (n := 2) S hE hI hA (c_start l K _ L h0 th y N true 1 hM (by decide)) gX8_slab_X8_start rfl (by decide +kernel) ⟨Nat.le_of_ble_eq_true rfl, Nat.le_of_ble_eq_true rfl⟩ (g_hro hE hI hM.1 rfl) rfl hl.1 rfl (Nat.le_of_ble_eq_true rfl) dX8_slab_8 ⟨Nat.le_of_ble_eq_true rfl, Nat.le_of_ble_eq_true rfl⟩ (fun E ce q9 Gx H1 locs1 hx9 => hx9.elim) (fun rv Gc_8 H locs hp hI => ?_)
  obtain ⟨rfl, hM, hg9⟩ := hp
  have hag := hag.tr hg9
  have hM : MdC K L h0 1 Gc_8 y N := hM
  obtain ⟨m1, ar1, hl1⟩ := hM.2.1.2.1.obj
  obtain ⟨m2, ar2, hl2⟩ := hM.2.1.2.2.1.obj
  refine W.eq (g2 := F0 m 11 ls [.int (bI true)]) rfl ?_
  refine lv_if_ne (tgt := 42) hx hb dX8_slab_11 (by decide) (fun c_11 => ?_) (fun c_11 => ?_)
  · skip
    have c_11 : true = true := bI_1.mp c_11
    refine lv_iconst (v := nI 0) hx hb dX8_slab_42 (by decide) ?_
    exact g_iret S hI hr hlocks (Nat.zero_le _) (Nat.zero_le _) dX8_slab_43 (mThrow ho (by decide) hM hag)
  · skip
    have c_11 : true = false := bI_0.mp c_11
    cases c_11
set_option maxHeartbeats 4000000 in
set_option maxRecDepth 100000 in
/-- X8_slab: slabB -/
theorem m_slabB (l : Launch) (K : gK) (G : gW) (L : Nat → Nat → Nat) (h0 th : Nat) (y : YV) (N : Nat) (w h g : Nat) (hM : MdC K L h0 th G y N) (hb9 : (1 ≤ w ∧ w ≤ 24) ∧ (1 ≤ h ∧ h ≤ 24) ∧ g ≤ 1) (hroom : ¬ ySc y < 40) : gM l yX8_slab wsX8_slab 8 171 3 69 K [.ref h0, .int (nI w), .int (nI h), .int (nI g)] G (mPost K h0 G (oSlab y (nI w) (nI h) (nI g))) (gNo) := by
  refine gM.of (cc := cX8_slab) (maxL := 4) (ret := (some .int)) (by decide) rfl (Nat.le_of_ble_eq_true rfl) ?_
  intro p e s m below meth c A S hr hlocks htab hname hE hA hI ls hl
  have hx := S.1
  have hb := S.2.1
  have hml := S.2.2.1
  have hl : lv_has ls 4 [(0, .ref h0), (1, .int (nI w)), (2, .int (nI h)), (3, .int (nI g))] := hl
  have h44 := hM.2.1.1.2.2.1
  have h6 := hM.2.1.1.2.2.2
  have hf2 := hM.2.1.1.2.1
  have h40 := hM.2.2.2
  have hth := hM.2.2.1
  have hag : AgM G G := AgM.rf
  have hp9 := inP_nI hb9
  obtain ⟨⟨b1, b2⟩, ⟨b3, b4⟩, b5⟩ := hb9
  obtain ⟨m1, ar1, hl1⟩ := hM.2.1.2.1.obj
  obtain ⟨m2, ar2, hl2⟩ := hM.2.1.2.2.1.obj
  have ho : oSlab y (nI w) (nI h) (nI g) = (2, 0, y) := by unfold oSlab; rw [if_pos hp9, if_neg hroom]
  obtain ⟨H, hHe⟩ : ∃ z, z = s.heap := ⟨_, rfl⟩
  obtain ⟨locs, hLe⟩ : ∃ z : List Loc, z = [] := ⟨_, rfl⟩
  rw [← hHe, ← hLe]
  have hI : gI K A s G H locs := by rw [hHe, hLe]; exact hI
  clear hHe hLe
  refine lv_aload_n hx hb dX8_slab_0 rfl (lv_at hl 0 rfl) ?_
  refine lv_iload_n hx hb dX8_slab_1 rfl (lv_at hl 1 rfl) ?_
  refine lv_iload_n hx hb dX8_slab_2 rfl (lv_at hl 2 rfl) ?_
  refine lv_iload_n hx hb dX8_slab_3 rfl (lv_at hl 3 rfl) ?_
  refine g_callS (As := [.int (nI w), .int (nI h), .int (nI g)]) (rest := [.ref h0]) (n := 3) S hE hI hA (c_X8_isNoPiece l K _ (nI w) (nI h) (nI g)) gX8_slab_X8_isNoPiece rfl (by decide +kernel) ⟨Nat.le_of_ble_eq_true rfl, Nat.le_of_ble_eq_true rfl⟩ rfl hl.1 rfl (Nat.le_of_ble_eq_true rfl) dX8_slab_4 ⟨Nat.le_of_ble_eq_true rfl, Nat.le_of_ble_eq_true rfl⟩ (fun E ce q9 Gx H1 locs1 hx9 => hx9.elim) (fun rv Gc_4 H locs hp hI => ?_)
  obtain ⟨rfl, hq9⟩ := hp
  rw [hq9] at hI
  rw [hp9]
  refine W.eq (g2 := F0 m 7 ls [.int (bI false), .ref h0]) rfl ?_
  refine lv_iconst (v := nI 1) hx hb dX8_slab_7 (by decide) ?_
  refine g_callV (As := [.int (bI false), .int (nI 1)]) (rest := []) (b := h0) (n := 2) S hE hI hA (c_start l K _ L h0 th y N false 1 hM (by decide)) gX8_slab_X8_start rfl (by decide +kernel) ⟨Nat.le_of_ble_eq_true rfl, Nat.le_of_ble_eq_true rfl⟩ (g_hro hE hI hM.1 rfl) rfl hl.1 rfl (Nat.le_of_ble_eq_true rfl) dX8_slab_8 ⟨Nat.le_of_ble_eq_true rfl, Nat.le_of_ble_eq_true rfl⟩ (fun E ce q9 Gx H1 locs1 hx9 => hx9.elim) (fun rv Gc_8 H locs hp hI => ?_)
  obtain ⟨rfl, hM, hg9⟩ := hp
  have hag := hag.tr hg9
  have hM : MdC K L h0 0 Gc_8 y N := hM
  obtain ⟨m1, ar1, hl1⟩ := hM.2.1.2.1.obj
  obtain ⟨m2, ar2, hl2⟩ := hM.2.1.2.2.1.obj
  refine W.eq (g2 := F0 m 11 ls [.int (bI false)]) rfl ?_
  refine lv_if_ne (tgt := 42) hx hb dX8_slab_11 (by decide) (fun c_11 => ?_) (fun c_11 => ?_)
  · skip
    have c_11 : false = true := bI_1.mp c_11
    cases c_11
  · skip
    have c_11 : false = false := bI_0.mp c_11
    refine lv_aload_n hx hb dX8_slab_14 rfl (lv_at hl 0 rfl) ?_
    refine lv_aload_n hx hb dX8_slab_15 rfl (lv_at hl 0 rfl) ?_
    refine g_get S hE hI (C := RX8) (T := TX8) (N := 2) (ref := "StonecutterYardModel") (fun w h => (List.mem_cons_of_mem _ (List.mem_append_left _ (List.mem_append_left _ (List.mem_append_left _ (List.mem_append_right _ h)))))) hM.1 rfl 1 (by decide) (List.mem_cons_of_mem _ (List.mem_append_left _ (List.mem_append_left _ (List.mem_append_left _ (List.mem_append_left _ (List.mem_append_left _ (List.mem_of_getElem? (i := 0) rfl))))))) (fun _ h9 => h9) (v := .ref (L 30 0)) rfl dX8_slab_16 ?_
    refine g_get S hE hI (C := RX7) (T := TX7) (N := 3) (ref := "StonecutterYardModel$Yard") (fun w h => (List.mem_cons_of_mem _ (List.mem_append_left _ (List.mem_append_left _ (List.mem_append_right _ h))))) hM.2.1.1.1 rfl 0 (by decide) (List.mem_cons_of_mem _ (List.mem_append_left _ (List.mem_append_left _ (List.mem_append_left _ (List.mem_append_left _ (List.mem_append_left _ (List.mem_of_getElem? (i := 1) rfl))))))) (fun _ h9 => h9) (v := .ref (L 31 0)) rfl dX8_slab_19 ?_
    refine g_callV (As := []) (rest := [.ref h0]) (b := (L 31 0)) (n := 0) S hE hI hA (l_size l K _ (5, 31, 0) (tbL 5 32) (L 31 0) (ySc y) (L 35) hM.2.1.2.1) gX8_slab_Jx4a65c_size_8abf5 rfl (by decide +kernel) ⟨Nat.le_of_ble_eq_true rfl, Nat.le_of_ble_eq_true rfl⟩ (g_hro hE hI hl1 rfl) rfl hl.1 rfl (Nat.le_of_ble_eq_true rfl) dX8_slab_22 ⟨Nat.le_of_ble_eq_true rfl, Nat.le_of_ble_eq_true rfl⟩ (fun E ce q9 Gx H1 locs1 hx9 => hx9.elim) (fun rv Gc_22 H locs hp hI => ?_)
    obtain ⟨rfl, hq9⟩ := hp
    rw [hq9] at hI
    refine W.eq (g2 := F0 m 25 ls [.int (nI (ySc y)), .ref h0]) rfl ?_
    refine lv_bipush (v := nI 40) hx hb dX8_slab_25 (by decide) ?_
    refine lv_icmp_ne (tgt := 34) hx hb dX8_slab_27 (by decide) (fun c_27 => ?_) (fun c_27 => ?_)
    · skip
      have c_27 : (ySc y) ≠ 40 := fun z => c_27 ((nI_eq (a := (ySc y)) (b := 40) (by omega) (by omega)).mpr z)
      exact absurd (show ySc y = 40 by omega) c_27
    · skip
      have c_27 : (ySc y) = 40 := (nI_eq (a := (ySc y)) (b := 40) (by omega) (by omega)).mp c_27
      refine lv_iconst (v := nI 1) hx hb dX8_slab_30 (by decide) ?_
      refine lv_goto (tgt := 35) hx hb dX8_slab_31 (by decide) ?_
      refine lv_iconst (v := nI 2) hx hb dX8_slab_35 (by decide) ?_
      refine g_callV (As := [.int (nI 1), .int (nI 2)]) (rest := []) (b := h0) (n := 2) S hE hI hA (c_ref l K _ L h0 y N true 2 hM (by decide)) gX8_slab_X8_refuse rfl (by decide +kernel) ⟨Nat.le_of_ble_eq_true rfl, Nat.le_of_ble_eq_true rfl⟩ (g_hro hE hI hM.1 rfl) rfl hl.1 rfl (Nat.le_of_ble_eq_true rfl) dX8_slab_36 ⟨Nat.le_of_ble_eq_true rfl, Nat.le_of_ble_eq_true rfl⟩ (fun E ce q9 Gx H1 locs1 hx9 => hx9.elim) (fun rv Gc_36 H locs hp hI => ?_)
      obtain ⟨rfl, hM, hg9⟩ := hp
      have hag := hag.tr hg9
      have hM : MdC K L h0 2 Gc_36 y N := hM
      obtain ⟨m1, ar1, hl1⟩ := hM.2.1.2.1.obj
      obtain ⟨m2, ar2, hl2⟩ := hM.2.1.2.2.1.obj
      refine W.eq (g2 := F0 m 39 ls [.int (bI true)]) rfl ?_
      refine lv_if_eq (tgt := 44) hx hb dX8_slab_39 (by decide) (fun c_39 => ?_) (fun c_39 => ?_)
      · skip
        have c_39 : true = false := bI_0.mp c_39
        cases c_39
      · skip
        have c_39 : true = true := bI_1.mp c_39
        refine lv_iconst (v := nI 0) hx hb dX8_slab_42 (by decide) ?_
        exact g_iret S hI hr hlocks (Nat.zero_le _) (Nat.zero_le _) dX8_slab_43 (mThrow ho (by decide) hM hag)
set_option maxHeartbeats 4000000 in
set_option maxRecDepth 100000 in
/-- X8_slab: slabC -/
theorem m_slabC (l : Launch) (K : gK) (G : gW) (L : Nat → Nat → Nat) (h0 th : Nat) (y : YV) (N : Nat) (w h g : Nat) (hM : MdC K L h0 th G y N) (hb9 : (1 ≤ w ∧ w ≤ 24) ∧ (1 ≤ h ∧ h ≤ 24) ∧ g ≤ 1) (hroom : ySc y < 40) : gM l yX8_slab wsX8_slab 8 171 3 69 K [.ref h0, .int (nI w), .int (nI h), .int (nI g)] G (mPost K h0 G (oSlab y (nI w) (nI h) (nI g))) (gNo) := by
  refine gM.of (cc := cX8_slab) (maxL := 4) (ret := (some .int)) (by decide) rfl (Nat.le_of_ble_eq_true rfl) ?_
  intro p e s m below meth c A S hr hlocks htab hname hE hA hI ls hl
  have hx := S.1
  have hb := S.2.1
  have hml := S.2.2.1
  have hl : lv_has ls 4 [(0, .ref h0), (1, .int (nI w)), (2, .int (nI h)), (3, .int (nI g))] := hl
  have h44 := hM.2.1.1.2.2.1
  have h6 := hM.2.1.1.2.2.2
  have hf2 := hM.2.1.1.2.1
  have h40 := hM.2.2.2
  have hth := hM.2.2.1
  have hag : AgM G G := AgM.rf
  have hp9 := inP_nI hb9
  obtain ⟨⟨b1, b2⟩, ⟨b3, b4⟩, b5⟩ := hb9
  obtain ⟨m1, ar1, hl1⟩ := hM.2.1.2.1.obj
  obtain ⟨m2, ar2, hl2⟩ := hM.2.1.2.2.1.obj
  have ho : oSlab y (nI w) (nI h) (nI g) = (0, nI (ySc y), yAddS y (w, h, g, -1, 0, [])) := by unfold oSlab; rw [if_pos hp9, if_pos hroom, iN_nI (by omega), iN_nI (by omega), iN_nI (by omega)]
  obtain ⟨H, hHe⟩ : ∃ z, z = s.heap := ⟨_, rfl⟩
  obtain ⟨locs, hLe⟩ : ∃ z : List Loc, z = [] := ⟨_, rfl⟩
  rw [← hHe, ← hLe]
  have hI : gI K A s G H locs := by rw [hHe, hLe]; exact hI
  clear hHe hLe
  refine lv_aload_n hx hb dX8_slab_0 rfl (lv_at hl 0 rfl) ?_
  refine lv_iload_n hx hb dX8_slab_1 rfl (lv_at hl 1 rfl) ?_
  refine lv_iload_n hx hb dX8_slab_2 rfl (lv_at hl 2 rfl) ?_
  refine lv_iload_n hx hb dX8_slab_3 rfl (lv_at hl 3 rfl) ?_
  refine g_callS (As := [.int (nI w), .int (nI h), .int (nI g)]) (rest := [.ref h0]) (n := 3) S hE hI hA (c_X8_isNoPiece l K _ (nI w) (nI h) (nI g)) gX8_slab_X8_isNoPiece rfl (by decide +kernel) ⟨Nat.le_of_ble_eq_true rfl, Nat.le_of_ble_eq_true rfl⟩ rfl hl.1 rfl (Nat.le_of_ble_eq_true rfl) dX8_slab_4 ⟨Nat.le_of_ble_eq_true rfl, Nat.le_of_ble_eq_true rfl⟩ (fun E ce q9 Gx H1 locs1 hx9 => hx9.elim) (fun rv Gc_4 H locs hp hI => ?_)
  obtain ⟨rfl, hq9⟩ := hp
  rw [hq9] at hI
  rw [hp9]
  refine W.eq (g2 := F0 m 7 ls [.int (bI false), .ref h0]) rfl ?_
  refine lv_iconst (v := nI 1) hx hb dX8_slab_7 (by decide) ?_
  refine g_callV (As := [.int (bI false), .int (nI 1)]) (rest := []) (b := h0) (n := 2) S hE hI hA (c_start l K _ L h0 th y N false 1 hM (by decide)) gX8_slab_X8_start rfl (by decide +kernel) ⟨Nat.le_of_ble_eq_true rfl, Nat.le_of_ble_eq_true rfl⟩ (g_hro hE hI hM.1 rfl) rfl hl.1 rfl (Nat.le_of_ble_eq_true rfl) dX8_slab_8 ⟨Nat.le_of_ble_eq_true rfl, Nat.le_of_ble_eq_true rfl⟩ (fun E ce q9 Gx H1 locs1 hx9 => hx9.elim) (fun rv Gc_8 H locs hp hI => ?_)
  obtain ⟨rfl, hM, hg9⟩ := hp
  have hag := hag.tr hg9
  have hM : MdC K L h0 0 Gc_8 y N := hM
  obtain ⟨m1, ar1, hl1⟩ := hM.2.1.2.1.obj
  obtain ⟨m2, ar2, hl2⟩ := hM.2.1.2.2.1.obj
  refine W.eq (g2 := F0 m 11 ls [.int (bI false)]) rfl ?_
  refine lv_if_ne (tgt := 42) hx hb dX8_slab_11 (by decide) (fun c_11 => ?_) (fun c_11 => ?_)
  · skip
    have c_11 : false = true := bI_1.mp c_11
    cases c_11
  · skip
    have c_11 : false = false := bI_0.mp c_11
    refine lv_aload_n hx hb dX8_slab_14 rfl (lv_at hl 0 rfl) ?_
    refine lv_aload_n hx hb dX8_slab_15 rfl (lv_at hl 0 rfl) ?_
    refine g_get S hE hI (C := RX8) (T := TX8) (N := 2) (ref := "StonecutterYardModel") (fun w h => (List.mem_cons_of_mem _ (List.mem_append_left _ (List.mem_append_left _ (List.mem_append_left _ (List.mem_append_right _ h)))))) hM.1 rfl 1 (by decide) (List.mem_cons_of_mem _ (List.mem_append_left _ (List.mem_append_left _ (List.mem_append_left _ (List.mem_append_left _ (List.mem_append_left _ (List.mem_of_getElem? (i := 0) rfl))))))) (fun _ h9 => h9) (v := .ref (L 30 0)) rfl dX8_slab_16 ?_
    refine g_get S hE hI (C := RX7) (T := TX7) (N := 3) (ref := "StonecutterYardModel$Yard") (fun w h => (List.mem_cons_of_mem _ (List.mem_append_left _ (List.mem_append_left _ (List.mem_append_right _ h))))) hM.2.1.1.1 rfl 0 (by decide) (List.mem_cons_of_mem _ (List.mem_append_left _ (List.mem_append_left _ (List.mem_append_left _ (List.mem_append_left _ (List.mem_append_left _ (List.mem_of_getElem? (i := 1) rfl))))))) (fun _ h9 => h9) (v := .ref (L 31 0)) rfl dX8_slab_19 ?_
    refine g_callV (As := []) (rest := [.ref h0]) (b := (L 31 0)) (n := 0) S hE hI hA (l_size l K _ (5, 31, 0) (tbL 5 32) (L 31 0) (ySc y) (L 35) hM.2.1.2.1) gX8_slab_Jx4a65c_size_8abf5 rfl (by decide +kernel) ⟨Nat.le_of_ble_eq_true rfl, Nat.le_of_ble_eq_true rfl⟩ (g_hro hE hI hl1 rfl) rfl hl.1 rfl (Nat.le_of_ble_eq_true rfl) dX8_slab_22 ⟨Nat.le_of_ble_eq_true rfl, Nat.le_of_ble_eq_true rfl⟩ (fun E ce q9 Gx H1 locs1 hx9 => hx9.elim) (fun rv Gc_22 H locs hp hI => ?_)
    obtain ⟨rfl, hq9⟩ := hp
    rw [hq9] at hI
    refine W.eq (g2 := F0 m 25 ls [.int (nI (ySc y)), .ref h0]) rfl ?_
    refine lv_bipush (v := nI 40) hx hb dX8_slab_25 (by decide) ?_
    refine lv_icmp_ne (tgt := 34) hx hb dX8_slab_27 (by decide) (fun c_27 => ?_) (fun c_27 => ?_)
    · skip
      have c_27 : (ySc y) ≠ 40 := fun z => c_27 ((nI_eq (a := (ySc y)) (b := 40) (by omega) (by omega)).mpr z)
      refine lv_iconst (v := nI 0) hx hb dX8_slab_34 (by decide) ?_
      refine lv_iconst (v := nI 2) hx hb dX8_slab_35 (by decide) ?_
      refine g_callV (As := [.int (nI 0), .int (nI 2)]) (rest := []) (b := h0) (n := 2) S hE hI hA (c_ref l K _ L h0 y N false 2 hM (by decide)) gX8_slab_X8_refuse rfl (by decide +kernel) ⟨Nat.le_of_ble_eq_true rfl, Nat.le_of_ble_eq_true rfl⟩ (g_hro hE hI hM.1 rfl) rfl hl.1 rfl (Nat.le_of_ble_eq_true rfl) dX8_slab_36 ⟨Nat.le_of_ble_eq_true rfl, Nat.le_of_ble_eq_true rfl⟩ (fun E ce q9 Gx H1 locs1 hx9 => hx9.elim) (fun rv Gc_36 H locs hp hI => ?_)
      obtain ⟨rfl, hM, hg9⟩ := hp
      have hag := hag.tr hg9
      have hM : MdC K L h0 0 Gc_36 y N := hM
      obtain ⟨m1, ar1, hl1⟩ := hM.2.1.2.1.obj
      obtain ⟨m2, ar2, hl2⟩ := hM.2.1.2.2.1.obj
      refine W.eq (g2 := F0 m 39 ls [.int (bI false)]) rfl ?_
      refine lv_if_eq (tgt := 44) hx hb dX8_slab_39 (by decide) (fun c_39 => ?_) (fun c_39 => ?_)
      · skip
        have c_39 : false = false := bI_0.mp c_39
        refine lv_aload_n hx hb dX8_slab_44 rfl (lv_at hl 0 rfl) ?_
        refine g_get S hE hI (C := RX8) (T := TX8) (N := 2) (ref := "StonecutterYardModel") (fun w h => (List.mem_cons_of_mem _ (List.mem_append_left _ (List.mem_append_left _ (List.mem_append_left _ (List.mem_append_right _ h)))))) hM.1 rfl 1 (by decide) (List.mem_cons_of_mem _ (List.mem_append_left _ (List.mem_append_left _ (List.mem_append_left _ (List.mem_append_left _ (List.mem_append_left _ (List.mem_of_getElem? (i := 0) rfl))))))) (fun _ h9 => h9) (v := .ref (L 30 0)) rfl dX8_slab_45 ?_
        refine g_get S hE hI (C := RX7) (T := TX7) (N := 3) (ref := "StonecutterYardModel$Yard") (fun w h => (List.mem_cons_of_mem _ (List.mem_append_left _ (List.mem_append_left _ (List.mem_append_right _ h))))) hM.2.1.1.1 rfl 0 (by decide) (List.mem_cons_of_mem _ (List.mem_append_left _ (List.mem_append_left _ (List.mem_append_left _ (List.mem_append_left _ (List.mem_append_left _ (List.mem_of_getElem? (i := 1) rfl))))))) (fun _ h9 => h9) (v := .ref (L 31 0)) rfl dX8_slab_48 ?_
        refine g_new S hE hI hA (C := RX6) (T := TX6) (N := 6) (ci := 7) (fun w h => (List.mem_cons_of_mem _ (List.mem_append_left _ (List.mem_append_right _ h)))) tyX6 tyX6_ok (List.mem_cons_of_mem _ (List.mem_append_left _ (List.mem_append_left _ (List.mem_append_left _ (List.mem_append_left _ (List.mem_append_left _ (List.mem_of_getElem? (i := 2) rfl))))))) (List.mem_cons_of_mem _ (List.mem_append_left _ (List.mem_append_left _ (List.mem_append_left _ (List.mem_append_left _ (List.mem_append_left _ (List.mem_of_getElem? (i := 3) rfl))))))) (List.mem_cons_of_mem _ (List.mem_append_left _ (List.mem_append_left _ (List.mem_append_left _ (List.mem_append_left _ (List.mem_append_left _ (List.mem_of_getElem? (i := 4) rfl))))))) rfl (fs := [.int (nI 0), .int (nI 0), .int (nI 0), .int (nI 0), .null, .int (nI 0)]) (fun j hj => by rcases (show j = 0 ∨ j = 1 ∨ j = 2 ∨ j = 3 ∨ j = 4 ∨ j = 5 by omega) with rfl | rfl | rfl | rfl | rfl | rfl <;> rfl) (5, 35, ySc y) (by show _ ≤ 3; omega) (by show _ ≤ 69; omega) dX8_slab_51 (fun q_51 H hq_51 hI => ?_)
        obtain ⟨G_1, hG_1⟩ : ∃ z, z = gset Gc_36 (5, 35, ySc y) q_51 (.inr (7, [.int (nI 0), .int (nI 0), .int (nI 0), .int (nI 0), .null, .int (nI 0)])) := ⟨_, rfl⟩
        have hI : gI K A s G_1 H locs := by rw [hG_1]; exact hI
        have o_G_1 : G_1 (9, 0, 0) = some (h0, .inr (9, [.int (nI 0), .ref (L 30 0)])) := by rw [hG_1, gset_ne (by simp)]; exact hM.1
        have yd_G_1 : G_1 (5, 30, 0) = some ((L 30 0), .inr (8, [.ref (L 31 0), .ref (L 33 0), .int (nI (yF y))])) := by rw [hG_1, gset_ne (by simp)]; exact hM.2.1.1.1
        have ls_G_1 : G_1 (5, 31, 0) = some ((L 31 0), .inr (0, [.int m1, .ref ar1, .int (nI (ySc y))])) := by rw [hG_1, gset_ne (by simp)]; exact hl1
        have lk_G_1 : G_1 (5, 33, 0) = some ((L 33 0), .inr (0, [.int m2, .ref ar2, .int (nI (yKc y))])) := by rw [hG_1, gset_ne (by simp)]; exact hl2
        have v6_G_1 : G_1 (5, 35, ySc y) = some (q_51, .inr (7, [.int (nI 0), .int (nI 0), .int (nI 0), .int (nI 0), .null, .int (nI 0)])) := by rw [hG_1]; exact gset_eq _ _ _ _
        refine lv_dup hx hb dX8_slab_54 rfl ?_
        refine lv_iload_n hx hb dX8_slab_55 rfl (lv_at hl 1 rfl) ?_
        refine lv_iload_n hx hb dX8_slab_56 rfl (lv_at hl 2 rfl) ?_
        refine lv_iload_n hx hb dX8_slab_57 rfl (lv_at hl 3 rfl) ?_
        refine lv_iconst (v := (-1)) hx hb dX8_slab_58 (by decide) ?_
        refine g_callI (As := [.int (nI w), .int (nI h), .int (nI g), .int (-1)]) (rest := [.ref q_51, .ref (L 31 0)]) (b := q_51) (n := 4) S hE hI hA (c_X6_init l K _ (5, 35, ySc y) (5, 36, ySc y) q_51 w h g (-1) v6_G_1 (by simp)) gX8_slab_X6_init rfl (List.mem_cons_of_mem _ (List.mem_append_left _ (List.mem_append_left _ (List.mem_append_left _ (List.mem_append_left _ (List.mem_append_left _ (List.mem_of_getElem? (i := 4) rfl))))))) (List.mem_cons_of_mem _ (List.mem_append_left _ (List.mem_append_left _ (List.mem_append_left _ (List.mem_append_left _ (List.mem_append_right _ (List.mem_append_left _ (List.mem_of_getElem? (i := 3) rfl)))))))) (List.mem_cons_of_mem _ (List.mem_append_left _ (List.mem_append_left _ (List.mem_append_left _ (List.mem_append_left _ (List.mem_append_right _ (List.mem_append_left _ (List.mem_of_getElem? (i := 4) rfl)))))))) rfl (by decide +kernel) ⟨Nat.le_of_ble_eq_true rfl, Nat.le_of_ble_eq_true rfl⟩ rfl hl.1 rfl (Nat.le_of_ble_eq_true rfl) dX8_slab_59 ⟨by show _ ≤ 3; omega, by show _ ≤ 69; omega⟩ (fun E ce q9 Gx H1 locs1 hx9 => hx9.elim) (fun rv Gc_59 H locs hp hI => ?_)
        obtain ⟨rfl, pl, hGc59⟩ := hp
        have hw : ∀ v : gTag, v ≠ (5, 35, ySc y) → v ≠ (5, 36, ySc y) → Gc_59 v = Gc_36 v := fun v h1 h2 => by rw [hGc59, gset_ne h1, gset_ne h2, hG_1, gset_ne h1]
        have hq6 : Gc_59 (5, 35, ySc y) = some (q_51, cMS (w, h, g, -1, 0, []) pl) := by rw [hGc59]; exact gset_eq _ _ _ _
        have hl6 : Gc_59 (5, 36, ySc y) = some (pl, cL (nI 0) K.2.2.1 0) := by rw [hGc59, gset_ne (by simp)]; exact gset_eq _ _ _ _
        have hALw : ALg K (5, 31, 0) (tbL 5 32) Gc_59 (L 31 0) (ySc y) (L 35) := hM.2.1.2.1.moved (hw _ (by simp) (by simp)) (fun b => hw _ (by unfold tbL; simp) (by unfold tbL; simp))
        have hls59 := (hw (5, 31, 0) (by simp) (by simp)).trans hl1
        refine W.eq (g2 := F0 m 62 ls [.ref q_51, .ref (L 31 0)]) rfl ?_
        refine g_callV (As := [.ref q_51]) (rest := []) (b := (L 31 0)) (n := 1) S hE hI hA (l_add l K _ (5, 31, 0) (tbL 5 32) (L 31 0) (ySc y) (L 35) "StonecutterYardModel$Slab" q_51 (5, 35, ySc y) _ hALw (apL1 5) (by omega) hq6 isC_S (by simp) (ne35L (by decide)) (fun j hj => ⟨(5, 35, j), _, by simp, ne35L (by decide), (hw _ (by simp; omega) (by simp)).trans (hM.2.1.2.2.2.1 j hj).1, isC_S⟩)) gX8_slab_Jx4a65c_add_9ea2d rfl (by decide +kernel) ⟨Nat.le_of_ble_eq_true rfl, Nat.le_of_ble_eq_true rfl⟩ (g_hro hE hI hls59 rfl) rfl hl.1 rfl (Nat.le_of_ble_eq_true rfl) dX8_slab_62 ⟨by show _ ≤ 3; omega, by show _ ≤ 69; omega⟩ (fun E ce q9 Gx H1 locs1 hx9 => hx9.elim) (fun rv Gc_62 H locs hp hI => ?_)
        obtain ⟨rfl, hALa, hoa⟩ := hp
        obtain ⟨mA, arA, hls9⟩ := hALa.obj
        have ho9 := (hoa (9, 0, 0) (by simp) (fun b => by unfold tbL; simp)).trans ((hw _ (by simp) (by simp)).trans hM.1)
        have hy9 := (hoa (5, 30, 0) (by simp) (fun b => by unfold tbL; simp)).trans ((hw _ (by simp) (by simp)).trans hM.2.1.1.1)
        refine W.eq (g2 := F0 m 65 ls [.int (nI 1)]) rfl ?_
        refine lv_pop hx hb dX8_slab_65 rfl ?_
        refine lv_aload_n hx hb dX8_slab_66 rfl (lv_at hl 0 rfl) ?_
        refine g_get S hE hI (C := RX8) (T := TX8) (N := 2) (ref := "StonecutterYardModel") (fun w h => (List.mem_cons_of_mem _ (List.mem_append_left _ (List.mem_append_left _ (List.mem_append_left _ (List.mem_append_right _ h)))))) ho9 rfl 1 (by decide) (List.mem_cons_of_mem _ (List.mem_append_left _ (List.mem_append_left _ (List.mem_append_left _ (List.mem_append_left _ (List.mem_append_left _ (List.mem_of_getElem? (i := 0) rfl))))))) (fun _ h9 => h9) (v := .ref (L 30 0)) rfl dX8_slab_67 ?_
        refine g_get S hE hI (C := RX7) (T := TX7) (N := 3) (ref := "StonecutterYardModel$Yard") (fun w h => (List.mem_cons_of_mem _ (List.mem_append_left _ (List.mem_append_left _ (List.mem_append_right _ h))))) hy9 rfl 0 (by decide) (List.mem_cons_of_mem _ (List.mem_append_left _ (List.mem_append_left _ (List.mem_append_left _ (List.mem_append_left _ (List.mem_append_left _ (List.mem_of_getElem? (i := 1) rfl))))))) (fun _ h9 => h9) (v := .ref (L 31 0)) rfl dX8_slab_70 ?_
        refine g_callV (As := []) (rest := []) (b := (L 31 0)) (n := 0) S hE hI hA (l_size l K _ (5, 31, 0) (tbL 5 32) (L 31 0) (ySc y + 1) (fU (L 35) (ySc y) q_51) hALa) gX8_slab_Jx4a65c_size_8abf5 rfl (by decide +kernel) ⟨Nat.le_of_ble_eq_true rfl, Nat.le_of_ble_eq_true rfl⟩ (g_hro hE hI hls9 rfl) rfl hl.1 rfl (Nat.le_of_ble_eq_true rfl) dX8_slab_73 ⟨by show _ ≤ 3; omega, by show _ ≤ 69; omega⟩ (fun E ce q9 Gx H1 locs1 hx9 => hx9.elim) (fun rv Gc_73 H locs hp hI => ?_)
        obtain ⟨rfl, hq9⟩ := hp
        rw [hq9] at hI
        refine W.eq (g2 := F0 m 76 ls [.int (nI (ySc y + 1))]) rfl ?_
        refine lv_iconst (v := nI 1) hx hb dX8_slab_76 (by decide) ?_
        refine t_isub hx hb dX8_slab_77 (v := nI (ySc y)) (pk_sub (a := ySc y + 1) (b := 1) (by omega)) ?_
        obtain ⟨L2, hL2⟩ : ∃ z : Nat → Nat → Nat, z = (fun a b => if a = 35 ∧ b = ySc y then q_51 else if a = 36 ∧ b = ySc y then pl else L a b) := ⟨_, rfl⟩
        have hl30 : L2 30 0 = L 30 0 := by rw [hL2]; simp
        have hMY : MY K 5 L2 Gc_62 (yAddS y (w, h, g, -1, 0, [])) N := MY.addS hM.2.1 (by decide) (by omega) ⟨b1, b2, b3, b4, b5, Nat.zero_le _, Nat.zero_le _, fun q hq => (by cases hq)⟩ rfl hL2 (fun v c1 c2 c3 c4 => (hoa v c1 c2).trans (hw v c3 c4)) hALa ((hoa _ (by simp) (ne35L (by decide))).trans hq6) ((hoa _ (by simp) (fun b => by unfold tbL; simp)).trans hl6)
        exact g_iret S hI hr hlocks (by omega) (by omega) dX8_slab_78 (mOk ho ⟨by rw [hl30]; exact ho9, hMY, by decide, by show ySc y + 1 ≤ 40; omega⟩ (hag.tr (fun t ht => (hoa t (fun z9 => (agOff ht).1 (by rw [z9])) (fun b z9 => (agOff ht).1 (by rw [z9]; rfl))).trans (hw t (fun z9 => (agOff ht).1 (by rw [z9])) (fun z9 => (agOff ht).1 (by rw [z9]))))))
      · skip
        have c_39 : false = true := bI_1.mp c_39
        cases c_39
    · skip
      have c_27 : (ySc y) = 40 := (nI_eq (a := (ySc y)) (b := 40) (by omega) (by omega)).mp c_27
      exact absurd c_27 (by omega)
set_option maxHeartbeats 4000000 in
set_option maxRecDepth 100000 in
/-- X8_flaw: flawA -/
theorem m_flawA (l : Launch) (K : gK) (G : gW) (L : Nat → Nat → Nat) (h0 th : Nat) (y : YV) (N : Nat) (x px py : Int32) (hM : MdC K L h0 th G y N) (hxn : ∀ q, q < ySc y → x ≠ nI q) (hr9 : inR x (ySc y) = false) : gM l yX8_flaw wsX8_flaw 8 171 2 12 K [.ref h0, .int x, .int px, .int py] G (mPost K h0 G (oFlaw y x px py)) (gNo) := by
  refine gM.of (cc := cX8_flaw) (maxL := 4) (ret := (some .int)) (by decide) rfl (Nat.le_of_ble_eq_true rfl) ?_
  intro p e s m below meth c A S hr hlocks htab hname hE hA hI ls hl
  have hx := S.1
  have hb := S.2.1
  have hml := S.2.2.1
  have hl : lv_has ls 4 [(0, .ref h0), (1, .int x), (2, .int px), (3, .int py)] := hl
  have h44 := hM.2.1.1.2.2.1
  have h6 := hM.2.1.1.2.2.2
  have hf2 := hM.2.1.1.2.1
  have h40 := hM.2.2.2
  have hth := hM.2.2.1
  have hag : AgM G G := AgM.rf
  obtain ⟨m1, ar1, hl1⟩ := hM.2.1.2.1.obj
  obtain ⟨m2, ar2, hl2⟩ := hM.2.1.2.2.1.obj
  have ho : oFlaw y x px py = (1, 0, y) := by unfold oFlaw; rw [if_neg (by rw [hr9]; decide)]
  obtain ⟨H, hHe⟩ : ∃ z, z = s.heap := ⟨_, rfl⟩
  obtain ⟨locs, hLe⟩ : ∃ z : List Loc, z = [] := ⟨_, rfl⟩
  rw [← hHe, ← hLe]
  have hI : gI K A s G H locs := by rw [hHe, hLe]; exact hI
  clear hHe hLe
  refine lv_aload_n hx hb dX8_flaw_0 rfl (lv_at hl 0 rfl) ?_
  refine lv_iload_n hx hb dX8_flaw_1 rfl (lv_at hl 1 rfl) ?_
  refine lv_iload_n hx hb dX8_flaw_2 rfl (lv_at hl 2 rfl) ?_
  refine lv_iload_n hx hb dX8_flaw_3 rfl (lv_at hl 3 rfl) ?_
  refine g_callV (As := [.int x, .int px, .int py]) (rest := []) (b := h0) (n := 3) S hE hI hA (c_npA l K _ L h0 th y N x px py hM hr9) gX8_flaw_X8_isNoPoint rfl (by decide +kernel) ⟨Nat.le_of_ble_eq_true rfl, Nat.le_of_ble_eq_true rfl⟩ (g_hro hE hI hM.1 rfl) rfl hl.1 rfl (Nat.le_of_ble_eq_true rfl) dX8_flaw_4 ⟨Nat.le_of_ble_eq_true rfl, Nat.le_of_ble_eq_true rfl⟩ (fun E ce q9 Gx H1 locs1 hx9 => hx9.elim) (fun rv Gc_4 H locs hp hI => ?_)
  obtain ⟨rfl, hM, hg9⟩ := hp
  have hag := hag.tr hg9
  have hM : MdC K L h0 1 Gc_4 y N := hM
  obtain ⟨m1, ar1, hl1⟩ := hM.2.1.2.1.obj
  obtain ⟨m2, ar2, hl2⟩ := hM.2.1.2.2.1.obj
  refine W.eq (g2 := F0 m 7 ls [.int (bI true)]) rfl ?_
  refine lv_if_ne (tgt := 50) hx hb dX8_flaw_7 (by decide) (fun c_7 => ?_) (fun c_7 => ?_)
  · skip
    have c_7 : true = true := bI_1.mp c_7
    refine lv_iconst (v := nI 0) hx hb dX8_flaw_50 (by decide) ?_
    exact g_iret S hI hr hlocks (Nat.zero_le _) (Nat.zero_le _) dX8_flaw_51 (mThrow ho (by decide) hM hag)
  · skip
    have c_7 : true = false := bI_0.mp c_7
    cases c_7
set_option maxHeartbeats 4000000 in
set_option maxRecDepth 100000 in
/-- X8_flaw: flawB -/
theorem m_flawB (l : Launch) (K : gK) (G : gW) (L : Nat → Nat → Nat) (h0 th : Nat) (y : YV) (N : Nat) (i : Nat) (px py : Int32) (hM : MdC K L h0 th G y N) (hi : i < ySc y) (hpt9 : inPt (yS y i) px py = false) : gM l yX8_flaw wsX8_flaw 8 171 2 12 K [.ref h0, .int (nI i), .int px, .int py] G (mPost K h0 G (oFlaw y (nI i) px py)) (gNo) := by
  refine gM.of (cc := cX8_flaw) (maxL := 4) (ret := (some .int)) (by decide) rfl (Nat.le_of_ble_eq_true rfl) ?_
  intro p e s m below meth c A S hr hlocks htab hname hE hA hI ls hl
  have hx := S.1
  have hb := S.2.1
  have hml := S.2.2.1
  have hl : lv_has ls 4 [(0, .ref h0), (1, .int (nI i)), (2, .int px), (3, .int py)] := hl
  have h44 := hM.2.1.1.2.2.1
  have h6 := hM.2.1.1.2.2.2
  have hf2 := hM.2.1.1.2.1
  have h40 := hM.2.2.2
  have hth := hM.2.2.1
  have hag : AgM G G := AgM.rf
  have hri : inR (nI i) (ySc y) = true := inR_nI hi (by omega)
  have hiN : iN (nI i) = i := iN_nI (by omega)
  obtain ⟨m1, ar1, hl1⟩ := hM.2.1.2.1.obj
  obtain ⟨m2, ar2, hl2⟩ := hM.2.1.2.2.1.obj
  obtain ⟨hsl, hfl, hsok⟩ := hM.2.1.2.2.2.1 i hi
  obtain ⟨s1, s2, s3, s4, s5, s6, s7, s8⟩ := id hsok
  have ho : oFlaw y (nI i) px py = (1, 0, y) := by unfold oFlaw; rw [if_pos hri, hiN, if_neg (by rw [hpt9]; decide)]
  obtain ⟨H, hHe⟩ : ∃ z, z = s.heap := ⟨_, rfl⟩
  obtain ⟨locs, hLe⟩ : ∃ z : List Loc, z = [] := ⟨_, rfl⟩
  rw [← hHe, ← hLe]
  have hI : gI K A s G H locs := by rw [hHe, hLe]; exact hI
  clear hHe hLe
  refine lv_aload_n hx hb dX8_flaw_0 rfl (lv_at hl 0 rfl) ?_
  refine lv_iload_n hx hb dX8_flaw_1 rfl (lv_at hl 1 rfl) ?_
  refine lv_iload_n hx hb dX8_flaw_2 rfl (lv_at hl 2 rfl) ?_
  refine lv_iload_n hx hb dX8_flaw_3 rfl (lv_at hl 3 rfl) ?_
  refine g_callV (As := [.int (nI i), .int px, .int py]) (rest := []) (b := h0) (n := 3) S hE hI hA (c_npB l K _ L h0 th y N i px py hM hi hpt9) gX8_flaw_X8_isNoPoint rfl (by decide +kernel) ⟨Nat.le_of_ble_eq_true rfl, Nat.le_of_ble_eq_true rfl⟩ (g_hro hE hI hM.1 rfl) rfl hl.1 rfl (Nat.le_of_ble_eq_true rfl) dX8_flaw_4 ⟨Nat.le_of_ble_eq_true rfl, Nat.le_of_ble_eq_true rfl⟩ (fun E ce q9 Gx H1 locs1 hx9 => hx9.elim) (fun rv Gc_4 H locs hp hI => ?_)
  obtain ⟨rfl, hM, hg9⟩ := hp
  have hag := hag.tr hg9
  have hM : MdC K L h0 1 Gc_4 y N := hM
  obtain ⟨m1, ar1, hl1⟩ := hM.2.1.2.1.obj
  obtain ⟨m2, ar2, hl2⟩ := hM.2.1.2.2.1.obj
  obtain ⟨hsl, hfl, hsok⟩ := hM.2.1.2.2.2.1 i hi
  obtain ⟨s1, s2, s3, s4, s5, s6, s7, s8⟩ := id hsok
  refine W.eq (g2 := F0 m 7 ls [.int (bI true)]) rfl ?_
  refine lv_if_ne (tgt := 50) hx hb dX8_flaw_7 (by decide) (fun c_7 => ?_) (fun c_7 => ?_)
  · skip
    have c_7 : true = true := bI_1.mp c_7
    refine lv_iconst (v := nI 0) hx hb dX8_flaw_50 (by decide) ?_
    exact g_iret S hI hr hlocks (Nat.zero_le _) (Nat.zero_le _) dX8_flaw_51 (mThrow ho (by decide) hM hag)
  · skip
    have c_7 : true = false := bI_0.mp c_7
    cases c_7
set_option maxHeartbeats 4000000 in
set_option maxRecDepth 100000 in
/-- X8_flaw: flawC -/
theorem m_flawC (l : Launch) (K : gK) (G : gW) (L : Nat → Nat → Nat) (h0 th : Nat) (y : YV) (N : Nat) (i a b : Nat) (hM : MdC K L h0 th G y N) (hi : i < ySc y) (hab : a < sW (yS y i) ∧ b < sH (yS y i)) (hcond : ¬ (sT (yS y i) = 0 ∧ (sL (yS y i)).length < 6)) : gM l yX8_flaw wsX8_flaw 8 171 2 12 K [.ref h0, .int (nI i), .int (nI a), .int (nI b)] G (mPost K h0 G (oFlaw y (nI i) (nI a) (nI b))) (gNo) := by
  refine gM.of (cc := cX8_flaw) (maxL := 4) (ret := (some .int)) (by decide) rfl (Nat.le_of_ble_eq_true rfl) ?_
  intro p e s m below meth c A S hr hlocks htab hname hE hA hI ls hl
  have hx := S.1
  have hb := S.2.1
  have hml := S.2.2.1
  have hl : lv_has ls 4 [(0, .ref h0), (1, .int (nI i)), (2, .int (nI a)), (3, .int (nI b))] := hl
  have h44 := hM.2.1.1.2.2.1
  have h6 := hM.2.1.1.2.2.2
  have hf2 := hM.2.1.1.2.1
  have h40 := hM.2.2.2
  have hth := hM.2.2.1
  have hag : AgM G G := AgM.rf
  have hri : inR (nI i) (ySc y) = true := inR_nI hi (by omega)
  have hiN : iN (nI i) = i := iN_nI (by omega)
  obtain ⟨m1, ar1, hl1⟩ := hM.2.1.2.1.obj
  obtain ⟨m2, ar2, hl2⟩ := hM.2.1.2.2.1.obj
  obtain ⟨hsl, hfl, hsok⟩ := hM.2.1.2.2.2.1 i hi
  obtain ⟨s1, s2, s3, s4, s5, s6, s7, s8⟩ := id hsok
  obtain ⟨e1, e2, F9, g9, hAL, hF⟩ := id hfl
  obtain ⟨mf, arf, hlf⟩ := hAL.obj
  have hpt9 := inPt_nI hsok hab.1 hab.2
  have haN : iN (nI a) = a := iN_nI (by omega)
  have hbN : iN (nI b) = b := iN_nI (by omega)
  have ho : oFlaw y (nI i) (nI a) (nI b) = (2, 0, y) := by unfold oFlaw; rw [if_pos hri, hiN, if_pos hpt9, if_neg hcond]
  obtain ⟨H, hHe⟩ : ∃ z, z = s.heap := ⟨_, rfl⟩
  obtain ⟨locs, hLe⟩ : ∃ z : List Loc, z = [] := ⟨_, rfl⟩
  rw [← hHe, ← hLe]
  have hI : gI K A s G H locs := by rw [hHe, hLe]; exact hI
  clear hHe hLe
  refine lv_aload_n hx hb dX8_flaw_0 rfl (lv_at hl 0 rfl) ?_
  refine lv_iload_n hx hb dX8_flaw_1 rfl (lv_at hl 1 rfl) ?_
  refine lv_iload_n hx hb dX8_flaw_2 rfl (lv_at hl 2 rfl) ?_
  refine lv_iload_n hx hb dX8_flaw_3 rfl (lv_at hl 3 rfl) ?_
  refine g_callV (As := [.int (nI i), .int (nI a), .int (nI b)]) (rest := []) (b := h0) (n := 3) S hE hI hA (c_npC l K _ L h0 th y N i a b hM hi hab) gX8_flaw_X8_isNoPoint rfl (by decide +kernel) ⟨Nat.le_of_ble_eq_true rfl, Nat.le_of_ble_eq_true rfl⟩ (g_hro hE hI hM.1 rfl) rfl hl.1 rfl (Nat.le_of_ble_eq_true rfl) dX8_flaw_4 ⟨Nat.le_of_ble_eq_true rfl, Nat.le_of_ble_eq_true rfl⟩ (fun E ce q9 Gx H1 locs1 hx9 => hx9.elim) (fun rv Gc_4 H locs hp hI => ?_)
  obtain ⟨rfl, hM, hg9⟩ := hp
  have hag := hag.tr hg9
  have hM : MdC K L h0 0 Gc_4 y N := hM
  obtain ⟨m1, ar1, hl1⟩ := hM.2.1.2.1.obj
  obtain ⟨m2, ar2, hl2⟩ := hM.2.1.2.2.1.obj
  obtain ⟨hsl, hfl, hsok⟩ := hM.2.1.2.2.2.1 i hi
  obtain ⟨s1, s2, s3, s4, s5, s6, s7, s8⟩ := id hsok
  obtain ⟨e1, e2, F9, g9, hAL, hF⟩ := id hfl
  obtain ⟨mf, arf, hlf⟩ := hAL.obj
  refine W.eq (g2 := F0 m 7 ls [.int (bI false)]) rfl ?_
  refine lv_if_ne (tgt := 50) hx hb dX8_flaw_7 (by decide) (fun c_7 => ?_) (fun c_7 => ?_)
  · skip
    have c_7 : false = true := bI_1.mp c_7
    cases c_7
  · skip
    have c_7 : false = false := bI_0.mp c_7
    refine lv_aload_n hx hb dX8_flaw_10 rfl (lv_at hl 0 rfl) ?_
    refine lv_aload_n hx hb dX8_flaw_11 rfl (lv_at hl 0 rfl) ?_
    refine lv_iload_n hx hb dX8_flaw_12 rfl (lv_at hl 1 rfl) ?_
    refine g_callV (As := [.int (nI i)]) (rest := [.ref h0]) (b := h0) (n := 1) S hE hI hA (c_X8_of l K _ L h0 0 y N i hM hi) gX8_flaw_X8_of rfl (by decide +kernel) ⟨Nat.le_of_ble_eq_true rfl, Nat.le_of_ble_eq_true rfl⟩ (g_hro hE hI hM.1 rfl) rfl hl.1 rfl (Nat.le_of_ble_eq_true rfl) dX8_flaw_13 ⟨Nat.le_of_ble_eq_true rfl, Nat.le_of_ble_eq_true rfl⟩ (fun E ce q9 Gx H1 locs1 hx9 => hx9.elim) (fun rv Gc_13 H locs hp hI => ?_)
    obtain ⟨rfl, hq9⟩ := hp
    rw [hq9] at hI
    refine W.eq (g2 := F0 m 16 ls [.ref (L 35 i), .ref h0]) rfl ?_
    refine g_callV (As := []) (rest := [.ref h0]) (b := (L 35 i)) (n := 0) S hE hI hA (c_X6_isThere l K _ (5, 35, i) (L 35 i) (yS y i) (L 36 i) hsl s6) gX8_flaw_X6_isThere rfl (by decide +kernel) ⟨Nat.le_of_ble_eq_true rfl, Nat.le_of_ble_eq_true rfl⟩ (g_hro hE hI hsl rfl) rfl hl.1 rfl (Nat.le_of_ble_eq_true rfl) dX8_flaw_16 ⟨Nat.le_of_ble_eq_true rfl, Nat.le_of_ble_eq_true rfl⟩ (fun E ce q9 Gx H1 locs1 hx9 => hx9.elim) (fun rv Gc_16 H locs hp hI => ?_)
    obtain ⟨rfl, hq9⟩ := hp
    rw [hq9] at hI
    refine W.eq (g2 := F0 m 19 ls [.int (bI (decide (sT (yS y i) = 0))), .ref h0]) rfl ?_
    refine lv_if_eq (tgt := 38) hx hb dX8_flaw_19 (by decide) (fun c_19 => ?_) (fun c_19 => ?_)
    · skip
      have c_19 : (decide (sT (yS y i) = 0)) = false := bI_0.mp c_19
      have c_19 := of_decide_eq_false c_19
      refine lv_iconst (v := nI 1) hx hb dX8_flaw_38 (by decide) ?_
      refine lv_goto (tgt := 43) hx hb dX8_flaw_39 (by decide) ?_
      refine lv_iconst (v := nI 2) hx hb dX8_flaw_43 (by decide) ?_
      refine g_callV (As := [.int (nI 1), .int (nI 2)]) (rest := []) (b := h0) (n := 2) S hE hI hA (c_ref l K _ L h0 y N true 2 hM (by decide)) gX8_flaw_X8_refuse rfl (by decide +kernel) ⟨Nat.le_of_ble_eq_true rfl, Nat.le_of_ble_eq_true rfl⟩ (g_hro hE hI hM.1 rfl) rfl hl.1 rfl (Nat.le_of_ble_eq_true rfl) dX8_flaw_44 ⟨Nat.le_of_ble_eq_true rfl, Nat.le_of_ble_eq_true rfl⟩ (fun E ce q9 Gx H1 locs1 hx9 => hx9.elim) (fun rv Gc_44 H locs hp hI => ?_)
      obtain ⟨rfl, hM, hg9⟩ := hp
      have hag := hag.tr hg9
      have hM : MdC K L h0 2 Gc_44 y N := hM
      obtain ⟨m1, ar1, hl1⟩ := hM.2.1.2.1.obj
      obtain ⟨m2, ar2, hl2⟩ := hM.2.1.2.2.1.obj
      obtain ⟨hsl, hfl, hsok⟩ := hM.2.1.2.2.2.1 i hi
      obtain ⟨s1, s2, s3, s4, s5, s6, s7, s8⟩ := id hsok
      obtain ⟨e1, e2, F9, g9, hAL, hF⟩ := id hfl
      obtain ⟨mf, arf, hlf⟩ := hAL.obj
      refine W.eq (g2 := F0 m 47 ls [.int (bI true)]) rfl ?_
      refine lv_if_eq (tgt := 52) hx hb dX8_flaw_47 (by decide) (fun c_47 => ?_) (fun c_47 => ?_)
      · skip
        have c_47 : true = false := bI_0.mp c_47
        cases c_47
      · skip
        have c_47 : true = true := bI_1.mp c_47
        refine lv_iconst (v := nI 0) hx hb dX8_flaw_50 (by decide) ?_
        exact g_iret S hI hr hlocks (Nat.zero_le _) (Nat.zero_le _) dX8_flaw_51 (mThrow ho (by decide) hM hag)
    · skip
      have c_19 : (decide (sT (yS y i) = 0)) = true := bI_1.mp c_19
      have c_19 := of_decide_eq_true c_19
      refine lv_aload_n hx hb dX8_flaw_22 rfl (lv_at hl 0 rfl) ?_
      refine lv_iload_n hx hb dX8_flaw_23 rfl (lv_at hl 1 rfl) ?_
      refine g_callV (As := [.int (nI i)]) (rest := [.ref h0]) (b := h0) (n := 1) S hE hI hA (c_X8_of l K _ L h0 0 y N i hM hi) gX8_flaw_X8_of rfl (by decide +kernel) ⟨Nat.le_of_ble_eq_true rfl, Nat.le_of_ble_eq_true rfl⟩ (g_hro hE hI hM.1 rfl) rfl hl.1 rfl (Nat.le_of_ble_eq_true rfl) dX8_flaw_24 ⟨Nat.le_of_ble_eq_true rfl, Nat.le_of_ble_eq_true rfl⟩ (fun E ce q9 Gx H1 locs1 hx9 => hx9.elim) (fun rv Gc_24 H locs hp hI => ?_)
      obtain ⟨rfl, hq9⟩ := hp
      rw [hq9] at hI
      refine W.eq (g2 := F0 m 27 ls [.ref (L 35 i), .ref h0]) rfl ?_
      refine g_get S hE hI (C := RX6) (T := TX6) (N := 6) (ref := "StonecutterYardModel$Slab") (fun w h => (List.mem_cons_of_mem _ (List.mem_append_left _ (List.mem_append_left _ (List.mem_append_left _ (List.mem_append_right _ h)))))) hsl rfl 4 (by decide) (List.mem_cons_of_mem _ (List.mem_append_left _ (List.mem_append_left _ (List.mem_append_left _ (List.mem_append_left _ (List.mem_append_left _ (List.mem_of_getElem? (i := 0) rfl))))))) (fun _ h9 => h9) (v := .ref (L 36 i)) rfl dX8_flaw_27 ?_
      refine g_callV (As := []) (rest := [.ref h0]) (b := (L 36 i)) (n := 0) S hE hI hA (l_size l K _ (5, 36, i) (tbF 5 i) (L 36 i) (sL (yS y i)).length F9 hAL) gX8_flaw_Jx4a65c_size_8abf5 rfl (by decide +kernel) ⟨Nat.le_of_ble_eq_true rfl, Nat.le_of_ble_eq_true rfl⟩ (g_hro hE hI hlf rfl) rfl hl.1 rfl (Nat.le_of_ble_eq_true rfl) dX8_flaw_30 ⟨Nat.le_of_ble_eq_true rfl, Nat.le_of_ble_eq_true rfl⟩ (fun E ce q9 Gx H1 locs1 hx9 => hx9.elim) (fun rv Gc_30 H locs hp hI => ?_)
      obtain ⟨rfl, hq9⟩ := hp
      rw [hq9] at hI
      refine W.eq (g2 := F0 m 33 ls [.int (nI ((sL (yS y i)).length)), .ref h0]) rfl ?_
      refine lv_bipush (v := nI 6) hx hb dX8_flaw_33 (by decide) ?_
      refine lv_icmp_ne (tgt := 42) hx hb dX8_flaw_35 (by decide) (fun c_35 => ?_) (fun c_35 => ?_)
      · skip
        have c_35 : ((sL (yS y i)).length) ≠ 6 := fun z => c_35 ((nI_eq (a := ((sL (yS y i)).length)) (b := 6) (by omega) (by omega)).mpr z)
        exact absurd ⟨c_19, by omega⟩ hcond
      · skip
        have c_35 : ((sL (yS y i)).length) = 6 := (nI_eq (a := ((sL (yS y i)).length)) (b := 6) (by omega) (by omega)).mp c_35
        refine lv_iconst (v := nI 1) hx hb dX8_flaw_38 (by decide) ?_
        refine lv_goto (tgt := 43) hx hb dX8_flaw_39 (by decide) ?_
        refine lv_iconst (v := nI 2) hx hb dX8_flaw_43 (by decide) ?_
        refine g_callV (As := [.int (nI 1), .int (nI 2)]) (rest := []) (b := h0) (n := 2) S hE hI hA (c_ref l K _ L h0 y N true 2 hM (by decide)) gX8_flaw_X8_refuse rfl (by decide +kernel) ⟨Nat.le_of_ble_eq_true rfl, Nat.le_of_ble_eq_true rfl⟩ (g_hro hE hI hM.1 rfl) rfl hl.1 rfl (Nat.le_of_ble_eq_true rfl) dX8_flaw_44 ⟨Nat.le_of_ble_eq_true rfl, Nat.le_of_ble_eq_true rfl⟩ (fun E ce q9 Gx H1 locs1 hx9 => hx9.elim) (fun rv Gc_44 H locs hp hI => ?_)
        obtain ⟨rfl, hM, hg9⟩ := hp
        have hag := hag.tr hg9
        have hM : MdC K L h0 2 Gc_44 y N := hM
        obtain ⟨m1, ar1, hl1⟩ := hM.2.1.2.1.obj
        obtain ⟨m2, ar2, hl2⟩ := hM.2.1.2.2.1.obj
        obtain ⟨hsl, hfl, hsok⟩ := hM.2.1.2.2.2.1 i hi
        obtain ⟨s1, s2, s3, s4, s5, s6, s7, s8⟩ := id hsok
        obtain ⟨e1, e2, F9, g9, hAL, hF⟩ := id hfl
        obtain ⟨mf, arf, hlf⟩ := hAL.obj
        refine W.eq (g2 := F0 m 47 ls [.int (bI true)]) rfl ?_
        refine lv_if_eq (tgt := 52) hx hb dX8_flaw_47 (by decide) (fun c_47 => ?_) (fun c_47 => ?_)
        · skip
          have c_47 : true = false := bI_0.mp c_47
          cases c_47
        · skip
          have c_47 : true = true := bI_1.mp c_47
          refine lv_iconst (v := nI 0) hx hb dX8_flaw_50 (by decide) ?_
          exact g_iret S hI hr hlocks (Nat.zero_le _) (Nat.zero_le _) dX8_flaw_51 (mThrow ho (by decide) hM hag)
set_option maxHeartbeats 4000000 in
set_option maxRecDepth 100000 in
/-- X8_flaw: flawD -/
theorem m_flawD (l : Launch) (K : gK) (G : gW) (L : Nat → Nat → Nat) (h0 th : Nat) (y : YV) (N : Nat) (i a b : Nat) (hM : MdC K L h0 th G y N) (hi : i < ySc y) (hab : a < sW (yS y i) ∧ b < sH (yS y i)) (hcond : sT (yS y i) = 0 ∧ (sL (yS y i)).length < 6) : gM l yX8_flaw wsX8_flaw 8 171 2 12 K [.ref h0, .int (nI i), .int (nI a), .int (nI b)] G (mPost K h0 G (oFlaw y (nI i) (nI a) (nI b))) (gNo) := by
  refine gM.of (cc := cX8_flaw) (maxL := 4) (ret := (some .int)) (by decide) rfl (Nat.le_of_ble_eq_true rfl) ?_
  intro p e s m below meth c A S hr hlocks htab hname hE hA hI ls hl
  have hx := S.1
  have hb := S.2.1
  have hml := S.2.2.1
  have hl : lv_has ls 4 [(0, .ref h0), (1, .int (nI i)), (2, .int (nI a)), (3, .int (nI b))] := hl
  have h44 := hM.2.1.1.2.2.1
  have h6 := hM.2.1.1.2.2.2
  have hf2 := hM.2.1.1.2.1
  have h40 := hM.2.2.2
  have hth := hM.2.2.1
  have hag : AgM G G := AgM.rf
  have hri : inR (nI i) (ySc y) = true := inR_nI hi (by omega)
  have hiN : iN (nI i) = i := iN_nI (by omega)
  obtain ⟨m1, ar1, hl1⟩ := hM.2.1.2.1.obj
  obtain ⟨m2, ar2, hl2⟩ := hM.2.1.2.2.1.obj
  obtain ⟨hsl, hfl, hsok⟩ := hM.2.1.2.2.2.1 i hi
  obtain ⟨s1, s2, s3, s4, s5, s6, s7, s8⟩ := id hsok
  obtain ⟨e1, e2, F9, g9, hAL, hF⟩ := id hfl
  obtain ⟨mf, arf, hlf⟩ := hAL.obj
  have hpt9 := inPt_nI hsok hab.1 hab.2
  have haN : iN (nI a) = a := iN_nI (by omega)
  have hbN : iN (nI b) = b := iN_nI (by omega)
  have ho : oFlaw y (nI i) (nI a) (nI b) = (0, nI ((sL (yS y i)).length + 1), ySetS y i (sPut (yS y i) a b)) := by unfold oFlaw; rw [if_pos hri, hiN, if_pos hpt9, if_pos hcond, haN, hbN]
  obtain ⟨H, hHe⟩ : ∃ z, z = s.heap := ⟨_, rfl⟩
  obtain ⟨locs, hLe⟩ : ∃ z : List Loc, z = [] := ⟨_, rfl⟩
  rw [← hHe, ← hLe]
  have hI : gI K A s G H locs := by rw [hHe, hLe]; exact hI
  clear hHe hLe
  refine lv_aload_n hx hb dX8_flaw_0 rfl (lv_at hl 0 rfl) ?_
  refine lv_iload_n hx hb dX8_flaw_1 rfl (lv_at hl 1 rfl) ?_
  refine lv_iload_n hx hb dX8_flaw_2 rfl (lv_at hl 2 rfl) ?_
  refine lv_iload_n hx hb dX8_flaw_3 rfl (lv_at hl 3 rfl) ?_
  refine g_callV (As := [.int (nI i), .int (nI a), .int (nI b)]) (rest := []) (b := h0) (n := 3) S hE hI hA (c_npC l K _ L h0 th y N i a b hM hi hab) gX8_flaw_X8_isNoPoint rfl (by decide +kernel) ⟨Nat.le_of_ble_eq_true rfl, Nat.le_of_ble_eq_true rfl⟩ (g_hro hE hI hM.1 rfl) rfl hl.1 rfl (Nat.le_of_ble_eq_true rfl) dX8_flaw_4 ⟨Nat.le_of_ble_eq_true rfl, Nat.le_of_ble_eq_true rfl⟩ (fun E ce q9 Gx H1 locs1 hx9 => hx9.elim) (fun rv Gc_4 H locs hp hI => ?_)
  obtain ⟨rfl, hM, hg9⟩ := hp
  have hag := hag.tr hg9
  have hM : MdC K L h0 0 Gc_4 y N := hM
  obtain ⟨m1, ar1, hl1⟩ := hM.2.1.2.1.obj
  obtain ⟨m2, ar2, hl2⟩ := hM.2.1.2.2.1.obj
  obtain ⟨hsl, hfl, hsok⟩ := hM.2.1.2.2.2.1 i hi
  obtain ⟨s1, s2, s3, s4, s5, s6, s7, s8⟩ := id hsok
  obtain ⟨e1, e2, F9, g9, hAL, hF⟩ := id hfl
  obtain ⟨mf, arf, hlf⟩ := hAL.obj
  refine W.eq (g2 := F0 m 7 ls [.int (bI false)]) rfl ?_
  refine lv_if_ne (tgt := 50) hx hb dX8_flaw_7 (by decide) (fun c_7 => ?_) (fun c_7 => ?_)
  · skip
    have c_7 : false = true := bI_1.mp c_7
    cases c_7
  · skip
    have c_7 : false = false := bI_0.mp c_7
    refine lv_aload_n hx hb dX8_flaw_10 rfl (lv_at hl 0 rfl) ?_
    refine lv_aload_n hx hb dX8_flaw_11 rfl (lv_at hl 0 rfl) ?_
    refine lv_iload_n hx hb dX8_flaw_12 rfl (lv_at hl 1 rfl) ?_
    refine g_callV (As := [.int (nI i)]) (rest := [.ref h0]) (b := h0) (n := 1) S hE hI hA (c_X8_of l K _ L h0 0 y N i hM hi) gX8_flaw_X8_of rfl (by decide +kernel) ⟨Nat.le_of_ble_eq_true rfl, Nat.le_of_ble_eq_true rfl⟩ (g_hro hE hI hM.1 rfl) rfl hl.1 rfl (Nat.le_of_ble_eq_true rfl) dX8_flaw_13 ⟨Nat.le_of_ble_eq_true rfl, Nat.le_of_ble_eq_true rfl⟩ (fun E ce q9 Gx H1 locs1 hx9 => hx9.elim) (fun rv Gc_13 H locs hp hI => ?_)
    obtain ⟨rfl, hq9⟩ := hp
    rw [hq9] at hI
    refine W.eq (g2 := F0 m 16 ls [.ref (L 35 i), .ref h0]) rfl ?_
    refine g_callV (As := []) (rest := [.ref h0]) (b := (L 35 i)) (n := 0) S hE hI hA (c_X6_isThere l K _ (5, 35, i) (L 35 i) (yS y i) (L 36 i) hsl s6) gX8_flaw_X6_isThere rfl (by decide +kernel) ⟨Nat.le_of_ble_eq_true rfl, Nat.le_of_ble_eq_true rfl⟩ (g_hro hE hI hsl rfl) rfl hl.1 rfl (Nat.le_of_ble_eq_true rfl) dX8_flaw_16 ⟨Nat.le_of_ble_eq_true rfl, Nat.le_of_ble_eq_true rfl⟩ (fun E ce q9 Gx H1 locs1 hx9 => hx9.elim) (fun rv Gc_16 H locs hp hI => ?_)
    obtain ⟨rfl, hq9⟩ := hp
    rw [hq9] at hI
    refine W.eq (g2 := F0 m 19 ls [.int (bI (decide (sT (yS y i) = 0))), .ref h0]) rfl ?_
    refine lv_if_eq (tgt := 38) hx hb dX8_flaw_19 (by decide) (fun c_19 => ?_) (fun c_19 => ?_)
    · skip
      have c_19 : (decide (sT (yS y i) = 0)) = false := bI_0.mp c_19
      have c_19 := of_decide_eq_false c_19
      exact absurd hcond.1 c_19
    · skip
      have c_19 : (decide (sT (yS y i) = 0)) = true := bI_1.mp c_19
      have c_19 := of_decide_eq_true c_19
      refine lv_aload_n hx hb dX8_flaw_22 rfl (lv_at hl 0 rfl) ?_
      refine lv_iload_n hx hb dX8_flaw_23 rfl (lv_at hl 1 rfl) ?_
      refine g_callV (As := [.int (nI i)]) (rest := [.ref h0]) (b := h0) (n := 1) S hE hI hA (c_X8_of l K _ L h0 0 y N i hM hi) gX8_flaw_X8_of rfl (by decide +kernel) ⟨Nat.le_of_ble_eq_true rfl, Nat.le_of_ble_eq_true rfl⟩ (g_hro hE hI hM.1 rfl) rfl hl.1 rfl (Nat.le_of_ble_eq_true rfl) dX8_flaw_24 ⟨Nat.le_of_ble_eq_true rfl, Nat.le_of_ble_eq_true rfl⟩ (fun E ce q9 Gx H1 locs1 hx9 => hx9.elim) (fun rv Gc_24 H locs hp hI => ?_)
      obtain ⟨rfl, hq9⟩ := hp
      rw [hq9] at hI
      refine W.eq (g2 := F0 m 27 ls [.ref (L 35 i), .ref h0]) rfl ?_
      refine g_get S hE hI (C := RX6) (T := TX6) (N := 6) (ref := "StonecutterYardModel$Slab") (fun w h => (List.mem_cons_of_mem _ (List.mem_append_left _ (List.mem_append_left _ (List.mem_append_left _ (List.mem_append_right _ h)))))) hsl rfl 4 (by decide) (List.mem_cons_of_mem _ (List.mem_append_left _ (List.mem_append_left _ (List.mem_append_left _ (List.mem_append_left _ (List.mem_append_left _ (List.mem_of_getElem? (i := 0) rfl))))))) (fun _ h9 => h9) (v := .ref (L 36 i)) rfl dX8_flaw_27 ?_
      refine g_callV (As := []) (rest := [.ref h0]) (b := (L 36 i)) (n := 0) S hE hI hA (l_size l K _ (5, 36, i) (tbF 5 i) (L 36 i) (sL (yS y i)).length F9 hAL) gX8_flaw_Jx4a65c_size_8abf5 rfl (by decide +kernel) ⟨Nat.le_of_ble_eq_true rfl, Nat.le_of_ble_eq_true rfl⟩ (g_hro hE hI hlf rfl) rfl hl.1 rfl (Nat.le_of_ble_eq_true rfl) dX8_flaw_30 ⟨Nat.le_of_ble_eq_true rfl, Nat.le_of_ble_eq_true rfl⟩ (fun E ce q9 Gx H1 locs1 hx9 => hx9.elim) (fun rv Gc_30 H locs hp hI => ?_)
      obtain ⟨rfl, hq9⟩ := hp
      rw [hq9] at hI
      refine W.eq (g2 := F0 m 33 ls [.int (nI ((sL (yS y i)).length)), .ref h0]) rfl ?_
      refine lv_bipush (v := nI 6) hx hb dX8_flaw_33 (by decide) ?_
      refine lv_icmp_ne (tgt := 42) hx hb dX8_flaw_35 (by decide) (fun c_35 => ?_) (fun c_35 => ?_)
      · skip
        have c_35 : ((sL (yS y i)).length) ≠ 6 := fun z => c_35 ((nI_eq (a := ((sL (yS y i)).length)) (b := 6) (by omega) (by omega)).mpr z)
        refine lv_iconst (v := nI 0) hx hb dX8_flaw_42 (by decide) ?_
        refine lv_iconst (v := nI 2) hx hb dX8_flaw_43 (by decide) ?_
        refine g_callV (As := [.int (nI 0), .int (nI 2)]) (rest := []) (b := h0) (n := 2) S hE hI hA (c_ref l K _ L h0 y N false 2 hM (by decide)) gX8_flaw_X8_refuse rfl (by decide +kernel) ⟨Nat.le_of_ble_eq_true rfl, Nat.le_of_ble_eq_true rfl⟩ (g_hro hE hI hM.1 rfl) rfl hl.1 rfl (Nat.le_of_ble_eq_true rfl) dX8_flaw_44 ⟨Nat.le_of_ble_eq_true rfl, Nat.le_of_ble_eq_true rfl⟩ (fun E ce q9 Gx H1 locs1 hx9 => hx9.elim) (fun rv Gc_44 H locs hp hI => ?_)
        obtain ⟨rfl, hM, hg9⟩ := hp
        have hag := hag.tr hg9
        have hM : MdC K L h0 0 Gc_44 y N := hM
        obtain ⟨m1, ar1, hl1⟩ := hM.2.1.2.1.obj
        obtain ⟨m2, ar2, hl2⟩ := hM.2.1.2.2.1.obj
        obtain ⟨hsl, hfl, hsok⟩ := hM.2.1.2.2.2.1 i hi
        obtain ⟨s1, s2, s3, s4, s5, s6, s7, s8⟩ := id hsok
        obtain ⟨e1, e2, F9, g9, hAL, hF⟩ := id hfl
        obtain ⟨mf, arf, hlf⟩ := hAL.obj
        refine W.eq (g2 := F0 m 47 ls [.int (bI false)]) rfl ?_
        refine lv_if_eq (tgt := 52) hx hb dX8_flaw_47 (by decide) (fun c_47 => ?_) (fun c_47 => ?_)
        · skip
          have c_47 : false = false := bI_0.mp c_47
          refine lv_aload_n hx hb dX8_flaw_52 rfl (lv_at hl 0 rfl) ?_
          refine lv_iload_n hx hb dX8_flaw_53 rfl (lv_at hl 1 rfl) ?_
          refine g_callV (As := [.int (nI i)]) (rest := []) (b := h0) (n := 1) S hE hI hA (c_X8_of l K _ L h0 0 y N i hM hi) gX8_flaw_X8_of rfl (by decide +kernel) ⟨Nat.le_of_ble_eq_true rfl, Nat.le_of_ble_eq_true rfl⟩ (g_hro hE hI hM.1 rfl) rfl hl.1 rfl (Nat.le_of_ble_eq_true rfl) dX8_flaw_54 ⟨Nat.le_of_ble_eq_true rfl, Nat.le_of_ble_eq_true rfl⟩ (fun E ce q9 Gx H1 locs1 hx9 => hx9.elim) (fun rv Gc_54 H locs hp hI => ?_)
          obtain ⟨rfl, hq9⟩ := hp
          rw [hq9] at hI
          refine W.eq (g2 := F0 m 57 ls [.ref (L 35 i)]) rfl ?_
          refine g_get S hE hI (C := RX6) (T := TX6) (N := 6) (ref := "StonecutterYardModel$Slab") (fun w h => (List.mem_cons_of_mem _ (List.mem_append_left _ (List.mem_append_left _ (List.mem_append_left _ (List.mem_append_right _ h)))))) hsl rfl 4 (by decide) (List.mem_cons_of_mem _ (List.mem_append_left _ (List.mem_append_left _ (List.mem_append_left _ (List.mem_append_left _ (List.mem_append_left _ (List.mem_of_getElem? (i := 0) rfl))))))) (fun _ h9 => h9) (v := .ref (L 36 i)) rfl dX8_flaw_57 ?_
          refine lv_iconst (v := nI 2) hx hb dX8_flaw_60 (by decide) ?_
          refine g_newI S hE hI hA (List.mem_cons_of_mem _ (List.mem_append_left _ (List.mem_append_left _ (List.mem_append_left _ (List.mem_append_left _ (List.mem_append_left _ (List.mem_of_getElem? (i := 1) rfl))))))) (N' := 2) rfl (by omega) (50, 0, N) (by show _ ≤ 2; omega) (by show _ ≤ 12; omega) dX8_flaw_61 (fun q_61 H hq_61 hI => ?_)
          obtain ⟨G_1, hG_1⟩ : ∃ z, z = gset Gc_44 (50, 0, N) q_61 (.inl (K.2.1 0, 2, .inl (fun _ => 0))) := ⟨_, rfl⟩
          have hI : gI K A s G_1 H locs := by rw [hG_1]; exact hI
          have o_G_1 : G_1 (9, 0, 0) = some (h0, .inr (9, [.int (nI 0), .ref (L 30 0)])) := by rw [hG_1, gset_ne (by simp)]; exact hM.1
          have yd_G_1 : G_1 (5, 30, 0) = some ((L 30 0), .inr (8, [.ref (L 31 0), .ref (L 33 0), .int (nI (yF y))])) := by rw [hG_1, gset_ne (by simp)]; exact hM.2.1.1.1
          have ls_G_1 : G_1 (5, 31, 0) = some ((L 31 0), .inr (0, [.int m1, .ref ar1, .int (nI (ySc y))])) := by rw [hG_1, gset_ne (by simp)]; exact hl1
          have lk_G_1 : G_1 (5, 33, 0) = some ((L 33 0), .inr (0, [.int m2, .ref ar2, .int (nI (yKc y))])) := by rw [hG_1, gset_ne (by simp)]; exact hl2
          have u_G_1 : G_1 (5, 35, i) = some ((L 35 i), .inr (7, [.int (nI (sW (yS y i))), .int (nI (sH (yS y i))), .int (nI (sG (yS y i))), .int (sF (yS y i)), .ref (L 36 i), .int (nI (sT (yS y i)))])) := by rw [hG_1, gset_ne (by simp)]; exact hsl
          have lf_G_1 : G_1 (5, 36, i) = some ((L 36 i), .inr (0, [.int mf, .ref arf, .int (nI ((sL (yS y i)).length))])) := by rw [hG_1, gset_ne (by simp)]; exact hlf
          have nf_G_1 : G_1 (50, 0, N) = some (q_61, .inl (K.2.1 0, 2, .inl (fun _ => 0))) := by rw [hG_1]; exact gset_eq _ _ _ _
          refine lv_dup hx hb dX8_flaw_63 rfl ?_
          refine lv_iconst (v := nI 0) hx hb dX8_flaw_64 (by decide) ?_
          refine lv_iload_n hx hb dX8_flaw_65 rfl (lv_at hl 2 rfl) ?_
          refine g_iast S hE hI (j := 0) (f := (fun _ => 0)) nf_G_1 rfl (by omega) (Nat.le_of_ble_eq_true rfl) dX8_flaw_66 (fun H locs hI => ?_)
          have hI : gI K A s (gset G_1 (50, 0, N) q_61 (.inl (K.2.1 0, 2, .inl (upd (fun _ => 0) 0 (nI a))))) H locs := hI
          obtain ⟨G_2, hG_2⟩ : ∃ z, z = gset G_1 (50, 0, N) q_61 (.inl (K.2.1 0, 2, .inl (upd (fun _ => 0) 0 (nI a)))) := ⟨_, rfl⟩
          rw [← hG_2] at hI
          have o_G_2 : G_2 (9, 0, 0) = some (h0, .inr (9, [.int (nI 0), .ref (L 30 0)])) := by rw [hG_2, gset_ne (by simp)]; exact o_G_1
          have yd_G_2 : G_2 (5, 30, 0) = some ((L 30 0), .inr (8, [.ref (L 31 0), .ref (L 33 0), .int (nI (yF y))])) := by rw [hG_2, gset_ne (by simp)]; exact yd_G_1
          have ls_G_2 : G_2 (5, 31, 0) = some ((L 31 0), .inr (0, [.int m1, .ref ar1, .int (nI (ySc y))])) := by rw [hG_2, gset_ne (by simp)]; exact ls_G_1
          have lk_G_2 : G_2 (5, 33, 0) = some ((L 33 0), .inr (0, [.int m2, .ref ar2, .int (nI (yKc y))])) := by rw [hG_2, gset_ne (by simp)]; exact lk_G_1
          have u_G_2 : G_2 (5, 35, i) = some ((L 35 i), .inr (7, [.int (nI (sW (yS y i))), .int (nI (sH (yS y i))), .int (nI (sG (yS y i))), .int (sF (yS y i)), .ref (L 36 i), .int (nI (sT (yS y i)))])) := by rw [hG_2, gset_ne (by simp)]; exact u_G_1
          have lf_G_2 : G_2 (5, 36, i) = some ((L 36 i), .inr (0, [.int mf, .ref arf, .int (nI ((sL (yS y i)).length))])) := by rw [hG_2, gset_ne (by simp)]; exact lf_G_1
          have nf_G_2 : G_2 (50, 0, N) = some (q_61, .inl (K.2.1 0, 2, .inl (upd (fun _ => 0) 0 (nI a)))) := by rw [hG_2]; exact gset_eq _ _ _ _
          refine lv_dup hx hb dX8_flaw_67 rfl ?_
          refine lv_iconst (v := nI 1) hx hb dX8_flaw_68 (by decide) ?_
          refine lv_iload_n hx hb dX8_flaw_69 rfl (lv_at hl 3 rfl) ?_
          refine g_iast S hE hI (j := 1) (f := upd (fun _ => 0) 0 (nI a)) nf_G_2 rfl (by omega) (Nat.le_of_ble_eq_true rfl) dX8_flaw_70 (fun H locs hI => ?_)
          have hI : gI K A s (gset G_2 (50, 0, N) q_61 (.inl (K.2.1 0, 2, .inl (upd (upd (fun _ => 0) 0 (nI a)) 1 (nI b))))) H locs := hI
          obtain ⟨G_3, hG_3⟩ : ∃ z, z = gset G_2 (50, 0, N) q_61 (.inl (K.2.1 0, 2, .inl (upd (upd (fun _ => 0) 0 (nI a)) 1 (nI b)))) := ⟨_, rfl⟩
          rw [← hG_3] at hI
          have o_G_3 : G_3 (9, 0, 0) = some (h0, .inr (9, [.int (nI 0), .ref (L 30 0)])) := by rw [hG_3, gset_ne (by simp)]; exact o_G_2
          have yd_G_3 : G_3 (5, 30, 0) = some ((L 30 0), .inr (8, [.ref (L 31 0), .ref (L 33 0), .int (nI (yF y))])) := by rw [hG_3, gset_ne (by simp)]; exact yd_G_2
          have ls_G_3 : G_3 (5, 31, 0) = some ((L 31 0), .inr (0, [.int m1, .ref ar1, .int (nI (ySc y))])) := by rw [hG_3, gset_ne (by simp)]; exact ls_G_2
          have lk_G_3 : G_3 (5, 33, 0) = some ((L 33 0), .inr (0, [.int m2, .ref ar2, .int (nI (yKc y))])) := by rw [hG_3, gset_ne (by simp)]; exact lk_G_2
          have u_G_3 : G_3 (5, 35, i) = some ((L 35 i), .inr (7, [.int (nI (sW (yS y i))), .int (nI (sH (yS y i))), .int (nI (sG (yS y i))), .int (sF (yS y i)), .ref (L 36 i), .int (nI (sT (yS y i)))])) := by rw [hG_3, gset_ne (by simp)]; exact u_G_2
          have lf_G_3 : G_3 (5, 36, i) = some ((L 36 i), .inr (0, [.int mf, .ref arf, .int (nI ((sL (yS y i)).length))])) := by rw [hG_3, gset_ne (by simp)]; exact lf_G_2
          have nf_G_3 : G_3 (50, 0, N) = some (q_61, .inl (K.2.1 0, 2, .inl (upd (upd (fun _ => 0) 0 (nI a)) 1 (nI b)))) := by rw [hG_3]; exact gset_eq _ _ _ _
          have hgw : G_3 = gset Gc_44 (50, 0, N) q_61 (cI K 2 (upd (upd (fun _ => 0) 0 (nI a)) 1 (nI b))) := by rw [hG_3, hG_2, hG_1, gset_gset, gset_gset]
          have hw : ∀ v : gTag, v ≠ (50, 0, N) → G_3 v = Gc_44 v := fun v h9 => by rw [hgw, gset_ne h9]
          have hnew : G_3 (50, 0, N) = some (q_61, cI K 2 (upd (upd (fun _ => 0) 0 (nI a)) 1 (nI b))) := by rw [hgw]; exact gset_eq _ _ _ _
          have hALw : ALg K (5, 36, i) (tbF 5 i) G_3 (L 36 i) (sL (yS y i)).length F9 := hAL.moved (hw _ (by simp)) (fun b => hw _ (by unfold tbF; simp))
          refine g_callV (As := [.ref q_61]) (rest := []) (b := (L 36 i)) (n := 1) S hE hI hA (l_addS l K _ (5, 36, i) (tbF 5 i) (L 36 i) (sL (yS y i)).length F9 "[I" q_61 (50, 0, N) _ hALw (apF 5 i) (by omega) hnew isC_I (by simp) (fun b => by unfold tbF; simp)) gX8_flaw_Jx4a65c_add_9ea2d rfl (by decide +kernel) ⟨Nat.le_of_ble_eq_true rfl, Nat.le_of_ble_eq_true rfl⟩ (g_hro hE hI lf_G_3 rfl) rfl hl.1 rfl (Nat.le_of_ble_eq_true rfl) dX8_flaw_71 ⟨by show _ ≤ 2; omega, by show _ ≤ 12; omega⟩ (fun E ce q9 Gx H1 locs1 hx9 => hx9.elim) (fun rv Gc_71 H locs hp hI => ?_)
          obtain ⟨rfl, hALn, hon⟩ := hp
          obtain ⟨mn9, arn9, hln9⟩ := hALn.obj
          have hat : ∀ v : gTag, v ≠ (5, 36, i) → (∀ b, v ≠ tbF 5 i b) → v ≠ (50, 0, N) → Gc_71 v = Gc_44 v := fun v c1 c2 c3 => (hon v c1 c2).trans (hw v c3)
          have ho9 := (hat (9, 0, 0) (by simp) (fun b => by unfold tbF; simp) (by simp)).trans hM.1
          have hu9 := (hat (5, 35, i) (by simp) (fun b => by unfold tbF; simp) (by simp)).trans hsl
          have hff : FLi K Gc_71 (5, 36, i) (tbF 5 i) (L 36 i) (sL (yS y i) ++ [(a, b)]) (N + 1) := FLi.add (a := a) (b := b) (by omega) e2 (fun j hj => by obtain ⟨m2, z1, z2, z3⟩ := hF j hj; exact ⟨m2, by omega, (hw _ (by simp; omega)).trans z2, z3⟩) hALn hon (Nat.lt_succ_self _) hnew rfl rfl (by omega) (by show (5 : Nat) ≠ 50; decide) (fun b => (by decide : (5 : Nat) ≠ 50))
          have hMY := MY.setFl hM.2.1 (by decide) hi hcond.2 hab hat hff
          have hM9 : MdC K L h0 0 Gc_71 (ySetS y i (sPut (yS y i) a b)) (N + 1) := ⟨ho9, hMY, by decide, h40⟩
          refine W.eq (g2 := F0 m 74 ls [.int (nI 1)]) rfl ?_
          refine lv_pop hx hb dX8_flaw_74 rfl ?_
          refine lv_aload_n hx hb dX8_flaw_75 rfl (lv_at hl 0 rfl) ?_
          refine lv_iload_n hx hb dX8_flaw_76 rfl (lv_at hl 1 rfl) ?_
          refine g_callV (As := [.int (nI i)]) (rest := []) (b := h0) (n := 1) S hE hI hA (c_X8_of l K _ L h0 0 (ySetS y i (sPut (yS y i) a b)) (N + 1) i hM9 hi) gX8_flaw_X8_of rfl (by decide +kernel) ⟨Nat.le_of_ble_eq_true rfl, Nat.le_of_ble_eq_true rfl⟩ (g_hro hE hI ho9 rfl) rfl hl.1 rfl (Nat.le_of_ble_eq_true rfl) dX8_flaw_77 ⟨by show _ ≤ 2; omega, by show _ ≤ 12; omega⟩ (fun E ce q9 Gx H1 locs1 hx9 => hx9.elim) (fun rv Gc_77 H locs hp hI => ?_)
          obtain ⟨rfl, hq9⟩ := hp
          rw [hq9] at hI
          refine W.eq (g2 := F0 m 80 ls [.ref (L 35 i)]) rfl ?_
          refine g_get S hE hI (C := RX6) (T := TX6) (N := 6) (ref := "StonecutterYardModel$Slab") (fun w h => (List.mem_cons_of_mem _ (List.mem_append_left _ (List.mem_append_left _ (List.mem_append_left _ (List.mem_append_right _ h)))))) hu9 rfl 4 (by decide) (List.mem_cons_of_mem _ (List.mem_append_left _ (List.mem_append_left _ (List.mem_append_left _ (List.mem_append_left _ (List.mem_append_left _ (List.mem_of_getElem? (i := 0) rfl))))))) (fun _ h9 => h9) (v := .ref (L 36 i)) rfl dX8_flaw_80 ?_
          refine g_callV (As := []) (rest := []) (b := (L 36 i)) (n := 0) S hE hI hA (l_size l K _ (5, 36, i) (tbF 5 i) (L 36 i) ((sL (yS y i)).length + 1) (fU F9 (sL (yS y i)).length q_61) hALn) gX8_flaw_Jx4a65c_size_8abf5 rfl (by decide +kernel) ⟨Nat.le_of_ble_eq_true rfl, Nat.le_of_ble_eq_true rfl⟩ (g_hro hE hI hln9 rfl) rfl hl.1 rfl (Nat.le_of_ble_eq_true rfl) dX8_flaw_83 ⟨by show _ ≤ 2; omega, by show _ ≤ 12; omega⟩ (fun E ce q9 Gx H1 locs1 hx9 => hx9.elim) (fun rv Gc_83 H locs hp hI => ?_)
          obtain ⟨rfl, hq9⟩ := hp
          rw [hq9] at hI
          refine W.eq (g2 := F0 m 86 ls [.int (nI ((sL (yS y i)).length + 1))]) rfl ?_
          exact g_iret S hI hr hlocks (by omega) (by omega) dX8_flaw_86 (mOk ho hM9 (hag.tr (fun t ht => hat t (fun z9 => (agOff ht).1 (by rw [z9])) (fun b z9 => (agOff ht).1 (by rw [z9]; rfl)) (fun z9 => (agOff ht).2.2.2.2.2.2.2.2 (by rw [z9])))))
        · skip
          have c_47 : false = true := bI_1.mp c_47
          cases c_47
      · skip
        have c_35 : ((sL (yS y i)).length) = 6 := (nI_eq (a := ((sL (yS y i)).length)) (b := 6) (by omega) (by omega)).mp c_35
        exact absurd c_35 (by omega)
set_option maxHeartbeats 4000000 in
set_option maxRecDepth 100000 in
/-- X8_kerf: kerfA -/
theorem m_kerfA (l : Launch) (K : gK) (G : gW) (L : Nat → Nat → Nat) (h0 th : Nat) (y : YV) (N : Nat) (x : Int32) (hM : MdC K L h0 th G y N) (hb9 : inB x 0 2 = false) : gM l yX8_kerf wsX8_kerf 4 84 0 0 K [.ref h0, .int x] G (mPost K h0 G (oKerf y x)) (gNo) := by
  refine gM.of (cc := cX8_kerf) (maxL := 3) (ret := (some .int)) (by decide) rfl (Nat.le_of_ble_eq_true rfl) ?_
  intro p e s m below meth c A S hr hlocks htab hname hE hA hI ls hl
  have hx := S.1
  have hb := S.2.1
  have hml := S.2.2.1
  have hl : lv_has ls 3 [(0, .ref h0), (1, .int x)] := hl
  have h44 := hM.2.1.1.2.2.1
  have h6 := hM.2.1.1.2.2.2
  have hf2 := hM.2.1.1.2.1
  have h40 := hM.2.2.2
  have hth := hM.2.2.1
  have hag : AgM G G := AgM.rf
  obtain ⟨m1, ar1, hl1⟩ := hM.2.1.2.1.obj
  obtain ⟨m2, ar2, hl2⟩ := hM.2.1.2.2.1.obj
  have ho : oKerf y x = (1, 0, y) := by unfold oKerf; rw [if_neg (by rw [hb9]; decide)]
  obtain ⟨H, hHe⟩ : ∃ z, z = s.heap := ⟨_, rfl⟩
  obtain ⟨locs, hLe⟩ : ∃ z : List Loc, z = [] := ⟨_, rfl⟩
  rw [← hHe, ← hLe]
  have hI : gI K A s G H locs := by rw [hHe, hLe]; exact hI
  clear hHe hLe
  refine lv_aload_n hx hb dX8_kerf_0 rfl (lv_at hl 0 rfl) ?_
  refine lv_iload_n hx hb dX8_kerf_1 rfl (lv_at hl 1 rfl) ?_
  refine lv_iconst (v := nI 0) hx hb dX8_kerf_2 (by decide) ?_
  refine lv_iconst (v := nI 2) hx hb dX8_kerf_3 (by decide) ?_
  refine g_callS (As := [.int x, .int (nI 0), .int (nI 2)]) (rest := [.ref h0]) (n := 3) S hE hI hA (c_X8_isIn l K _ x (nI 0) (nI 2)) gX8_kerf_X8_isIn rfl (by decide +kernel) ⟨Nat.le_of_ble_eq_true rfl, Nat.le_of_ble_eq_true rfl⟩ rfl hl.1 rfl (Nat.le_of_ble_eq_true rfl) dX8_kerf_4 ⟨Nat.le_of_ble_eq_true rfl, Nat.le_of_ble_eq_true rfl⟩ (fun E ce q9 Gx H1 locs1 hx9 => hx9.elim) (fun rv Gc_4 H locs hp hI => ?_)
  obtain ⟨rfl, hq9⟩ := hp
  rw [hq9] at hI
  rw [isI_inB (by decide) (by decide)]
  rw [hb9]
  refine W.eq (g2 := F0 m 7 ls [.int (bI false), .ref h0]) rfl ?_
  refine lv_if_ne (tgt := 14) hx hb dX8_kerf_7 (by decide) (fun c_7 => ?_) (fun c_7 => ?_)
  · skip
    have c_7 : false = true := bI_1.mp c_7
    cases c_7
  · skip
    have c_7 : false = false := bI_0.mp c_7
    refine lv_iconst (v := nI 1) hx hb dX8_kerf_10 (by decide) ?_
    refine lv_goto (tgt := 15) hx hb dX8_kerf_11 (by decide) ?_
    refine lv_iconst (v := nI 1) hx hb dX8_kerf_15 (by decide) ?_
    refine g_callV (As := [.int (nI 1), .int (nI 1)]) (rest := []) (b := h0) (n := 2) S hE hI hA (c_start l K _ L h0 th y N true 1 hM (by decide)) gX8_kerf_X8_start rfl (by decide +kernel) ⟨Nat.le_of_ble_eq_true rfl, Nat.le_of_ble_eq_true rfl⟩ (g_hro hE hI hM.1 rfl) rfl hl.1 rfl (Nat.le_of_ble_eq_true rfl) dX8_kerf_16 ⟨Nat.le_of_ble_eq_true rfl, Nat.le_of_ble_eq_true rfl⟩ (fun E ce q9 Gx H1 locs1 hx9 => hx9.elim) (fun rv Gc_16 H locs hp hI => ?_)
    obtain ⟨rfl, hM, hg9⟩ := hp
    have hag := hag.tr hg9
    have hM : MdC K L h0 1 Gc_16 y N := hM
    obtain ⟨m1, ar1, hl1⟩ := hM.2.1.2.1.obj
    obtain ⟨m2, ar2, hl2⟩ := hM.2.1.2.2.1.obj
    refine W.eq (g2 := F0 m 19 ls [.int (bI true)]) rfl ?_
    refine lv_if_eq (tgt := 24) hx hb dX8_kerf_19 (by decide) (fun c_19 => ?_) (fun c_19 => ?_)
    · skip
      have c_19 : true = false := bI_0.mp c_19
      cases c_19
    · skip
      have c_19 : true = true := bI_1.mp c_19
      refine lv_iconst (v := nI 0) hx hb dX8_kerf_22 (by decide) ?_
      exact g_iret S hI hr hlocks (Nat.zero_le _) (Nat.zero_le _) dX8_kerf_23 (mThrow ho (by decide) hM hag)
set_option maxHeartbeats 4000000 in
set_option maxRecDepth 100000 in
/-- X8_kerf: kerfB -/
theorem m_kerfB (l : Launch) (K : gK) (G : gW) (L : Nat → Nat → Nat) (h0 th : Nat) (y : YV) (N : Nat) (k : Nat) (hM : MdC K L h0 th G y N) (hk2 : k ≤ 2) : gM l yX8_kerf wsX8_kerf 4 84 0 0 K [.ref h0, .int (nI k)] G (mPost K h0 G (oKerf y (nI k))) (gNo) := by
  refine gM.of (cc := cX8_kerf) (maxL := 3) (ret := (some .int)) (by decide) rfl (Nat.le_of_ble_eq_true rfl) ?_
  intro p e s m below meth c A S hr hlocks htab hname hE hA hI ls hl
  have hx := S.1
  have hb := S.2.1
  have hml := S.2.2.1
  have hl : lv_has ls 3 [(0, .ref h0), (1, .int (nI k))] := hl
  have h44 := hM.2.1.1.2.2.1
  have h6 := hM.2.1.1.2.2.2
  have hf2 := hM.2.1.1.2.1
  have h40 := hM.2.2.2
  have hth := hM.2.2.1
  have hag : AgM G G := AgM.rf
  obtain ⟨m1, ar1, hl1⟩ := hM.2.1.2.1.obj
  obtain ⟨m2, ar2, hl2⟩ := hM.2.1.2.2.1.obj
  have hx9 : inB (nI k) 0 2 = true := by rw [inB_nI (by omega)]; exact decide_eq_true (by omega)
  have ho : oKerf y (nI k) = (0, nI (yF y), ySetF y k) := by unfold oKerf; rw [if_pos (by rw [inB_nI (by omega)]; exact decide_eq_true (by omega)), iN_nI (by omega)]
  obtain ⟨H, hHe⟩ : ∃ z, z = s.heap := ⟨_, rfl⟩
  obtain ⟨locs, hLe⟩ : ∃ z : List Loc, z = [] := ⟨_, rfl⟩
  rw [← hHe, ← hLe]
  have hI : gI K A s G H locs := by rw [hHe, hLe]; exact hI
  clear hHe hLe
  refine lv_aload_n hx hb dX8_kerf_0 rfl (lv_at hl 0 rfl) ?_
  refine lv_iload_n hx hb dX8_kerf_1 rfl (lv_at hl 1 rfl) ?_
  refine lv_iconst (v := nI 0) hx hb dX8_kerf_2 (by decide) ?_
  refine lv_iconst (v := nI 2) hx hb dX8_kerf_3 (by decide) ?_
  refine g_callS (As := [.int (nI k), .int (nI 0), .int (nI 2)]) (rest := [.ref h0]) (n := 3) S hE hI hA (c_X8_isIn l K _ (nI k) (nI 0) (nI 2)) gX8_kerf_X8_isIn rfl (by decide +kernel) ⟨Nat.le_of_ble_eq_true rfl, Nat.le_of_ble_eq_true rfl⟩ rfl hl.1 rfl (Nat.le_of_ble_eq_true rfl) dX8_kerf_4 ⟨Nat.le_of_ble_eq_true rfl, Nat.le_of_ble_eq_true rfl⟩ (fun E ce q9 Gx H1 locs1 hx9 => hx9.elim) (fun rv Gc_4 H locs hp hI => ?_)
  obtain ⟨rfl, hq9⟩ := hp
  rw [hq9] at hI
  rw [isI_inB (by decide) (by decide)]
  rw [hx9]
  refine W.eq (g2 := F0 m 7 ls [.int (bI true), .ref h0]) rfl ?_
  refine lv_if_ne (tgt := 14) hx hb dX8_kerf_7 (by decide) (fun c_7 => ?_) (fun c_7 => ?_)
  · skip
    have c_7 : true = true := bI_1.mp c_7
    refine lv_iconst (v := nI 0) hx hb dX8_kerf_14 (by decide) ?_
    refine lv_iconst (v := nI 1) hx hb dX8_kerf_15 (by decide) ?_
    refine g_callV (As := [.int (nI 0), .int (nI 1)]) (rest := []) (b := h0) (n := 2) S hE hI hA (c_start l K _ L h0 th y N false 1 hM (by decide)) gX8_kerf_X8_start rfl (by decide +kernel) ⟨Nat.le_of_ble_eq_true rfl, Nat.le_of_ble_eq_true rfl⟩ (g_hro hE hI hM.1 rfl) rfl hl.1 rfl (Nat.le_of_ble_eq_true rfl) dX8_kerf_16 ⟨Nat.le_of_ble_eq_true rfl, Nat.le_of_ble_eq_true rfl⟩ (fun E ce q9 Gx H1 locs1 hx9 => hx9.elim) (fun rv Gc_16 H locs hp hI => ?_)
    obtain ⟨rfl, hM, hg9⟩ := hp
    have hag := hag.tr hg9
    have hM : MdC K L h0 0 Gc_16 y N := hM
    obtain ⟨m1, ar1, hl1⟩ := hM.2.1.2.1.obj
    obtain ⟨m2, ar2, hl2⟩ := hM.2.1.2.2.1.obj
    refine W.eq (g2 := F0 m 19 ls [.int (bI false)]) rfl ?_
    refine lv_if_eq (tgt := 24) hx hb dX8_kerf_19 (by decide) (fun c_19 => ?_) (fun c_19 => ?_)
    · skip
      have c_19 : false = false := bI_0.mp c_19
      refine lv_aload_n hx hb dX8_kerf_24 rfl (lv_at hl 0 rfl) ?_
      refine g_get S hE hI (C := RX8) (T := TX8) (N := 2) (ref := "StonecutterYardModel") (fun w h => (List.mem_cons_of_mem _ (List.mem_append_left _ (List.mem_append_right _ h)))) hM.1 rfl 1 (by decide) (List.mem_cons_of_mem _ (List.mem_append_left _ (List.mem_append_left _ (List.mem_of_getElem? (i := 0) rfl)))) (fun _ h9 => h9) (v := .ref (L 30 0)) rfl dX8_kerf_25 ?_
      refine g_get S hE hI (C := RX7) (T := TX7) (N := 3) (ref := "StonecutterYardModel$Yard") (fun w h => (List.mem_cons_of_mem _ (List.mem_append_right _ h))) hM.2.1.1.1 rfl 2 (by decide) (List.mem_cons_of_mem _ (List.mem_append_left _ (List.mem_append_left _ (List.mem_of_getElem? (i := 1) rfl)))) (fun _ h9 => h9) (v := .int (nI (yF y))) rfl dX8_kerf_28 ?_
      refine lv_istore_n (lv' := [(2, .int (nI (yF y))), (0, .ref h0), (1, .int (nI k))]) hx hb dX8_kerf_31 rfl hl (by decide) rfl (fun ls hl => ?_)
      refine lv_aload_n hx hb dX8_kerf_32 rfl (lv_at hl 1 rfl) ?_
      refine g_get S hE hI (C := RX8) (T := TX8) (N := 2) (ref := "StonecutterYardModel") (fun w h => (List.mem_cons_of_mem _ (List.mem_append_left _ (List.mem_append_right _ h)))) hM.1 rfl 1 (by decide) (List.mem_cons_of_mem _ (List.mem_append_left _ (List.mem_append_left _ (List.mem_of_getElem? (i := 0) rfl)))) (fun _ h9 => h9) (v := .ref (L 30 0)) rfl dX8_kerf_33 ?_
      refine lv_iload_n hx hb dX8_kerf_36 rfl (lv_at hl 2 rfl) ?_
      refine g_put S hE hI (C := RX7) (T := TX7) (N := 3) (ref := "StonecutterYardModel$Yard") (fun w h => (List.mem_cons_of_mem _ (List.mem_append_right _ h))) tyX7 tyX7_ok nmX7 hM.2.1.1.1 rfl 2 (by decide) (List.mem_cons_of_mem _ (List.mem_append_left _ (List.mem_append_left _ (List.mem_of_getElem? (i := 1) rfl)))) (fun _ h9 => h9) rfl rfl rfl (Nat.le_of_ble_eq_true rfl) dX8_kerf_37 (fun H locs hI => ?_)
      have hI : gI K A s (gset Gc_16 (5, 30, 0) (L 30 0) (.inr (8, [.ref (L 31 0), .ref (L 33 0), .int (nI k)]))) H locs := hI
      obtain ⟨G_1, hG_1⟩ : ∃ z, z = gset Gc_16 (5, 30, 0) (L 30 0) (.inr (8, [.ref (L 31 0), .ref (L 33 0), .int (nI k)])) := ⟨_, rfl⟩
      rw [← hG_1] at hI
      have o_G_1 : G_1 (9, 0, 0) = some (h0, .inr (9, [.int (nI 0), .ref (L 30 0)])) := by rw [hG_1, gset_ne (by simp)]; exact hM.1
      have ls_G_1 : G_1 (5, 31, 0) = some ((L 31 0), .inr (0, [.int m1, .ref ar1, .int (nI (ySc y))])) := by rw [hG_1, gset_ne (by simp)]; exact hl1
      have lk_G_1 : G_1 (5, 33, 0) = some ((L 33 0), .inr (0, [.int m2, .ref ar2, .int (nI (yKc y))])) := by rw [hG_1, gset_ne (by simp)]; exact hl2
      have yd_G_1 : G_1 (5, 30, 0) = some ((L 30 0), .inr (8, [.ref (L 31 0), .ref (L 33 0), .int (nI k)])) := by rw [hG_1]; exact gset_eq _ _ _ _
      refine lv_iload_n hx hb dX8_kerf_40 rfl (lv_at hl 0 rfl) ?_
      have hMY : MY K 5 L G_1 (ySetF y k) N := by rw [hG_1]; exact hM.2.1.setF (by decide) hk2
      exact g_iret S hI hr hlocks (Nat.zero_le _) (Nat.zero_le _) dX8_kerf_41 (mOk ho ⟨o_G_1, hMY, by decide, h40⟩ (hag.tr (by rw [hG_1]; exact AgM.rf.st (by decide))))
    · skip
      have c_19 : false = true := bI_1.mp c_19
      cases c_19
  · skip
    have c_7 : true = false := bI_0.mp c_7
    cases c_7
set_option maxHeartbeats 4000000 in
set_option maxRecDepth 100000 in
/-- X8_cut: cut1 -/
theorem m_cut1 (l : Launch) (K : gK) (G : gW) (L : Nat → Nat → Nat) (h0 th : Nat) (y : YV) (N : Nat) (x : Int32) (dn : Bool) (px : Int32) (hM : MdC K L h0 th G y N) (hxn : ∀ q, q < ySc y → x ≠ nI q) (hr9 : inR x (ySc y) = false) : gM l yX8_cut wsX8_cut 9 201 24 270 K [.ref h0, .int x, .int (bI dn), .int px] G (mPost K h0 G (oCut y x dn px)) (gNo) := by
  refine gM.of (cc := cX8_cut) (maxL := 4) (ret := (some .int)) (by decide) rfl (Nat.le_of_ble_eq_true rfl) ?_
  intro p e s m below meth c A S hr hlocks htab hname hE hA hI ls hl
  have hx := S.1
  have hb := S.2.1
  have hml := S.2.2.1
  have hl : lv_has ls 4 [(0, .ref h0), (1, .int x), (2, .int (bI dn)), (3, .int px)] := hl
  have h44 := hM.2.1.1.2.2.1
  have h6 := hM.2.1.1.2.2.2
  have hf2 := hM.2.1.1.2.1
  have h40 := hM.2.2.2
  have hth := hM.2.2.1
  have hag : AgM G G := AgM.rf
  obtain ⟨m1, ar1, hl1⟩ := hM.2.1.2.1.obj
  obtain ⟨m2, ar2, hl2⟩ := hM.2.1.2.2.1.obj
  have ho : oCut y x dn px = (1, 0, y) := by unfold oCut; rw [if_neg (by rw [hr9]; decide)]
  obtain ⟨H, hHe⟩ : ∃ z, z = s.heap := ⟨_, rfl⟩
  obtain ⟨locs, hLe⟩ : ∃ z : List Loc, z = [] := ⟨_, rfl⟩
  rw [← hHe, ← hLe]
  have hI : gI K A s G H locs := by rw [hHe, hLe]; exact hI
  clear hHe hLe
  refine lv_aload_n hx hb dX8_cut_0 rfl (lv_at hl 0 rfl) ?_
  refine lv_iload_n hx hb dX8_cut_1 rfl (lv_at hl 1 rfl) ?_
  refine g_callV (As := [.int x]) (rest := []) (b := h0) (n := 1) S hE hI hA (c_X8_isNoSlab l K _ L h0 th y N x hM) gX8_cut_X8_isNoSlab rfl (by decide +kernel) ⟨Nat.le_of_ble_eq_true rfl, Nat.le_of_ble_eq_true rfl⟩ (g_hro hE hI hM.1 rfl) rfl hl.1 rfl (Nat.le_of_ble_eq_true rfl) dX8_cut_2 ⟨Nat.le_of_ble_eq_true rfl, Nat.le_of_ble_eq_true rfl⟩ (fun E ce q9 Gx H1 locs1 hx9 => hx9.elim) (fun rv Gc_2 H locs hp hI => ?_)
  obtain ⟨rfl, hM, hg9⟩ := hp
  have hag := hag.tr hg9
  rw [hr9]
  rw [hr9] at hM
  have hM : MdC K L h0 1 Gc_2 y N := hM
  obtain ⟨m1, ar1, hl1⟩ := hM.2.1.2.1.obj
  obtain ⟨m2, ar2, hl2⟩ := hM.2.1.2.2.1.obj
  refine W.eq (g2 := F0 m 5 ls [.int (bI true)]) rfl ?_
  refine lv_if_ne (tgt := 77) hx hb dX8_cut_5 (by decide) (fun c_5 => ?_) (fun c_5 => ?_)
  · skip
    have c_5 : true = true := bI_1.mp c_5
    refine lv_iconst (v := nI 0) hx hb dX8_cut_77 (by decide) ?_
    exact g_iret S hI hr hlocks (Nat.zero_le _) (Nat.zero_le _) dX8_cut_78 (mThrow ho (by decide) hM hag)
  · skip
    have c_5 : true = false := bI_0.mp c_5
    cases c_5
set_option maxHeartbeats 4000000 in
set_option maxRecDepth 100000 in
/-- X8_cut: cut2 -/
theorem m_cut2 (l : Launch) (K : gK) (G : gW) (L : Nat → Nat → Nat) (h0 th : Nat) (y : YV) (N : Nat) (i : Nat) (dn : Bool) (px : Int32) (hM : MdC K L h0 th G y N) (hi : i < ySc y) (hcan : canI (yLen (yS y i) dn) (yF y) px = false) : gM l yX8_cut wsX8_cut 9 201 24 270 K [.ref h0, .int (nI i), .int (bI dn), .int px] G (mPost K h0 G (oCut y (nI i) dn px)) (gNo) := by
  refine gM.of (cc := cX8_cut) (maxL := 4) (ret := (some .int)) (by decide) rfl (Nat.le_of_ble_eq_true rfl) ?_
  intro p e s m below meth c A S hr hlocks htab hname hE hA hI ls hl
  have hx := S.1
  have hb := S.2.1
  have hml := S.2.2.1
  have hl : lv_has ls 4 [(0, .ref h0), (1, .int (nI i)), (2, .int (bI dn)), (3, .int px)] := hl
  have h44 := hM.2.1.1.2.2.1
  have h6 := hM.2.1.1.2.2.2
  have hf2 := hM.2.1.1.2.1
  have h40 := hM.2.2.2
  have hth := hM.2.2.1
  have hag : AgM G G := AgM.rf
  have hri : inR (nI i) (ySc y) = true := inR_nI hi (by omega)
  have hiN : iN (nI i) = i := iN_nI (by omega)
  obtain ⟨m1, ar1, hl1⟩ := hM.2.1.2.1.obj
  obtain ⟨m2, ar2, hl2⟩ := hM.2.1.2.2.1.obj
  obtain ⟨hsl, hfl, hsok⟩ := hM.2.1.2.2.2.1 i hi
  obtain ⟨s1, s2, s3, s4, s5, s6, s7, s8⟩ := id hsok
  have ho : oCut y (nI i) dn px = (2, 0, y) := by unfold oCut; rw [if_pos hri, hiN, if_neg (by rw [hcan]; decide)]
  obtain ⟨H, hHe⟩ : ∃ z, z = s.heap := ⟨_, rfl⟩
  obtain ⟨locs, hLe⟩ : ∃ z : List Loc, z = [] := ⟨_, rfl⟩
  rw [← hHe, ← hLe]
  have hI : gI K A s G H locs := by rw [hHe, hLe]; exact hI
  clear hHe hLe
  refine lv_aload_n hx hb dX8_cut_0 rfl (lv_at hl 0 rfl) ?_
  refine lv_iload_n hx hb dX8_cut_1 rfl (lv_at hl 1 rfl) ?_
  refine g_callV (As := [.int (nI i)]) (rest := []) (b := h0) (n := 1) S hE hI hA (c_X8_isNoSlab l K _ L h0 th y N (nI i) hM) gX8_cut_X8_isNoSlab rfl (by decide +kernel) ⟨Nat.le_of_ble_eq_true rfl, Nat.le_of_ble_eq_true rfl⟩ (g_hro hE hI hM.1 rfl) rfl hl.1 rfl (Nat.le_of_ble_eq_true rfl) dX8_cut_2 ⟨Nat.le_of_ble_eq_true rfl, Nat.le_of_ble_eq_true rfl⟩ (fun E ce q9 Gx H1 locs1 hx9 => hx9.elim) (fun rv Gc_2 H locs hp hI => ?_)
  obtain ⟨rfl, hM, hg9⟩ := hp
  have hag := hag.tr hg9
  rw [hri]
  rw [hri] at hM
  have hM : MdC K L h0 0 Gc_2 y N := hM
  obtain ⟨m1, ar1, hl1⟩ := hM.2.1.2.1.obj
  obtain ⟨m2, ar2, hl2⟩ := hM.2.1.2.2.1.obj
  obtain ⟨hsl, hfl, hsok⟩ := hM.2.1.2.2.2.1 i hi
  obtain ⟨s1, s2, s3, s4, s5, s6, s7, s8⟩ := id hsok
  refine W.eq (g2 := F0 m 5 ls [.int (bI false)]) rfl ?_
  refine lv_if_ne (tgt := 77) hx hb dX8_cut_5 (by decide) (fun c_5 => ?_) (fun c_5 => ?_)
  · skip
    have c_5 : false = true := bI_1.mp c_5
    cases c_5
  · skip
    have c_5 : false = false := bI_0.mp c_5
    refine lv_aload_n hx hb dX8_cut_8 rfl (lv_at hl 0 rfl) ?_
    refine lv_aload_n hx hb dX8_cut_9 rfl (lv_at hl 0 rfl) ?_
    refine g_get S hE hI (C := RX8) (T := TX8) (N := 2) (ref := "StonecutterYardModel") (fun w h => (List.mem_cons_of_mem _ (List.mem_append_left _ (List.mem_append_left _ (List.mem_append_left _ (List.mem_append_right _ h)))))) hM.1 rfl 1 (by decide) (List.mem_cons_of_mem _ (List.mem_append_left _ (List.mem_append_left _ (List.mem_append_left _ (List.mem_append_left _ (List.mem_append_left _ (List.mem_of_getElem? (i := 0) rfl))))))) (fun _ h9 => h9) (v := .ref (L 30 0)) rfl dX8_cut_10 ?_
    refine lv_aload_n hx hb dX8_cut_13 rfl (lv_at hl 0 rfl) ?_
    refine lv_iload_n hx hb dX8_cut_14 rfl (lv_at hl 1 rfl) ?_
    refine g_callV (As := [.int (nI i)]) (rest := [.ref (L 30 0), .ref h0]) (b := h0) (n := 1) S hE hI hA (c_X8_of l K _ L h0 0 y N i hM hi) gX8_cut_X8_of rfl (by decide +kernel) ⟨Nat.le_of_ble_eq_true rfl, Nat.le_of_ble_eq_true rfl⟩ (g_hro hE hI hM.1 rfl) rfl hl.1 rfl (Nat.le_of_ble_eq_true rfl) dX8_cut_15 ⟨Nat.le_of_ble_eq_true rfl, Nat.le_of_ble_eq_true rfl⟩ (fun E ce q9 Gx H1 locs1 hx9 => hx9.elim) (fun rv Gc_15 H locs hp hI => ?_)
    obtain ⟨rfl, hq9⟩ := hp
    rw [hq9] at hI
    refine W.eq (g2 := F0 m 18 ls [.ref (L 35 i), .ref (L 30 0), .ref h0]) rfl ?_
    refine lv_iload_n hx hb dX8_cut_18 rfl (lv_at hl 2 rfl) ?_
    refine lv_iload_n hx hb dX8_cut_19 rfl (lv_at hl 3 rfl) ?_
    refine g_callV (As := [.ref (L 35 i), .int (bI dn), .int px]) (rest := [.ref h0]) (b := (L 30 0)) (n := 3) S hE hI hA (c_X7_canCut l K _ 5 L y N i dn px hM.2.1 hi) gX8_cut_X7_canCut rfl (by decide +kernel) ⟨Nat.le_of_ble_eq_true rfl, Nat.le_of_ble_eq_true rfl⟩ (g_hro hE hI hM.2.1.1.1 rfl) rfl hl.1 rfl (Nat.le_of_ble_eq_true rfl) dX8_cut_20 ⟨Nat.le_of_ble_eq_true rfl, Nat.le_of_ble_eq_true rfl⟩ (fun E ce q9 Gx H1 locs1 hx9 => hx9.elim) (fun rv Gc_20 H locs hp hI => ?_)
    obtain ⟨rfl, hq9⟩ := hp
    rw [hq9] at hI
    rw [hcan]
    refine W.eq (g2 := F0 m 23 ls [.int (bI false), .ref h0]) rfl ?_
    refine lv_if_ne (tgt := 30) hx hb dX8_cut_23 (by decide) (fun c_23 => ?_) (fun c_23 => ?_)
    · skip
      have c_23 : false = true := bI_1.mp c_23
      cases c_23
    · skip
      have c_23 : false = false := bI_0.mp c_23
      refine lv_iconst (v := nI 1) hx hb dX8_cut_26 (by decide) ?_
      refine lv_goto (tgt := 31) hx hb dX8_cut_27 (by decide) ?_
      refine lv_iconst (v := nI 2) hx hb dX8_cut_31 (by decide) ?_
      refine g_callV (As := [.int (nI 1), .int (nI 2)]) (rest := []) (b := h0) (n := 2) S hE hI hA (c_ref l K _ L h0 y N true 2 hM (by decide)) gX8_cut_X8_refuse rfl (by decide +kernel) ⟨Nat.le_of_ble_eq_true rfl, Nat.le_of_ble_eq_true rfl⟩ (g_hro hE hI hM.1 rfl) rfl hl.1 rfl (Nat.le_of_ble_eq_true rfl) dX8_cut_32 ⟨Nat.le_of_ble_eq_true rfl, Nat.le_of_ble_eq_true rfl⟩ (fun E ce q9 Gx H1 locs1 hx9 => hx9.elim) (fun rv Gc_32 H locs hp hI => ?_)
      obtain ⟨rfl, hM, hg9⟩ := hp
      have hag := hag.tr hg9
      have hM : MdC K L h0 2 Gc_32 y N := hM
      obtain ⟨m1, ar1, hl1⟩ := hM.2.1.2.1.obj
      obtain ⟨m2, ar2, hl2⟩ := hM.2.1.2.2.1.obj
      obtain ⟨hsl, hfl, hsok⟩ := hM.2.1.2.2.2.1 i hi
      obtain ⟨s1, s2, s3, s4, s5, s6, s7, s8⟩ := id hsok
      refine W.eq (g2 := F0 m 35 ls [.int (bI true)]) rfl ?_
      refine lv_if_ne (tgt := 77) hx hb dX8_cut_35 (by decide) (fun c_35 => ?_) (fun c_35 => ?_)
      · skip
        have c_35 : true = true := bI_1.mp c_35
        refine lv_iconst (v := nI 0) hx hb dX8_cut_77 (by decide) ?_
        exact g_iret S hI hr hlocks (Nat.zero_le _) (Nat.zero_le _) dX8_cut_78 (mThrow ho (by decide) hM hag)
      · skip
        have c_35 : true = false := bI_0.mp c_35
        cases c_35
set_option maxHeartbeats 4000000 in
set_option maxRecDepth 100000 in
/-- X8_cut: cut3 -/
theorem m_cut3 (l : Launch) (K : gK) (G : gW) (L : Nat → Nat → Nat) (h0 th : Nat) (y : YV) (N : Nat) (i : Nat) (dn : Bool) (px : Int32) (hM : MdC K L h0 th G y N) (hi : i < ySc y) (hcan : canI (yLen (yS y i) dn) (yF y) px = true) (hcond : ¬ (sT (yS y i) = 0 ∧ ySc y ≤ 38)) : gM l yX8_cut wsX8_cut 9 201 24 270 K [.ref h0, .int (nI i), .int (bI dn), .int px] G (mPost K h0 G (oCut y (nI i) dn px)) (gNo) := by
  refine gM.of (cc := cX8_cut) (maxL := 4) (ret := (some .int)) (by decide) rfl (Nat.le_of_ble_eq_true rfl) ?_
  intro p e s m below meth c A S hr hlocks htab hname hE hA hI ls hl
  have hx := S.1
  have hb := S.2.1
  have hml := S.2.2.1
  have hl : lv_has ls 4 [(0, .ref h0), (1, .int (nI i)), (2, .int (bI dn)), (3, .int px)] := hl
  have h44 := hM.2.1.1.2.2.1
  have h6 := hM.2.1.1.2.2.2
  have hf2 := hM.2.1.1.2.1
  have h40 := hM.2.2.2
  have hth := hM.2.2.1
  have hag : AgM G G := AgM.rf
  have hri : inR (nI i) (ySc y) = true := inR_nI hi (by omega)
  have hiN : iN (nI i) = i := iN_nI (by omega)
  obtain ⟨m1, ar1, hl1⟩ := hM.2.1.2.1.obj
  obtain ⟨m2, ar2, hl2⟩ := hM.2.1.2.2.1.obj
  obtain ⟨hsl, hfl, hsok⟩ := hM.2.1.2.2.2.1 i hi
  obtain ⟨s1, s2, s3, s4, s5, s6, s7, s8⟩ := id hsok
  have ho : oCut y (nI i) dn px = (3, 0, y) := by unfold oCut; rw [if_pos hri, hiN, if_pos hcan, if_neg hcond]
  obtain ⟨H, hHe⟩ : ∃ z, z = s.heap := ⟨_, rfl⟩
  obtain ⟨locs, hLe⟩ : ∃ z : List Loc, z = [] := ⟨_, rfl⟩
  rw [← hHe, ← hLe]
  have hI : gI K A s G H locs := by rw [hHe, hLe]; exact hI
  clear hHe hLe
  refine lv_aload_n hx hb dX8_cut_0 rfl (lv_at hl 0 rfl) ?_
  refine lv_iload_n hx hb dX8_cut_1 rfl (lv_at hl 1 rfl) ?_
  refine g_callV (As := [.int (nI i)]) (rest := []) (b := h0) (n := 1) S hE hI hA (c_X8_isNoSlab l K _ L h0 th y N (nI i) hM) gX8_cut_X8_isNoSlab rfl (by decide +kernel) ⟨Nat.le_of_ble_eq_true rfl, Nat.le_of_ble_eq_true rfl⟩ (g_hro hE hI hM.1 rfl) rfl hl.1 rfl (Nat.le_of_ble_eq_true rfl) dX8_cut_2 ⟨Nat.le_of_ble_eq_true rfl, Nat.le_of_ble_eq_true rfl⟩ (fun E ce q9 Gx H1 locs1 hx9 => hx9.elim) (fun rv Gc_2 H locs hp hI => ?_)
  obtain ⟨rfl, hM, hg9⟩ := hp
  have hag := hag.tr hg9
  rw [hri]
  rw [hri] at hM
  have hM : MdC K L h0 0 Gc_2 y N := hM
  obtain ⟨m1, ar1, hl1⟩ := hM.2.1.2.1.obj
  obtain ⟨m2, ar2, hl2⟩ := hM.2.1.2.2.1.obj
  obtain ⟨hsl, hfl, hsok⟩ := hM.2.1.2.2.2.1 i hi
  obtain ⟨s1, s2, s3, s4, s5, s6, s7, s8⟩ := id hsok
  refine W.eq (g2 := F0 m 5 ls [.int (bI false)]) rfl ?_
  refine lv_if_ne (tgt := 77) hx hb dX8_cut_5 (by decide) (fun c_5 => ?_) (fun c_5 => ?_)
  · skip
    have c_5 : false = true := bI_1.mp c_5
    cases c_5
  · skip
    have c_5 : false = false := bI_0.mp c_5
    refine lv_aload_n hx hb dX8_cut_8 rfl (lv_at hl 0 rfl) ?_
    refine lv_aload_n hx hb dX8_cut_9 rfl (lv_at hl 0 rfl) ?_
    refine g_get S hE hI (C := RX8) (T := TX8) (N := 2) (ref := "StonecutterYardModel") (fun w h => (List.mem_cons_of_mem _ (List.mem_append_left _ (List.mem_append_left _ (List.mem_append_left _ (List.mem_append_right _ h)))))) hM.1 rfl 1 (by decide) (List.mem_cons_of_mem _ (List.mem_append_left _ (List.mem_append_left _ (List.mem_append_left _ (List.mem_append_left _ (List.mem_append_left _ (List.mem_of_getElem? (i := 0) rfl))))))) (fun _ h9 => h9) (v := .ref (L 30 0)) rfl dX8_cut_10 ?_
    refine lv_aload_n hx hb dX8_cut_13 rfl (lv_at hl 0 rfl) ?_
    refine lv_iload_n hx hb dX8_cut_14 rfl (lv_at hl 1 rfl) ?_
    refine g_callV (As := [.int (nI i)]) (rest := [.ref (L 30 0), .ref h0]) (b := h0) (n := 1) S hE hI hA (c_X8_of l K _ L h0 0 y N i hM hi) gX8_cut_X8_of rfl (by decide +kernel) ⟨Nat.le_of_ble_eq_true rfl, Nat.le_of_ble_eq_true rfl⟩ (g_hro hE hI hM.1 rfl) rfl hl.1 rfl (Nat.le_of_ble_eq_true rfl) dX8_cut_15 ⟨Nat.le_of_ble_eq_true rfl, Nat.le_of_ble_eq_true rfl⟩ (fun E ce q9 Gx H1 locs1 hx9 => hx9.elim) (fun rv Gc_15 H locs hp hI => ?_)
    obtain ⟨rfl, hq9⟩ := hp
    rw [hq9] at hI
    refine W.eq (g2 := F0 m 18 ls [.ref (L 35 i), .ref (L 30 0), .ref h0]) rfl ?_
    refine lv_iload_n hx hb dX8_cut_18 rfl (lv_at hl 2 rfl) ?_
    refine lv_iload_n hx hb dX8_cut_19 rfl (lv_at hl 3 rfl) ?_
    refine g_callV (As := [.ref (L 35 i), .int (bI dn), .int px]) (rest := [.ref h0]) (b := (L 30 0)) (n := 3) S hE hI hA (c_X7_canCut l K _ 5 L y N i dn px hM.2.1 hi) gX8_cut_X7_canCut rfl (by decide +kernel) ⟨Nat.le_of_ble_eq_true rfl, Nat.le_of_ble_eq_true rfl⟩ (g_hro hE hI hM.2.1.1.1 rfl) rfl hl.1 rfl (Nat.le_of_ble_eq_true rfl) dX8_cut_20 ⟨Nat.le_of_ble_eq_true rfl, Nat.le_of_ble_eq_true rfl⟩ (fun E ce q9 Gx H1 locs1 hx9 => hx9.elim) (fun rv Gc_20 H locs hp hI => ?_)
    obtain ⟨rfl, hq9⟩ := hp
    rw [hq9] at hI
    rw [hcan]
    refine W.eq (g2 := F0 m 23 ls [.int (bI true), .ref h0]) rfl ?_
    refine lv_if_ne (tgt := 30) hx hb dX8_cut_23 (by decide) (fun c_23 => ?_) (fun c_23 => ?_)
    · skip
      have c_23 : true = true := bI_1.mp c_23
      refine lv_iconst (v := nI 0) hx hb dX8_cut_30 (by decide) ?_
      refine lv_iconst (v := nI 2) hx hb dX8_cut_31 (by decide) ?_
      refine g_callV (As := [.int (nI 0), .int (nI 2)]) (rest := []) (b := h0) (n := 2) S hE hI hA (c_ref l K _ L h0 y N false 2 hM (by decide)) gX8_cut_X8_refuse rfl (by decide +kernel) ⟨Nat.le_of_ble_eq_true rfl, Nat.le_of_ble_eq_true rfl⟩ (g_hro hE hI hM.1 rfl) rfl hl.1 rfl (Nat.le_of_ble_eq_true rfl) dX8_cut_32 ⟨Nat.le_of_ble_eq_true rfl, Nat.le_of_ble_eq_true rfl⟩ (fun E ce q9 Gx H1 locs1 hx9 => hx9.elim) (fun rv Gc_32 H locs hp hI => ?_)
      obtain ⟨rfl, hM, hg9⟩ := hp
      have hag := hag.tr hg9
      have hM : MdC K L h0 0 Gc_32 y N := hM
      obtain ⟨m1, ar1, hl1⟩ := hM.2.1.2.1.obj
      obtain ⟨m2, ar2, hl2⟩ := hM.2.1.2.2.1.obj
      obtain ⟨hsl, hfl, hsok⟩ := hM.2.1.2.2.2.1 i hi
      obtain ⟨s1, s2, s3, s4, s5, s6, s7, s8⟩ := id hsok
      refine W.eq (g2 := F0 m 35 ls [.int (bI false)]) rfl ?_
      refine lv_if_ne (tgt := 77) hx hb dX8_cut_35 (by decide) (fun c_35 => ?_) (fun c_35 => ?_)
      · skip
        have c_35 : false = true := bI_1.mp c_35
        cases c_35
      · skip
        have c_35 : false = false := bI_0.mp c_35
        refine lv_aload_n hx hb dX8_cut_38 rfl (lv_at hl 0 rfl) ?_
        refine lv_aload_n hx hb dX8_cut_39 rfl (lv_at hl 0 rfl) ?_
        refine lv_iload_n hx hb dX8_cut_40 rfl (lv_at hl 1 rfl) ?_
        refine g_callV (As := [.int (nI i)]) (rest := [.ref h0]) (b := h0) (n := 1) S hE hI hA (c_X8_of l K _ L h0 0 y N i hM hi) gX8_cut_X8_of rfl (by decide +kernel) ⟨Nat.le_of_ble_eq_true rfl, Nat.le_of_ble_eq_true rfl⟩ (g_hro hE hI hM.1 rfl) rfl hl.1 rfl (Nat.le_of_ble_eq_true rfl) dX8_cut_41 ⟨Nat.le_of_ble_eq_true rfl, Nat.le_of_ble_eq_true rfl⟩ (fun E ce q9 Gx H1 locs1 hx9 => hx9.elim) (fun rv Gc_41 H locs hp hI => ?_)
        obtain ⟨rfl, hq9⟩ := hp
        rw [hq9] at hI
        refine W.eq (g2 := F0 m 44 ls [.ref (L 35 i), .ref h0]) rfl ?_
        refine g_callV (As := []) (rest := [.ref h0]) (b := (L 35 i)) (n := 0) S hE hI hA (c_X6_isThere l K _ (5, 35, i) (L 35 i) (yS y i) (L 36 i) hsl s6) gX8_cut_X6_isThere rfl (by decide +kernel) ⟨Nat.le_of_ble_eq_true rfl, Nat.le_of_ble_eq_true rfl⟩ (g_hro hE hI hsl rfl) rfl hl.1 rfl (Nat.le_of_ble_eq_true rfl) dX8_cut_44 ⟨Nat.le_of_ble_eq_true rfl, Nat.le_of_ble_eq_true rfl⟩ (fun E ce q9 Gx H1 locs1 hx9 => hx9.elim) (fun rv Gc_44 H locs hp hI => ?_)
        obtain ⟨rfl, hq9⟩ := hp
        rw [hq9] at hI
        refine W.eq (g2 := F0 m 47 ls [.int (bI (decide (sT (yS y i) = 0))), .ref h0]) rfl ?_
        refine lv_if_eq (tgt := 65) hx hb dX8_cut_47 (by decide) (fun c_47 => ?_) (fun c_47 => ?_)
        · skip
          have c_47 : (decide (sT (yS y i) = 0)) = false := bI_0.mp c_47
          have c_47 := of_decide_eq_false c_47
          refine lv_iconst (v := nI 1) hx hb dX8_cut_65 (by decide) ?_
          refine lv_goto (tgt := 70) hx hb dX8_cut_66 (by decide) ?_
          refine lv_iconst (v := nI 3) hx hb dX8_cut_70 (by decide) ?_
          refine g_callV (As := [.int (nI 1), .int (nI 3)]) (rest := []) (b := h0) (n := 2) S hE hI hA (c_ref l K _ L h0 y N true 3 hM (by decide)) gX8_cut_X8_refuse rfl (by decide +kernel) ⟨Nat.le_of_ble_eq_true rfl, Nat.le_of_ble_eq_true rfl⟩ (g_hro hE hI hM.1 rfl) rfl hl.1 rfl (Nat.le_of_ble_eq_true rfl) dX8_cut_71 ⟨Nat.le_of_ble_eq_true rfl, Nat.le_of_ble_eq_true rfl⟩ (fun E ce q9 Gx H1 locs1 hx9 => hx9.elim) (fun rv Gc_71 H locs hp hI => ?_)
          obtain ⟨rfl, hM, hg9⟩ := hp
          have hag := hag.tr hg9
          have hM : MdC K L h0 3 Gc_71 y N := hM
          obtain ⟨m1, ar1, hl1⟩ := hM.2.1.2.1.obj
          obtain ⟨m2, ar2, hl2⟩ := hM.2.1.2.2.1.obj
          obtain ⟨hsl, hfl, hsok⟩ := hM.2.1.2.2.2.1 i hi
          obtain ⟨s1, s2, s3, s4, s5, s6, s7, s8⟩ := id hsok
          refine W.eq (g2 := F0 m 74 ls [.int (bI true)]) rfl ?_
          refine lv_if_eq (tgt := 79) hx hb dX8_cut_74 (by decide) (fun c_74 => ?_) (fun c_74 => ?_)
          · skip
            have c_74 : true = false := bI_0.mp c_74
            cases c_74
          · skip
            have c_74 : true = true := bI_1.mp c_74
            refine lv_iconst (v := nI 0) hx hb dX8_cut_77 (by decide) ?_
            exact g_iret S hI hr hlocks (Nat.zero_le _) (Nat.zero_le _) dX8_cut_78 (mThrow ho (by decide) hM hag)
        · skip
          have c_47 : (decide (sT (yS y i) = 0)) = true := bI_1.mp c_47
          have c_47 := of_decide_eq_true c_47
          refine lv_aload_n hx hb dX8_cut_50 rfl (lv_at hl 0 rfl) ?_
          refine g_get S hE hI (C := RX8) (T := TX8) (N := 2) (ref := "StonecutterYardModel") (fun w h => (List.mem_cons_of_mem _ (List.mem_append_left _ (List.mem_append_left _ (List.mem_append_left _ (List.mem_append_right _ h)))))) hM.1 rfl 1 (by decide) (List.mem_cons_of_mem _ (List.mem_append_left _ (List.mem_append_left _ (List.mem_append_left _ (List.mem_append_left _ (List.mem_append_left _ (List.mem_of_getElem? (i := 0) rfl))))))) (fun _ h9 => h9) (v := .ref (L 30 0)) rfl dX8_cut_51 ?_
          refine g_get S hE hI (C := RX7) (T := TX7) (N := 3) (ref := "StonecutterYardModel$Yard") (fun w h => (List.mem_cons_of_mem _ (List.mem_append_left _ (List.mem_append_left _ (List.mem_append_right _ h))))) hM.2.1.1.1 rfl 0 (by decide) (List.mem_cons_of_mem _ (List.mem_append_left _ (List.mem_append_left _ (List.mem_append_left _ (List.mem_append_left _ (List.mem_append_left _ (List.mem_of_getElem? (i := 1) rfl))))))) (fun _ h9 => h9) (v := .ref (L 31 0)) rfl dX8_cut_54 ?_
          refine g_callV (As := []) (rest := [.ref h0]) (b := (L 31 0)) (n := 0) S hE hI hA (l_size l K _ (5, 31, 0) (tbL 5 32) (L 31 0) (ySc y) (L 35) hM.2.1.2.1) gX8_cut_Jx4a65c_size_8abf5 rfl (by decide +kernel) ⟨Nat.le_of_ble_eq_true rfl, Nat.le_of_ble_eq_true rfl⟩ (g_hro hE hI hl1 rfl) rfl hl.1 rfl (Nat.le_of_ble_eq_true rfl) dX8_cut_57 ⟨Nat.le_of_ble_eq_true rfl, Nat.le_of_ble_eq_true rfl⟩ (fun E ce q9 Gx H1 locs1 hx9 => hx9.elim) (fun rv Gc_57 H locs hp hI => ?_)
          obtain ⟨rfl, hq9⟩ := hp
          rw [hq9] at hI
          refine W.eq (g2 := F0 m 60 ls [.int (nI (ySc y)), .ref h0]) rfl ?_
          refine lv_bipush (v := nI 38) hx hb dX8_cut_60 (by decide) ?_
          refine lv_icmp_le (tgt := 69) hx hb dX8_cut_62 (by decide) (fun c_62 => ?_) (fun c_62 => ?_)
          · skip
            have c_62 : (ySc y) ≤ 38 := (nI_leI (a := (ySc y)) (b := 38) (by omega) (by omega)).mp c_62
            exact absurd ⟨c_47, c_62⟩ hcond
          · skip
            have c_62 : 38 < (ySc y) := Nat.not_le.mp (fun z => c_62 ((nI_leI (a := (ySc y)) (b := 38) (by omega) (by omega)).mpr z))
            refine lv_iconst (v := nI 1) hx hb dX8_cut_65 (by decide) ?_
            refine lv_goto (tgt := 70) hx hb dX8_cut_66 (by decide) ?_
            refine lv_iconst (v := nI 3) hx hb dX8_cut_70 (by decide) ?_
            refine g_callV (As := [.int (nI 1), .int (nI 3)]) (rest := []) (b := h0) (n := 2) S hE hI hA (c_ref l K _ L h0 y N true 3 hM (by decide)) gX8_cut_X8_refuse rfl (by decide +kernel) ⟨Nat.le_of_ble_eq_true rfl, Nat.le_of_ble_eq_true rfl⟩ (g_hro hE hI hM.1 rfl) rfl hl.1 rfl (Nat.le_of_ble_eq_true rfl) dX8_cut_71 ⟨Nat.le_of_ble_eq_true rfl, Nat.le_of_ble_eq_true rfl⟩ (fun E ce q9 Gx H1 locs1 hx9 => hx9.elim) (fun rv Gc_71 H locs hp hI => ?_)
            obtain ⟨rfl, hM, hg9⟩ := hp
            have hag := hag.tr hg9
            have hM : MdC K L h0 3 Gc_71 y N := hM
            obtain ⟨m1, ar1, hl1⟩ := hM.2.1.2.1.obj
            obtain ⟨m2, ar2, hl2⟩ := hM.2.1.2.2.1.obj
            obtain ⟨hsl, hfl, hsok⟩ := hM.2.1.2.2.2.1 i hi
            obtain ⟨s1, s2, s3, s4, s5, s6, s7, s8⟩ := id hsok
            refine W.eq (g2 := F0 m 74 ls [.int (bI true)]) rfl ?_
            refine lv_if_eq (tgt := 79) hx hb dX8_cut_74 (by decide) (fun c_74 => ?_) (fun c_74 => ?_)
            · skip
              have c_74 : true = false := bI_0.mp c_74
              cases c_74
            · skip
              have c_74 : true = true := bI_1.mp c_74
              refine lv_iconst (v := nI 0) hx hb dX8_cut_77 (by decide) ?_
              exact g_iret S hI hr hlocks (Nat.zero_le _) (Nat.zero_le _) dX8_cut_78 (mThrow ho (by decide) hM hag)
    · skip
      have c_23 : true = false := bI_0.mp c_23
      cases c_23
set_option maxHeartbeats 4000000 in
set_option maxRecDepth 100000 in
/-- X8_cut: cut4 -/
theorem m_cut4 (l : Launch) (K : gK) (G : gW) (L : Nat → Nat → Nat) (h0 th : Nat) (y : YV) (N : Nat) (i : Nat) (dn : Bool) (x : Nat) (hM : MdC K L h0 th G y N) (hi : i < ySc y) (hx24 : x ≤ 24) (hcan : canC (yLen (yS y i) dn) (yF y) x = true) (hcond : sT (yS y i) = 0 ∧ ySc y ≤ 38) : gM l yX8_cut wsX8_cut 9 201 24 270 K [.ref h0, .int (nI i), .int (bI dn), .int (nI x)] G (mPost K h0 G (oCut y (nI i) dn (nI x))) (gNo) := by
  refine gM.of (cc := cX8_cut) (maxL := 4) (ret := (some .int)) (by decide) rfl (Nat.le_of_ble_eq_true rfl) ?_
  intro p e s m below meth c A S hr hlocks htab hname hE hA hI ls hl
  have hx := S.1
  have hb := S.2.1
  have hml := S.2.2.1
  have hl : lv_has ls 4 [(0, .ref h0), (1, .int (nI i)), (2, .int (bI dn)), (3, .int (nI x))] := hl
  have h44 := hM.2.1.1.2.2.1
  have h6 := hM.2.1.1.2.2.2
  have hf2 := hM.2.1.1.2.1
  have h40 := hM.2.2.2
  have hth := hM.2.2.1
  have hag : AgM G G := AgM.rf
  have hri : inR (nI i) (ySc y) = true := inR_nI hi (by omega)
  have hiN : iN (nI i) = i := iN_nI (by omega)
  obtain ⟨m1, ar1, hl1⟩ := hM.2.1.2.1.obj
  obtain ⟨m2, ar2, hl2⟩ := hM.2.1.2.2.1.obj
  obtain ⟨hsl, hfl, hsok⟩ := hM.2.1.2.2.2.1 i hi
  obtain ⟨s1, s2, s3, s4, s5, s6, s7, s8⟩ := id hsok
  have hcan9 : canI (yLen (yS y i) dn) (yF y) (nI x) = true := by rw [canI_nI (by omega)]; exact hcan
  have ho : oCut y (nI i) dn (nI x) = (0, nI (ySc y), yCut y i dn x) := by unfold oCut; rw [if_pos hri, hiN, if_pos (by rw [canI_nI (by omega)]; exact hcan), if_pos hcond, iN_nI (by omega)]
  obtain ⟨H, hHe⟩ : ∃ z, z = s.heap := ⟨_, rfl⟩
  obtain ⟨locs, hLe⟩ : ∃ z : List Loc, z = [] := ⟨_, rfl⟩
  rw [← hHe, ← hLe]
  have hI : gI K A s G H locs := by rw [hHe, hLe]; exact hI
  clear hHe hLe
  refine lv_aload_n hx hb dX8_cut_0 rfl (lv_at hl 0 rfl) ?_
  refine lv_iload_n hx hb dX8_cut_1 rfl (lv_at hl 1 rfl) ?_
  refine g_callV (As := [.int (nI i)]) (rest := []) (b := h0) (n := 1) S hE hI hA (c_X8_isNoSlab l K _ L h0 th y N (nI i) hM) gX8_cut_X8_isNoSlab rfl (by decide +kernel) ⟨Nat.le_of_ble_eq_true rfl, Nat.le_of_ble_eq_true rfl⟩ (g_hro hE hI hM.1 rfl) rfl hl.1 rfl (Nat.le_of_ble_eq_true rfl) dX8_cut_2 ⟨Nat.le_of_ble_eq_true rfl, Nat.le_of_ble_eq_true rfl⟩ (fun E ce q9 Gx H1 locs1 hx9 => hx9.elim) (fun rv Gc_2 H locs hp hI => ?_)
  obtain ⟨rfl, hM, hg9⟩ := hp
  have hag := hag.tr hg9
  rw [hri]
  rw [hri] at hM
  have hM : MdC K L h0 0 Gc_2 y N := hM
  obtain ⟨m1, ar1, hl1⟩ := hM.2.1.2.1.obj
  obtain ⟨m2, ar2, hl2⟩ := hM.2.1.2.2.1.obj
  obtain ⟨hsl, hfl, hsok⟩ := hM.2.1.2.2.2.1 i hi
  obtain ⟨s1, s2, s3, s4, s5, s6, s7, s8⟩ := id hsok
  refine W.eq (g2 := F0 m 5 ls [.int (bI false)]) rfl ?_
  refine lv_if_ne (tgt := 77) hx hb dX8_cut_5 (by decide) (fun c_5 => ?_) (fun c_5 => ?_)
  · skip
    have c_5 : false = true := bI_1.mp c_5
    cases c_5
  · skip
    have c_5 : false = false := bI_0.mp c_5
    refine lv_aload_n hx hb dX8_cut_8 rfl (lv_at hl 0 rfl) ?_
    refine lv_aload_n hx hb dX8_cut_9 rfl (lv_at hl 0 rfl) ?_
    refine g_get S hE hI (C := RX8) (T := TX8) (N := 2) (ref := "StonecutterYardModel") (fun w h => (List.mem_cons_of_mem _ (List.mem_append_left _ (List.mem_append_left _ (List.mem_append_left _ (List.mem_append_right _ h)))))) hM.1 rfl 1 (by decide) (List.mem_cons_of_mem _ (List.mem_append_left _ (List.mem_append_left _ (List.mem_append_left _ (List.mem_append_left _ (List.mem_append_left _ (List.mem_of_getElem? (i := 0) rfl))))))) (fun _ h9 => h9) (v := .ref (L 30 0)) rfl dX8_cut_10 ?_
    refine lv_aload_n hx hb dX8_cut_13 rfl (lv_at hl 0 rfl) ?_
    refine lv_iload_n hx hb dX8_cut_14 rfl (lv_at hl 1 rfl) ?_
    refine g_callV (As := [.int (nI i)]) (rest := [.ref (L 30 0), .ref h0]) (b := h0) (n := 1) S hE hI hA (c_X8_of l K _ L h0 0 y N i hM hi) gX8_cut_X8_of rfl (by decide +kernel) ⟨Nat.le_of_ble_eq_true rfl, Nat.le_of_ble_eq_true rfl⟩ (g_hro hE hI hM.1 rfl) rfl hl.1 rfl (Nat.le_of_ble_eq_true rfl) dX8_cut_15 ⟨Nat.le_of_ble_eq_true rfl, Nat.le_of_ble_eq_true rfl⟩ (fun E ce q9 Gx H1 locs1 hx9 => hx9.elim) (fun rv Gc_15 H locs hp hI => ?_)
    obtain ⟨rfl, hq9⟩ := hp
    rw [hq9] at hI
    refine W.eq (g2 := F0 m 18 ls [.ref (L 35 i), .ref (L 30 0), .ref h0]) rfl ?_
    refine lv_iload_n hx hb dX8_cut_18 rfl (lv_at hl 2 rfl) ?_
    refine lv_iload_n hx hb dX8_cut_19 rfl (lv_at hl 3 rfl) ?_
    refine g_callV (As := [.ref (L 35 i), .int (bI dn), .int (nI x)]) (rest := [.ref h0]) (b := (L 30 0)) (n := 3) S hE hI hA (c_X7_canCut l K _ 5 L y N i dn (nI x) hM.2.1 hi) gX8_cut_X7_canCut rfl (by decide +kernel) ⟨Nat.le_of_ble_eq_true rfl, Nat.le_of_ble_eq_true rfl⟩ (g_hro hE hI hM.2.1.1.1 rfl) rfl hl.1 rfl (Nat.le_of_ble_eq_true rfl) dX8_cut_20 ⟨Nat.le_of_ble_eq_true rfl, Nat.le_of_ble_eq_true rfl⟩ (fun E ce q9 Gx H1 locs1 hx9 => hx9.elim) (fun rv Gc_20 H locs hp hI => ?_)
    obtain ⟨rfl, hq9⟩ := hp
    rw [hq9] at hI
    rw [hcan9]
    refine W.eq (g2 := F0 m 23 ls [.int (bI true), .ref h0]) rfl ?_
    refine lv_if_ne (tgt := 30) hx hb dX8_cut_23 (by decide) (fun c_23 => ?_) (fun c_23 => ?_)
    · skip
      have c_23 : true = true := bI_1.mp c_23
      refine lv_iconst (v := nI 0) hx hb dX8_cut_30 (by decide) ?_
      refine lv_iconst (v := nI 2) hx hb dX8_cut_31 (by decide) ?_
      refine g_callV (As := [.int (nI 0), .int (nI 2)]) (rest := []) (b := h0) (n := 2) S hE hI hA (c_ref l K _ L h0 y N false 2 hM (by decide)) gX8_cut_X8_refuse rfl (by decide +kernel) ⟨Nat.le_of_ble_eq_true rfl, Nat.le_of_ble_eq_true rfl⟩ (g_hro hE hI hM.1 rfl) rfl hl.1 rfl (Nat.le_of_ble_eq_true rfl) dX8_cut_32 ⟨Nat.le_of_ble_eq_true rfl, Nat.le_of_ble_eq_true rfl⟩ (fun E ce q9 Gx H1 locs1 hx9 => hx9.elim) (fun rv Gc_32 H locs hp hI => ?_)
      obtain ⟨rfl, hM, hg9⟩ := hp
      have hag := hag.tr hg9
      have hM : MdC K L h0 0 Gc_32 y N := hM
      obtain ⟨m1, ar1, hl1⟩ := hM.2.1.2.1.obj
      obtain ⟨m2, ar2, hl2⟩ := hM.2.1.2.2.1.obj
      obtain ⟨hsl, hfl, hsok⟩ := hM.2.1.2.2.2.1 i hi
      obtain ⟨s1, s2, s3, s4, s5, s6, s7, s8⟩ := id hsok
      refine W.eq (g2 := F0 m 35 ls [.int (bI false)]) rfl ?_
      refine lv_if_ne (tgt := 77) hx hb dX8_cut_35 (by decide) (fun c_35 => ?_) (fun c_35 => ?_)
      · skip
        have c_35 : false = true := bI_1.mp c_35
        cases c_35
      · skip
        have c_35 : false = false := bI_0.mp c_35
        refine lv_aload_n hx hb dX8_cut_38 rfl (lv_at hl 0 rfl) ?_
        refine lv_aload_n hx hb dX8_cut_39 rfl (lv_at hl 0 rfl) ?_
        refine lv_iload_n hx hb dX8_cut_40 rfl (lv_at hl 1 rfl) ?_
        refine g_callV (As := [.int (nI i)]) (rest := [.ref h0]) (b := h0) (n := 1) S hE hI hA (c_X8_of l K _ L h0 0 y N i hM hi) gX8_cut_X8_of rfl (by decide +kernel) ⟨Nat.le_of_ble_eq_true rfl, Nat.le_of_ble_eq_true rfl⟩ (g_hro hE hI hM.1 rfl) rfl hl.1 rfl (Nat.le_of_ble_eq_true rfl) dX8_cut_41 ⟨Nat.le_of_ble_eq_true rfl, Nat.le_of_ble_eq_true rfl⟩ (fun E ce q9 Gx H1 locs1 hx9 => hx9.elim) (fun rv Gc_41 H locs hp hI => ?_)
        obtain ⟨rfl, hq9⟩ := hp
        rw [hq9] at hI
        refine W.eq (g2 := F0 m 44 ls [.ref (L 35 i), .ref h0]) rfl ?_
        refine g_callV (As := []) (rest := [.ref h0]) (b := (L 35 i)) (n := 0) S hE hI hA (c_X6_isThere l K _ (5, 35, i) (L 35 i) (yS y i) (L 36 i) hsl s6) gX8_cut_X6_isThere rfl (by decide +kernel) ⟨Nat.le_of_ble_eq_true rfl, Nat.le_of_ble_eq_true rfl⟩ (g_hro hE hI hsl rfl) rfl hl.1 rfl (Nat.le_of_ble_eq_true rfl) dX8_cut_44 ⟨Nat.le_of_ble_eq_true rfl, Nat.le_of_ble_eq_true rfl⟩ (fun E ce q9 Gx H1 locs1 hx9 => hx9.elim) (fun rv Gc_44 H locs hp hI => ?_)
        obtain ⟨rfl, hq9⟩ := hp
        rw [hq9] at hI
        refine W.eq (g2 := F0 m 47 ls [.int (bI (decide (sT (yS y i) = 0))), .ref h0]) rfl ?_
        refine lv_if_eq (tgt := 65) hx hb dX8_cut_47 (by decide) (fun c_47 => ?_) (fun c_47 => ?_)
        · skip
          have c_47 : (decide (sT (yS y i) = 0)) = false := bI_0.mp c_47
          exact absurd hcond.1 (of_decide_eq_false c_47)
        · skip
          have c_47 : (decide (sT (yS y i) = 0)) = true := bI_1.mp c_47
          refine lv_aload_n hx hb dX8_cut_50 rfl (lv_at hl 0 rfl) ?_
          refine g_get S hE hI (C := RX8) (T := TX8) (N := 2) (ref := "StonecutterYardModel") (fun w h => (List.mem_cons_of_mem _ (List.mem_append_left _ (List.mem_append_left _ (List.mem_append_left _ (List.mem_append_right _ h)))))) hM.1 rfl 1 (by decide) (List.mem_cons_of_mem _ (List.mem_append_left _ (List.mem_append_left _ (List.mem_append_left _ (List.mem_append_left _ (List.mem_append_left _ (List.mem_of_getElem? (i := 0) rfl))))))) (fun _ h9 => h9) (v := .ref (L 30 0)) rfl dX8_cut_51 ?_
          refine g_get S hE hI (C := RX7) (T := TX7) (N := 3) (ref := "StonecutterYardModel$Yard") (fun w h => (List.mem_cons_of_mem _ (List.mem_append_left _ (List.mem_append_left _ (List.mem_append_right _ h))))) hM.2.1.1.1 rfl 0 (by decide) (List.mem_cons_of_mem _ (List.mem_append_left _ (List.mem_append_left _ (List.mem_append_left _ (List.mem_append_left _ (List.mem_append_left _ (List.mem_of_getElem? (i := 1) rfl))))))) (fun _ h9 => h9) (v := .ref (L 31 0)) rfl dX8_cut_54 ?_
          refine g_callV (As := []) (rest := [.ref h0]) (b := (L 31 0)) (n := 0) S hE hI hA (l_size l K _ (5, 31, 0) (tbL 5 32) (L 31 0) (ySc y) (L 35) hM.2.1.2.1) gX8_cut_Jx4a65c_size_8abf5 rfl (by decide +kernel) ⟨Nat.le_of_ble_eq_true rfl, Nat.le_of_ble_eq_true rfl⟩ (g_hro hE hI hl1 rfl) rfl hl.1 rfl (Nat.le_of_ble_eq_true rfl) dX8_cut_57 ⟨Nat.le_of_ble_eq_true rfl, Nat.le_of_ble_eq_true rfl⟩ (fun E ce q9 Gx H1 locs1 hx9 => hx9.elim) (fun rv Gc_57 H locs hp hI => ?_)
          obtain ⟨rfl, hq9⟩ := hp
          rw [hq9] at hI
          refine W.eq (g2 := F0 m 60 ls [.int (nI (ySc y)), .ref h0]) rfl ?_
          refine lv_bipush (v := nI 38) hx hb dX8_cut_60 (by decide) ?_
          refine lv_icmp_le (tgt := 69) hx hb dX8_cut_62 (by decide) (fun c_62 => ?_) (fun c_62 => ?_)
          · skip
            have c_62 : (ySc y) ≤ 38 := (nI_leI (a := (ySc y)) (b := 38) (by omega) (by omega)).mp c_62
            refine lv_iconst (v := nI 0) hx hb dX8_cut_69 (by decide) ?_
            refine lv_iconst (v := nI 3) hx hb dX8_cut_70 (by decide) ?_
            refine g_callV (As := [.int (nI 0), .int (nI 3)]) (rest := []) (b := h0) (n := 2) S hE hI hA (c_ref l K _ L h0 y N false 3 hM (by decide)) gX8_cut_X8_refuse rfl (by decide +kernel) ⟨Nat.le_of_ble_eq_true rfl, Nat.le_of_ble_eq_true rfl⟩ (g_hro hE hI hM.1 rfl) rfl hl.1 rfl (Nat.le_of_ble_eq_true rfl) dX8_cut_71 ⟨Nat.le_of_ble_eq_true rfl, Nat.le_of_ble_eq_true rfl⟩ (fun E ce q9 Gx H1 locs1 hx9 => hx9.elim) (fun rv Gc_71 H locs hp hI => ?_)
            obtain ⟨rfl, hM, hg9⟩ := hp
            have hag := hag.tr hg9
            have hM : MdC K L h0 0 Gc_71 y N := hM
            obtain ⟨m1, ar1, hl1⟩ := hM.2.1.2.1.obj
            obtain ⟨m2, ar2, hl2⟩ := hM.2.1.2.2.1.obj
            obtain ⟨hsl, hfl, hsok⟩ := hM.2.1.2.2.2.1 i hi
            obtain ⟨s1, s2, s3, s4, s5, s6, s7, s8⟩ := id hsok
            refine W.eq (g2 := F0 m 74 ls [.int (bI false)]) rfl ?_
            refine lv_if_eq (tgt := 79) hx hb dX8_cut_74 (by decide) (fun c_74 => ?_) (fun c_74 => ?_)
            · skip
              have c_74 : false = false := bI_0.mp c_74
              refine lv_aload_n hx hb dX8_cut_79 rfl (lv_at hl 0 rfl) ?_
              refine g_get S hE hI (C := RX8) (T := TX8) (N := 2) (ref := "StonecutterYardModel") (fun w h => (List.mem_cons_of_mem _ (List.mem_append_left _ (List.mem_append_left _ (List.mem_append_left _ (List.mem_append_right _ h)))))) hM.1 rfl 1 (by decide) (List.mem_cons_of_mem _ (List.mem_append_left _ (List.mem_append_left _ (List.mem_append_left _ (List.mem_append_left _ (List.mem_append_left _ (List.mem_of_getElem? (i := 0) rfl))))))) (fun _ h9 => h9) (v := .ref (L 30 0)) rfl dX8_cut_80 ?_
              refine lv_iload_n hx hb dX8_cut_83 rfl (lv_at hl 1 rfl) ?_
              refine lv_iload_n hx hb dX8_cut_84 rfl (lv_at hl 2 rfl) ?_
              refine lv_iload_n hx hb dX8_cut_85 rfl (lv_at hl 3 rfl) ?_
              refine g_callV (As := [.int (nI i), .int (bI dn), .int (nI x)]) (rest := []) (b := (L 30 0)) (n := 3) S hE hI hA (c_X7_cutB l K _ 5 L y N i x dn hM.2.1 hi hcan (by omega) (by decide)) gX8_cut_X7_cut rfl (by decide +kernel) ⟨Nat.le_of_ble_eq_true rfl, Nat.le_of_ble_eq_true rfl⟩ (g_hro hE hI hM.2.1.1.1 rfl) rfl hl.1 rfl (Nat.le_of_ble_eq_true rfl) dX8_cut_86 ⟨by show _ ≤ 24; omega, by show _ ≤ 270; omega⟩ (fun E ce q9 Gx H1 locs1 hx9 => hx9.elim) (fun rv Gc_86 H locs hp hI => ?_)
              obtain ⟨L2, N2, rfl, hMY, hN2, hL2, hfr⟩ := hp
              refine W.eq (g2 := F0 m 89 ls [.int (nI (ySc y))]) rfl ?_
              exact g_iret S hI hr hlocks (by omega) (by omega) dX8_cut_89 (mOk ho ⟨by rw [hL2.y]; exact hfr.mo.trans hM.1, hMY, by decide, Nat.le_trans yCut_le (by omega)⟩ (hag.tr hfr.ag))
            · skip
              have c_74 : false = true := bI_1.mp c_74
              cases c_74
          · skip
            have c_62 : 38 < (ySc y) := Nat.not_le.mp (fun z => c_62 ((nI_leI (a := (ySc y)) (b := 38) (by omega) (by omega)).mpr z))
            exact absurd c_62 (by omega)
    · skip
      have c_23 : true = false := bI_0.mp c_23
      cases c_23
set_option maxHeartbeats 4000000 in
set_option maxRecDepth 100000 in
/-- X8_toss: tossA -/
theorem m_tossA (l : Launch) (K : gK) (G : gW) (L : Nat → Nat → Nat) (h0 th : Nat) (y : YV) (N : Nat) (x : Int32) (hM : MdC K L h0 th G y N) (hxn : ∀ q, q < ySc y → x ≠ nI q) (hr9 : inR x (ySc y) = false) : gM l yX8_toss wsX8_toss 6 125 0 0 K [.ref h0, .int x] G (mPost K h0 G (oToss y x)) (gNo) := by
  refine gM.of (cc := cX8_toss) (maxL := 2) (ret := (some .int)) (by decide) rfl (Nat.le_of_ble_eq_true rfl) ?_
  intro p e s m below meth c A S hr hlocks htab hname hE hA hI ls hl
  have hx := S.1
  have hb := S.2.1
  have hml := S.2.2.1
  have hl : lv_has ls 2 [(0, .ref h0), (1, .int x)] := hl
  have h44 := hM.2.1.1.2.2.1
  have h6 := hM.2.1.1.2.2.2
  have hf2 := hM.2.1.1.2.1
  have h40 := hM.2.2.2
  have hth := hM.2.2.1
  have hag : AgM G G := AgM.rf
  obtain ⟨m1, ar1, hl1⟩ := hM.2.1.2.1.obj
  obtain ⟨m2, ar2, hl2⟩ := hM.2.1.2.2.1.obj
  have ho : oToss y x = (1, 0, y) := by unfold oToss; rw [if_neg (by rw [hr9]; decide)]
  obtain ⟨H, hHe⟩ : ∃ z, z = s.heap := ⟨_, rfl⟩
  obtain ⟨locs, hLe⟩ : ∃ z : List Loc, z = [] := ⟨_, rfl⟩
  rw [← hHe, ← hLe]
  have hI : gI K A s G H locs := by rw [hHe, hLe]; exact hI
  clear hHe hLe
  refine lv_aload_n hx hb dX8_toss_0 rfl (lv_at hl 0 rfl) ?_
  refine lv_iload_n hx hb dX8_toss_1 rfl (lv_at hl 1 rfl) ?_
  refine g_callV (As := [.int x]) (rest := []) (b := h0) (n := 1) S hE hI hA (c_X8_isNoSlab l K _ L h0 th y N x hM) gX8_toss_X8_isNoSlab rfl (by decide +kernel) ⟨Nat.le_of_ble_eq_true rfl, Nat.le_of_ble_eq_true rfl⟩ (g_hro hE hI hM.1 rfl) rfl hl.1 rfl (Nat.le_of_ble_eq_true rfl) dX8_toss_2 ⟨Nat.le_of_ble_eq_true rfl, Nat.le_of_ble_eq_true rfl⟩ (fun E ce q9 Gx H1 locs1 hx9 => hx9.elim) (fun rv Gc_2 H locs hp hI => ?_)
  obtain ⟨rfl, hM, hg9⟩ := hp
  have hag := hag.tr hg9
  rw [hr9]
  rw [hr9] at hM
  have hM : MdC K L h0 1 Gc_2 y N := hM
  obtain ⟨m1, ar1, hl1⟩ := hM.2.1.2.1.obj
  obtain ⟨m2, ar2, hl2⟩ := hM.2.1.2.2.1.obj
  refine W.eq (g2 := F0 m 5 ls [.int (bI true)]) rfl ?_
  refine lv_if_ne (tgt := 32) hx hb dX8_toss_5 (by decide) (fun c_5 => ?_) (fun c_5 => ?_)
  · skip
    have c_5 : true = true := bI_1.mp c_5
    refine lv_iconst (v := nI 0) hx hb dX8_toss_32 (by decide) ?_
    exact g_iret S hI hr hlocks (Nat.zero_le _) (Nat.zero_le _) dX8_toss_33 (mThrow ho (by decide) hM hag)
  · skip
    have c_5 : true = false := bI_0.mp c_5
    cases c_5
set_option maxHeartbeats 4000000 in
set_option maxRecDepth 100000 in
/-- X8_toss: tossB -/
theorem m_tossB (l : Launch) (K : gK) (G : gW) (L : Nat → Nat → Nat) (h0 th : Nat) (y : YV) (N : Nat) (i : Nat) (hM : MdC K L h0 th G y N) (hi : i < ySc y) (hcond : ¬ sT (yS y i) = 0) : gM l yX8_toss wsX8_toss 6 125 0 0 K [.ref h0, .int (nI i)] G (mPost K h0 G (oToss y (nI i))) (gNo) := by
  refine gM.of (cc := cX8_toss) (maxL := 2) (ret := (some .int)) (by decide) rfl (Nat.le_of_ble_eq_true rfl) ?_
  intro p e s m below meth c A S hr hlocks htab hname hE hA hI ls hl
  have hx := S.1
  have hb := S.2.1
  have hml := S.2.2.1
  have hl : lv_has ls 2 [(0, .ref h0), (1, .int (nI i))] := hl
  have h44 := hM.2.1.1.2.2.1
  have h6 := hM.2.1.1.2.2.2
  have hf2 := hM.2.1.1.2.1
  have h40 := hM.2.2.2
  have hth := hM.2.2.1
  have hag : AgM G G := AgM.rf
  have hri : inR (nI i) (ySc y) = true := inR_nI hi (by omega)
  have hiN : iN (nI i) = i := iN_nI (by omega)
  obtain ⟨m1, ar1, hl1⟩ := hM.2.1.2.1.obj
  obtain ⟨m2, ar2, hl2⟩ := hM.2.1.2.2.1.obj
  obtain ⟨hsl, hfl, hsok⟩ := hM.2.1.2.2.2.1 i hi
  obtain ⟨s1, s2, s3, s4, s5, s6, s7, s8⟩ := id hsok
  have ho : oToss y (nI i) = (2, 0, y) := by unfold oToss; rw [if_pos hri, hiN, if_neg hcond]
  obtain ⟨H, hHe⟩ : ∃ z, z = s.heap := ⟨_, rfl⟩
  obtain ⟨locs, hLe⟩ : ∃ z : List Loc, z = [] := ⟨_, rfl⟩
  rw [← hHe, ← hLe]
  have hI : gI K A s G H locs := by rw [hHe, hLe]; exact hI
  clear hHe hLe
  refine lv_aload_n hx hb dX8_toss_0 rfl (lv_at hl 0 rfl) ?_
  refine lv_iload_n hx hb dX8_toss_1 rfl (lv_at hl 1 rfl) ?_
  refine g_callV (As := [.int (nI i)]) (rest := []) (b := h0) (n := 1) S hE hI hA (c_X8_isNoSlab l K _ L h0 th y N (nI i) hM) gX8_toss_X8_isNoSlab rfl (by decide +kernel) ⟨Nat.le_of_ble_eq_true rfl, Nat.le_of_ble_eq_true rfl⟩ (g_hro hE hI hM.1 rfl) rfl hl.1 rfl (Nat.le_of_ble_eq_true rfl) dX8_toss_2 ⟨Nat.le_of_ble_eq_true rfl, Nat.le_of_ble_eq_true rfl⟩ (fun E ce q9 Gx H1 locs1 hx9 => hx9.elim) (fun rv Gc_2 H locs hp hI => ?_)
  obtain ⟨rfl, hM, hg9⟩ := hp
  have hag := hag.tr hg9
  rw [hri]
  rw [hri] at hM
  have hM : MdC K L h0 0 Gc_2 y N := hM
  obtain ⟨m1, ar1, hl1⟩ := hM.2.1.2.1.obj
  obtain ⟨m2, ar2, hl2⟩ := hM.2.1.2.2.1.obj
  obtain ⟨hsl, hfl, hsok⟩ := hM.2.1.2.2.2.1 i hi
  obtain ⟨s1, s2, s3, s4, s5, s6, s7, s8⟩ := id hsok
  refine W.eq (g2 := F0 m 5 ls [.int (bI false)]) rfl ?_
  refine lv_if_ne (tgt := 32) hx hb dX8_toss_5 (by decide) (fun c_5 => ?_) (fun c_5 => ?_)
  · skip
    have c_5 : false = true := bI_1.mp c_5
    cases c_5
  · skip
    have c_5 : false = false := bI_0.mp c_5
    refine lv_aload_n hx hb dX8_toss_8 rfl (lv_at hl 0 rfl) ?_
    refine lv_aload_n hx hb dX8_toss_9 rfl (lv_at hl 0 rfl) ?_
    refine lv_iload_n hx hb dX8_toss_10 rfl (lv_at hl 1 rfl) ?_
    refine g_callV (As := [.int (nI i)]) (rest := [.ref h0]) (b := h0) (n := 1) S hE hI hA (c_X8_of l K _ L h0 0 y N i hM hi) gX8_toss_X8_of rfl (by decide +kernel) ⟨Nat.le_of_ble_eq_true rfl, Nat.le_of_ble_eq_true rfl⟩ (g_hro hE hI hM.1 rfl) rfl hl.1 rfl (Nat.le_of_ble_eq_true rfl) dX8_toss_11 ⟨Nat.le_of_ble_eq_true rfl, Nat.le_of_ble_eq_true rfl⟩ (fun E ce q9 Gx H1 locs1 hx9 => hx9.elim) (fun rv Gc_11 H locs hp hI => ?_)
    obtain ⟨rfl, hq9⟩ := hp
    rw [hq9] at hI
    refine W.eq (g2 := F0 m 14 ls [.ref (L 35 i), .ref h0]) rfl ?_
    refine g_callV (As := []) (rest := [.ref h0]) (b := (L 35 i)) (n := 0) S hE hI hA (c_X6_isThere l K _ (5, 35, i) (L 35 i) (yS y i) (L 36 i) hsl s6) gX8_toss_X6_isThere rfl (by decide +kernel) ⟨Nat.le_of_ble_eq_true rfl, Nat.le_of_ble_eq_true rfl⟩ (g_hro hE hI hsl rfl) rfl hl.1 rfl (Nat.le_of_ble_eq_true rfl) dX8_toss_14 ⟨Nat.le_of_ble_eq_true rfl, Nat.le_of_ble_eq_true rfl⟩ (fun E ce q9 Gx H1 locs1 hx9 => hx9.elim) (fun rv Gc_14 H locs hp hI => ?_)
    obtain ⟨rfl, hq9⟩ := hp
    rw [hq9] at hI
    refine W.eq (g2 := F0 m 17 ls [.int (bI (decide (sT (yS y i) = 0))), .ref h0]) rfl ?_
    refine lv_if_ne (tgt := 24) hx hb dX8_toss_17 (by decide) (fun c_17 => ?_) (fun c_17 => ?_)
    · skip
      have c_17 : (decide (sT (yS y i) = 0)) = true := bI_1.mp c_17
      exact absurd (of_decide_eq_true c_17) hcond
    · skip
      have c_17 : (decide (sT (yS y i) = 0)) = false := bI_0.mp c_17
      refine lv_iconst (v := nI 1) hx hb dX8_toss_20 (by decide) ?_
      refine lv_goto (tgt := 25) hx hb dX8_toss_21 (by decide) ?_
      refine lv_iconst (v := nI 2) hx hb dX8_toss_25 (by decide) ?_
      refine g_callV (As := [.int (nI 1), .int (nI 2)]) (rest := []) (b := h0) (n := 2) S hE hI hA (c_ref l K _ L h0 y N true 2 hM (by decide)) gX8_toss_X8_refuse rfl (by decide +kernel) ⟨Nat.le_of_ble_eq_true rfl, Nat.le_of_ble_eq_true rfl⟩ (g_hro hE hI hM.1 rfl) rfl hl.1 rfl (Nat.le_of_ble_eq_true rfl) dX8_toss_26 ⟨Nat.le_of_ble_eq_true rfl, Nat.le_of_ble_eq_true rfl⟩ (fun E ce q9 Gx H1 locs1 hx9 => hx9.elim) (fun rv Gc_26 H locs hp hI => ?_)
      obtain ⟨rfl, hM, hg9⟩ := hp
      have hag := hag.tr hg9
      have hM : MdC K L h0 2 Gc_26 y N := hM
      obtain ⟨m1, ar1, hl1⟩ := hM.2.1.2.1.obj
      obtain ⟨m2, ar2, hl2⟩ := hM.2.1.2.2.1.obj
      obtain ⟨hsl, hfl, hsok⟩ := hM.2.1.2.2.2.1 i hi
      obtain ⟨s1, s2, s3, s4, s5, s6, s7, s8⟩ := id hsok
      refine W.eq (g2 := F0 m 29 ls [.int (bI true)]) rfl ?_
      refine lv_if_eq (tgt := 34) hx hb dX8_toss_29 (by decide) (fun c_29 => ?_) (fun c_29 => ?_)
      · skip
        have c_29 : true = false := bI_0.mp c_29
        cases c_29
      · skip
        have c_29 : true = true := bI_1.mp c_29
        refine lv_iconst (v := nI 0) hx hb dX8_toss_32 (by decide) ?_
        exact g_iret S hI hr hlocks (Nat.zero_le _) (Nat.zero_le _) dX8_toss_33 (mThrow ho (by decide) hM hag)
set_option maxHeartbeats 4000000 in
set_option maxRecDepth 100000 in
/-- X8_toss: tossC -/
theorem m_tossC (l : Launch) (K : gK) (G : gW) (L : Nat → Nat → Nat) (h0 th : Nat) (y : YV) (N : Nat) (i : Nat) (hM : MdC K L h0 th G y N) (hi : i < ySc y) (hcond : sT (yS y i) = 0) : gM l yX8_toss wsX8_toss 6 125 0 0 K [.ref h0, .int (nI i)] G (mPost K h0 G (oToss y (nI i))) (gNo) := by
  refine gM.of (cc := cX8_toss) (maxL := 2) (ret := (some .int)) (by decide) rfl (Nat.le_of_ble_eq_true rfl) ?_
  intro p e s m below meth c A S hr hlocks htab hname hE hA hI ls hl
  have hx := S.1
  have hb := S.2.1
  have hml := S.2.2.1
  have hl : lv_has ls 2 [(0, .ref h0), (1, .int (nI i))] := hl
  have h44 := hM.2.1.1.2.2.1
  have h6 := hM.2.1.1.2.2.2
  have hf2 := hM.2.1.1.2.1
  have h40 := hM.2.2.2
  have hth := hM.2.2.1
  have hag : AgM G G := AgM.rf
  have hri : inR (nI i) (ySc y) = true := inR_nI hi (by omega)
  have hiN : iN (nI i) = i := iN_nI (by omega)
  obtain ⟨m1, ar1, hl1⟩ := hM.2.1.2.1.obj
  obtain ⟨m2, ar2, hl2⟩ := hM.2.1.2.2.1.obj
  obtain ⟨hsl, hfl, hsok⟩ := hM.2.1.2.2.2.1 i hi
  obtain ⟨s1, s2, s3, s4, s5, s6, s7, s8⟩ := id hsok
  have ho : oToss y (nI i) = (0, nI (sA (yS y i)), ySetS y i (sState (yS y i) 3)) := by unfold oToss; rw [if_pos hri, hiN, if_pos hcond]
  obtain ⟨H, hHe⟩ : ∃ z, z = s.heap := ⟨_, rfl⟩
  obtain ⟨locs, hLe⟩ : ∃ z : List Loc, z = [] := ⟨_, rfl⟩
  rw [← hHe, ← hLe]
  have hI : gI K A s G H locs := by rw [hHe, hLe]; exact hI
  clear hHe hLe
  refine lv_aload_n hx hb dX8_toss_0 rfl (lv_at hl 0 rfl) ?_
  refine lv_iload_n hx hb dX8_toss_1 rfl (lv_at hl 1 rfl) ?_
  refine g_callV (As := [.int (nI i)]) (rest := []) (b := h0) (n := 1) S hE hI hA (c_X8_isNoSlab l K _ L h0 th y N (nI i) hM) gX8_toss_X8_isNoSlab rfl (by decide +kernel) ⟨Nat.le_of_ble_eq_true rfl, Nat.le_of_ble_eq_true rfl⟩ (g_hro hE hI hM.1 rfl) rfl hl.1 rfl (Nat.le_of_ble_eq_true rfl) dX8_toss_2 ⟨Nat.le_of_ble_eq_true rfl, Nat.le_of_ble_eq_true rfl⟩ (fun E ce q9 Gx H1 locs1 hx9 => hx9.elim) (fun rv Gc_2 H locs hp hI => ?_)
  obtain ⟨rfl, hM, hg9⟩ := hp
  have hag := hag.tr hg9
  rw [hri]
  rw [hri] at hM
  have hM : MdC K L h0 0 Gc_2 y N := hM
  obtain ⟨m1, ar1, hl1⟩ := hM.2.1.2.1.obj
  obtain ⟨m2, ar2, hl2⟩ := hM.2.1.2.2.1.obj
  obtain ⟨hsl, hfl, hsok⟩ := hM.2.1.2.2.2.1 i hi
  obtain ⟨s1, s2, s3, s4, s5, s6, s7, s8⟩ := id hsok
  refine W.eq (g2 := F0 m 5 ls [.int (bI false)]) rfl ?_
  refine lv_if_ne (tgt := 32) hx hb dX8_toss_5 (by decide) (fun c_5 => ?_) (fun c_5 => ?_)
  · skip
    have c_5 : false = true := bI_1.mp c_5
    cases c_5
  · skip
    have c_5 : false = false := bI_0.mp c_5
    refine lv_aload_n hx hb dX8_toss_8 rfl (lv_at hl 0 rfl) ?_
    refine lv_aload_n hx hb dX8_toss_9 rfl (lv_at hl 0 rfl) ?_
    refine lv_iload_n hx hb dX8_toss_10 rfl (lv_at hl 1 rfl) ?_
    refine g_callV (As := [.int (nI i)]) (rest := [.ref h0]) (b := h0) (n := 1) S hE hI hA (c_X8_of l K _ L h0 0 y N i hM hi) gX8_toss_X8_of rfl (by decide +kernel) ⟨Nat.le_of_ble_eq_true rfl, Nat.le_of_ble_eq_true rfl⟩ (g_hro hE hI hM.1 rfl) rfl hl.1 rfl (Nat.le_of_ble_eq_true rfl) dX8_toss_11 ⟨Nat.le_of_ble_eq_true rfl, Nat.le_of_ble_eq_true rfl⟩ (fun E ce q9 Gx H1 locs1 hx9 => hx9.elim) (fun rv Gc_11 H locs hp hI => ?_)
    obtain ⟨rfl, hq9⟩ := hp
    rw [hq9] at hI
    refine W.eq (g2 := F0 m 14 ls [.ref (L 35 i), .ref h0]) rfl ?_
    refine g_callV (As := []) (rest := [.ref h0]) (b := (L 35 i)) (n := 0) S hE hI hA (c_X6_isThere l K _ (5, 35, i) (L 35 i) (yS y i) (L 36 i) hsl s6) gX8_toss_X6_isThere rfl (by decide +kernel) ⟨Nat.le_of_ble_eq_true rfl, Nat.le_of_ble_eq_true rfl⟩ (g_hro hE hI hsl rfl) rfl hl.1 rfl (Nat.le_of_ble_eq_true rfl) dX8_toss_14 ⟨Nat.le_of_ble_eq_true rfl, Nat.le_of_ble_eq_true rfl⟩ (fun E ce q9 Gx H1 locs1 hx9 => hx9.elim) (fun rv Gc_14 H locs hp hI => ?_)
    obtain ⟨rfl, hq9⟩ := hp
    rw [hq9] at hI
    refine W.eq (g2 := F0 m 17 ls [.int (bI (decide (sT (yS y i) = 0))), .ref h0]) rfl ?_
    refine lv_if_ne (tgt := 24) hx hb dX8_toss_17 (by decide) (fun c_17 => ?_) (fun c_17 => ?_)
    · skip
      have c_17 : (decide (sT (yS y i) = 0)) = true := bI_1.mp c_17
      refine lv_iconst (v := nI 0) hx hb dX8_toss_24 (by decide) ?_
      refine lv_iconst (v := nI 2) hx hb dX8_toss_25 (by decide) ?_
      refine g_callV (As := [.int (nI 0), .int (nI 2)]) (rest := []) (b := h0) (n := 2) S hE hI hA (c_ref l K _ L h0 y N false 2 hM (by decide)) gX8_toss_X8_refuse rfl (by decide +kernel) ⟨Nat.le_of_ble_eq_true rfl, Nat.le_of_ble_eq_true rfl⟩ (g_hro hE hI hM.1 rfl) rfl hl.1 rfl (Nat.le_of_ble_eq_true rfl) dX8_toss_26 ⟨Nat.le_of_ble_eq_true rfl, Nat.le_of_ble_eq_true rfl⟩ (fun E ce q9 Gx H1 locs1 hx9 => hx9.elim) (fun rv Gc_26 H locs hp hI => ?_)
      obtain ⟨rfl, hM, hg9⟩ := hp
      have hag := hag.tr hg9
      have hM : MdC K L h0 0 Gc_26 y N := hM
      obtain ⟨m1, ar1, hl1⟩ := hM.2.1.2.1.obj
      obtain ⟨m2, ar2, hl2⟩ := hM.2.1.2.2.1.obj
      obtain ⟨hsl, hfl, hsok⟩ := hM.2.1.2.2.2.1 i hi
      obtain ⟨s1, s2, s3, s4, s5, s6, s7, s8⟩ := id hsok
      refine W.eq (g2 := F0 m 29 ls [.int (bI false)]) rfl ?_
      refine lv_if_eq (tgt := 34) hx hb dX8_toss_29 (by decide) (fun c_29 => ?_) (fun c_29 => ?_)
      · skip
        have c_29 : false = false := bI_0.mp c_29
        refine lv_aload_n hx hb dX8_toss_34 rfl (lv_at hl 0 rfl) ?_
        refine lv_iload_n hx hb dX8_toss_35 rfl (lv_at hl 1 rfl) ?_
        refine g_callV (As := [.int (nI i)]) (rest := []) (b := h0) (n := 1) S hE hI hA (c_X8_of l K _ L h0 0 y N i hM hi) gX8_toss_X8_of rfl (by decide +kernel) ⟨Nat.le_of_ble_eq_true rfl, Nat.le_of_ble_eq_true rfl⟩ (g_hro hE hI hM.1 rfl) rfl hl.1 rfl (Nat.le_of_ble_eq_true rfl) dX8_toss_36 ⟨Nat.le_of_ble_eq_true rfl, Nat.le_of_ble_eq_true rfl⟩ (fun E ce q9 Gx H1 locs1 hx9 => hx9.elim) (fun rv Gc_36 H locs hp hI => ?_)
        obtain ⟨rfl, hq9⟩ := hp
        rw [hq9] at hI
        refine W.eq (g2 := F0 m 39 ls [.ref (L 35 i)]) rfl ?_
        refine lv_iconst (v := nI 3) hx hb dX8_toss_39 (by decide) ?_
        refine g_put S hE hI (C := RX6) (T := TX6) (N := 6) (ref := "StonecutterYardModel$Slab") (fun w h => (List.mem_cons_of_mem _ (List.mem_append_left _ (List.mem_append_left _ (List.mem_append_left _ (List.mem_append_right _ h)))))) tyX6 tyX6_ok nmX6 hsl rfl 5 (by decide) (List.mem_cons_of_mem _ (List.mem_append_left _ (List.mem_append_left _ (List.mem_append_left _ (List.mem_append_left _ (List.mem_append_left _ (List.mem_of_getElem? (i := 0) rfl))))))) (fun _ h9 => h9) rfl rfl rfl (Nat.le_of_ble_eq_true rfl) dX8_toss_40 (fun H locs hI => ?_)
        have hI : gI K A s (gset Gc_26 (5, 35, i) (L 35 i) (.inr (7, [.int (nI (sW (yS y i))), .int (nI (sH (yS y i))), .int (nI (sG (yS y i))), .int (sF (yS y i)), .ref (L 36 i), .int (nI 3)]))) H locs := hI
        obtain ⟨G_1, hG_1⟩ : ∃ z, z = gset Gc_26 (5, 35, i) (L 35 i) (.inr (7, [.int (nI (sW (yS y i))), .int (nI (sH (yS y i))), .int (nI (sG (yS y i))), .int (sF (yS y i)), .ref (L 36 i), .int (nI 3)])) := ⟨_, rfl⟩
        rw [← hG_1] at hI
        have o_G_1 : G_1 (9, 0, 0) = some (h0, .inr (9, [.int (nI 0), .ref (L 30 0)])) := by rw [hG_1, gset_ne (by simp)]; exact hM.1
        have yd_G_1 : G_1 (5, 30, 0) = some ((L 30 0), .inr (8, [.ref (L 31 0), .ref (L 33 0), .int (nI (yF y))])) := by rw [hG_1, gset_ne (by simp)]; exact hM.2.1.1.1
        have ls_G_1 : G_1 (5, 31, 0) = some ((L 31 0), .inr (0, [.int m1, .ref ar1, .int (nI (ySc y))])) := by rw [hG_1, gset_ne (by simp)]; exact hl1
        have lk_G_1 : G_1 (5, 33, 0) = some ((L 33 0), .inr (0, [.int m2, .ref ar2, .int (nI (yKc y))])) := by rw [hG_1, gset_ne (by simp)]; exact hl2
        have u_G_1 : G_1 (5, 35, i) = some ((L 35 i), .inr (7, [.int (nI (sW (yS y i))), .int (nI (sH (yS y i))), .int (nI (sG (yS y i))), .int (sF (yS y i)), .ref (L 36 i), .int (nI 3)])) := by rw [hG_1]; exact gset_eq _ _ _ _
        have hMY : MY K 5 L G_1 (ySetS y i (sState (yS y i) 3)) N := by rw [hG_1]; exact hM.2.1.setT (t := 3) (by decide) hi (by decide)
        have hM9 : MdC K L h0 0 G_1 (ySetS y i (sState (yS y i) 3)) N := ⟨o_G_1, hMY, by decide, h40⟩
        refine lv_aload_n hx hb dX8_toss_43 rfl (lv_at hl 0 rfl) ?_
        refine lv_iload_n hx hb dX8_toss_44 rfl (lv_at hl 1 rfl) ?_
        refine g_callV (As := [.int (nI i)]) (rest := []) (b := h0) (n := 1) S hE hI hA (c_X8_of l K _ L h0 0 (ySetS y i (sState (yS y i) 3)) N i hM9 hi) gX8_toss_X8_of rfl (by decide +kernel) ⟨Nat.le_of_ble_eq_true rfl, Nat.le_of_ble_eq_true rfl⟩ (g_hro hE hI hM9.1 rfl) rfl hl.1 rfl (Nat.le_of_ble_eq_true rfl) dX8_toss_45 ⟨Nat.le_of_ble_eq_true rfl, Nat.le_of_ble_eq_true rfl⟩ (fun E ce q9 Gx H1 locs1 hx9 => hx9.elim) (fun rv Gc_45 H locs hp hI => ?_)
        obtain ⟨rfl, hq9⟩ := hp
        rw [hq9] at hI
        refine W.eq (g2 := F0 m 48 ls [.ref (L 35 i)]) rfl ?_
        refine g_callV (As := []) (rest := []) (b := (L 35 i)) (n := 0) S hE hI hA (c_X6_area l K _ (5, 35, i) (L 35 i) (sState (yS y i) 3) (L 36 i) u_G_1) gX8_toss_X6_area rfl (by decide +kernel) ⟨Nat.le_of_ble_eq_true rfl, Nat.le_of_ble_eq_true rfl⟩ (g_hro hE hI u_G_1 rfl) rfl hl.1 rfl (Nat.le_of_ble_eq_true rfl) dX8_toss_48 ⟨Nat.le_of_ble_eq_true rfl, Nat.le_of_ble_eq_true rfl⟩ (fun E ce q9 Gx H1 locs1 hx9 => hx9.elim) (fun rv Gc_48 H locs hp hI => ?_)
        obtain ⟨rfl, hq9⟩ := hp
        rw [hq9] at hI
        refine W.eq (g2 := F0 m 51 ls [.int (nI (sA (yS y i)))]) rfl ?_
        exact g_iret S hI hr hlocks (Nat.zero_le _) (Nat.zero_le _) dX8_toss_51 (mOk ho hM9 (hag.tr (by rw [hG_1]; exact AgM.rf.st (by decide))))
      · skip
        have c_29 : false = true := bI_1.mp c_29
        cases c_29
    · skip
      have c_17 : (decide (sT (yS y i) = 0)) = false := bI_0.mp c_17
      exact absurd hcond (of_decide_eq_false c_17)
