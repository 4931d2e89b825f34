set_option maxHeartbeats 4000000 in
set_option maxRecDepth 100000 in
/-- Slab.area() -/
theorem c_X2_area (l : Launch) (K : gK) (G : gW) (t : gTag) (h0 : Nat) (u : SV) (pa : Nat) (hg : G t = some (h0, cS u pa)) : gM l yX2_area wsX2_area 2 40 0 0 K [.ref h0] G (fun v G1 => v = some (.int (nI (sW u * sH u))) ∧ G1 = G) (gNo) := by
  refine gM.of (cc := cX2_area) (maxL := 1) (ret := (some .int)) (by decide) rfl (Nat.le_of_ble_eq_true rfl) ?_
  intro p e s m below meth c A S hr hlocks htab hname hE hA hI ls hl
  have hx := S.1
  have hb := S.2.1
  have hml := S.2.2.1
  have hl : lv_has ls 1 [(0, .ref h0)] := hl
  obtain ⟨H, hHe⟩ : ∃ z, z = s.heap := ⟨_, rfl⟩
  obtain ⟨locs, hLe⟩ : ∃ z : List Loc, z = [] := ⟨_, rfl⟩
  rw [← hHe, ← hLe]
  have hI : gI K A s G H locs := by rw [hHe, hLe]; exact hI
  clear hHe hLe
  refine lv_aload_n hx hb dX2_area_0 rfl (lv_at hl 0 rfl) ?_
  refine g_get S hE hI (C := RX2) (T := TX2) (N := 7) (ref := "StonecutterYard$Slab") (fun w h => (List.mem_cons_of_mem _ (List.mem_append_right _ h))) hg rfl 0 (by decide) (List.mem_cons_of_mem _ (List.mem_append_left _ (List.mem_of_getElem? (i := 0) rfl))) (fun _ h9 => h9) (v := .int (nI (sW u))) rfl dX2_area_1 ?_
  refine lv_aload_n hx hb dX2_area_4 rfl (lv_at hl 0 rfl) ?_
  refine g_get S hE hI (C := RX2) (T := TX2) (N := 7) (ref := "StonecutterYard$Slab") (fun w h => (List.mem_cons_of_mem _ (List.mem_append_right _ h))) hg rfl 1 (by decide) (List.mem_cons_of_mem _ (List.mem_append_left _ (List.mem_of_getElem? (i := 1) rfl))) (fun _ h9 => h9) (v := .int (nI (sH u))) rfl dX2_area_5 ?_
  refine t_imul hx hb dX2_area_8 (pk_mul _ _) ?_
  exact g_iret S hI hr hlocks (Nat.zero_le _) (Nat.zero_le _) dX2_area_9 ⟨rfl, rfl⟩
set_option maxHeartbeats 4000000 in
set_option maxRecDepth 100000 in
/-- Slab.along(isDown) -/
theorem c_X2_along (l : Launch) (K : gK) (G : gW) (t : gTag) (h0 : Nat) (u : SV) (pa : Nat) (b : Bool) (hg : G t = some (h0, cS u pa)) : gM l yX2_along wsX2_along 2 40 0 0 K [.ref h0, .int (bI b)] G (fun v G1 => v = some (.int (nI (if b then sW u else sH u))) ∧ G1 = G) (gNo) := by
  refine gM.of (cc := cX2_along) (maxL := 2) (ret := (some .int)) (by decide) rfl (Nat.le_of_ble_eq_true rfl) ?_
  intro p e s m below meth c A S hr hlocks htab hname hE hA hI ls hl
  have hx := S.1
  have hb := S.2.1
  have hml := S.2.2.1
  have hl : lv_has ls 2 [(0, .ref h0), (1, .int (bI b))] := hl
  obtain ⟨H, hHe⟩ : ∃ z, z = s.heap := ⟨_, rfl⟩
  obtain ⟨locs, hLe⟩ : ∃ z : List Loc, z = [] := ⟨_, rfl⟩
  rw [← hHe, ← hLe]
  have hI : gI K A s G H locs := by rw [hHe, hLe]; exact hI
  clear hHe hLe
  refine lv_iload_n hx hb dX2_along_0 rfl (lv_at hl 1 rfl) ?_
  refine lv_if_eq (tgt := 11) hx hb dX2_along_1 (by decide) (fun c_1 => ?_) (fun c_1 => ?_)
  · skip
    have c_1 : b = false := bI_0.mp c_1
    refine lv_aload_n hx hb dX2_along_11 rfl (lv_at hl 0 rfl) ?_
    refine g_get S hE hI (C := RX2) (T := TX2) (N := 7) (ref := "StonecutterYard$Slab") (fun w h => (List.mem_cons_of_mem _ (List.mem_append_right _ h))) hg rfl 1 (by decide) (List.mem_cons_of_mem _ (List.mem_append_left _ (List.mem_of_getElem? (i := 1) rfl))) (fun _ h9 => h9) (v := .int (nI (sH u))) rfl dX2_along_12 ?_
    exact g_iret S hI hr hlocks (Nat.zero_le _) (Nat.zero_le _) dX2_along_15 ⟨by rw [c_1]; rfl, rfl⟩
  · skip
    have c_1 : b = true := bI_1.mp c_1
    refine lv_aload_n hx hb dX2_along_4 rfl (lv_at hl 0 rfl) ?_
    refine g_get S hE hI (C := RX2) (T := TX2) (N := 7) (ref := "StonecutterYard$Slab") (fun w h => (List.mem_cons_of_mem _ (List.mem_append_right _ h))) hg rfl 0 (by decide) (List.mem_cons_of_mem _ (List.mem_append_left _ (List.mem_of_getElem? (i := 0) rfl))) (fun _ h9 => h9) (v := .int (nI (sW u))) rfl dX2_along_5 ?_
    refine lv_goto (tgt := 15) hx hb dX2_along_8 (by decide) ?_
    exact g_iret S hI hr hlocks (Nat.zero_le _) (Nat.zero_le _) dX2_along_15 ⟨by rw [c_1]; rfl, rfl⟩
set_option maxHeartbeats 4000000 in
set_option maxRecDepth 100000 in
/-- Slab.begin -/
theorem c_X2_begin (l : Launch) (K : gK) (G : gW) (t : gTag) (h0 : Nat) (u : SV) (pa : Nat) (w h g : Nat) (f : Int32) (hg : G t = some (h0, cS u pa)) : gM l yX2_begin wsX2_begin 2 40 0 0 K [.ref h0, .int (nI w), .int (nI h), .int (nI g), .int f] G (fun v G1 => v = none ∧ G1 = gset G t h0 (cS (w, h, g, f, 0, []) pa)) (gNo) := by
  refine gM.of (cc := cX2_begin) (maxL := 5) (ret := none) (by decide) rfl (Nat.le_of_ble_eq_true rfl) ?_
  intro p e s m below meth c A S hr hlocks htab hname hE hA hI ls hl
  have hx := S.1
  have hb := S.2.1
  have hml := S.2.2.1
  have hl : lv_has ls 5 [(0, .ref h0), (1, .int (nI w)), (2, .int (nI h)), (3, .int (nI g)), (4, .int f)] := hl
  obtain ⟨H, hHe⟩ : ∃ z, z = s.heap := ⟨_, rfl⟩
  obtain ⟨locs, hLe⟩ : ∃ z : List Loc, z = [] := ⟨_, rfl⟩
  rw [← hHe, ← hLe]
  have hI : gI K A s G H locs := by rw [hHe, hLe]; exact hI
  clear hHe hLe
  refine lv_aload_n hx hb dX2_begin_0 rfl (lv_at hl 0 rfl) ?_
  refine lv_iload_n hx hb dX2_begin_1 rfl (lv_at hl 1 rfl) ?_
  refine g_put S hE hI (C := RX2) (T := TX2) (N := 7) (ref := "StonecutterYard$Slab") (fun w h => (List.mem_cons_of_mem _ (List.mem_append_right _ h))) tyX2 tyX2_ok nmX2 hg rfl 0 (by decide) (List.mem_cons_of_mem _ (List.mem_append_left _ (List.mem_of_getElem? (i := 0) rfl))) (fun _ h9 => h9) rfl rfl rfl (Nat.le_of_ble_eq_true rfl) dX2_begin_2 (fun H locs hI => ?_)
  have hI : gI K A s (gset G t h0 (.inr (3, [.int (nI w), .int (nI (sH u)), .int (nI (sG u)), .int (sF u), .int (nI (sT u)), .int (nI ((sL u).length)), .ref pa]))) H locs := hI
  obtain ⟨G_1, hG_1⟩ : ∃ z, z = gset G t h0 (.inr (3, [.int (nI w), .int (nI (sH u)), .int (nI (sG u)), .int (sF u), .int (nI (sT u)), .int (nI ((sL u).length)), .ref pa])) := ⟨_, rfl⟩
  rw [← hG_1] at hI
  have o_G_1 : G_1 t = some (h0, .inr (3, [.int (nI w), .int (nI (sH u)), .int (nI (sG u)), .int (sF u), .int (nI (sT u)), .int (nI ((sL u).length)), .ref pa])) := by rw [hG_1]; exact gset_eq _ _ _ _
  refine lv_aload_n hx hb dX2_begin_5 rfl (lv_at hl 0 rfl) ?_
  refine lv_iload_n hx hb dX2_begin_6 rfl (lv_at hl 2 rfl) ?_
  refine g_put S hE hI (C := RX2) (T := TX2) (N := 7) (ref := "StonecutterYard$Slab") (fun w h => (List.mem_cons_of_mem _ (List.mem_append_right _ h))) tyX2 tyX2_ok nmX2 o_G_1 rfl 1 (by decide) (List.mem_cons_of_mem _ (List.mem_append_left _ (List.mem_of_getElem? (i := 1) rfl))) (fun _ h9 => h9) rfl rfl rfl (Nat.le_of_ble_eq_true rfl) dX2_begin_7 (fun H locs hI => ?_)
  have hI : gI K A s (gset G_1 t h0 (.inr (3, [.int (nI w), .int (nI h), .int (nI (sG u)), .int (sF u), .int (nI (sT u)), .int (nI ((sL u).length)), .ref pa]))) H locs := hI
  obtain ⟨G_2, hG_2⟩ : ∃ z, z = gset G_1 t h0 (.inr (3, [.int (nI w), .int (nI h), .int (nI (sG u)), .int (sF u), .int (nI (sT u)), .int (nI ((sL u).length)), .ref pa])) := ⟨_, rfl⟩
  rw [← hG_2] at hI
  have o_G_2 : G_2 t = some (h0, .inr (3, [.int (nI w), .int (nI h), .int (nI (sG u)), .int (sF u), .int (nI (sT u)), .int (nI ((sL u).length)), .ref pa])) := by rw [hG_2]; exact gset_eq _ _ _ _
  refine lv_aload_n hx hb dX2_begin_10 rfl (lv_at hl 0 rfl) ?_
  refine lv_iload_n hx hb dX2_begin_11 rfl (lv_at hl 3 rfl) ?_
  refine g_put S hE hI (C := RX2) (T := TX2) (N := 7) (ref := "StonecutterYard$Slab") (fun w h => (List.mem_cons_of_mem _ (List.mem_append_right _ h))) tyX2 tyX2_ok nmX2 o_G_2 rfl 2 (by decide) (List.mem_cons_of_mem _ (List.mem_append_left _ (List.mem_of_getElem? (i := 2) rfl))) (fun _ h9 => h9) rfl rfl rfl (Nat.le_of_ble_eq_true rfl) dX2_begin_12 (fun H locs hI => ?_)
  have hI : gI K A s (gset G_2 t h0 (.inr (3, [.int (nI w), .int (nI h), .int (nI g), .int (sF u), .int (nI (sT u)), .int (nI ((sL u).length)), .ref pa]))) H locs := hI
  obtain ⟨G_3, hG_3⟩ : ∃ z, z = gset G_2 t h0 (.inr (3, [.int (nI w), .int (nI h), .int (nI g), .int (sF u), .int (nI (sT u)), .int (nI ((sL u).length)), .ref pa])) := ⟨_, rfl⟩
  rw [← hG_3] at hI
  have o_G_3 : G_3 t = some (h0, .inr (3, [.int (nI w), .int (nI h), .int (nI g), .int (sF u), .int (nI (sT u)), .int (nI ((sL u).length)), .ref pa])) := by rw [hG_3]; exact gset_eq _ _ _ _
  refine lv_aload_n hx hb dX2_begin_15 rfl (lv_at hl 0 rfl) ?_
  refine lv_iload hx hb dX2_begin_16 (lv_at hl 4 rfl) ?_
  refine g_put S hE hI (C := RX2) (T := TX2) (N := 7) (ref := "StonecutterYard$Slab") (fun w h => (List.mem_cons_of_mem _ (List.mem_append_right _ h))) tyX2 tyX2_ok nmX2 o_G_3 rfl 3 (by decide) (List.mem_cons_of_mem _ (List.mem_append_left _ (List.mem_of_getElem? (i := 3) rfl))) (fun _ h9 => h9) rfl rfl rfl (Nat.le_of_ble_eq_true rfl) dX2_begin_18 (fun H locs hI => ?_)
  have hI : gI K A s (gset G_3 t h0 (.inr (3, [.int (nI w), .int (nI h), .int (nI g), .int f, .int (nI (sT u)), .int (nI ((sL u).length)), .ref pa]))) H locs := hI
  obtain ⟨G_4, hG_4⟩ : ∃ z, z = gset G_3 t h0 (.inr (3, [.int (nI w), .int (nI h), .int (nI g), .int f, .int (nI (sT u)), .int (nI ((sL u).length)), .ref pa])) := ⟨_, rfl⟩
  rw [← hG_4] at hI
  have o_G_4 : G_4 t = some (h0, .inr (3, [.int (nI w), .int (nI h), .int (nI g), .int f, .int (nI (sT u)), .int (nI ((sL u).length)), .ref pa])) := by rw [hG_4]; exact gset_eq _ _ _ _
  refine lv_aload_n hx hb dX2_begin_21 rfl (lv_at hl 0 rfl) ?_
  refine lv_iconst (v := nI 0) hx hb dX2_begin_22 (by decide) ?_
  refine g_put S hE hI (C := RX2) (T := TX2) (N := 7) (ref := "StonecutterYard$Slab") (fun w h => (List.mem_cons_of_mem _ (List.mem_append_right _ h))) tyX2 tyX2_ok nmX2 o_G_4 rfl 4 (by decide) (List.mem_cons_of_mem _ (List.mem_append_left _ (List.mem_of_getElem? (i := 4) rfl))) (fun _ h9 => h9) rfl rfl rfl (Nat.le_of_ble_eq_true rfl) dX2_begin_23 (fun H locs hI => ?_)
  have hI : gI K A s (gset G_4 t h0 (.inr (3, [.int (nI w), .int (nI h), .int (nI g), .int f, .int (nI 0), .int (nI ((sL u).length)), .ref pa]))) H locs := hI
  obtain ⟨G_5, hG_5⟩ : ∃ z, z = gset G_4 t h0 (.inr (3, [.int (nI w), .int (nI h), .int (nI g), .int f, .int (nI 0), .int (nI ((sL u).length)), .ref pa])) := ⟨_, rfl⟩
  rw [← hG_5] at hI
  have o_G_5 : G_5 t = some (h0, .inr (3, [.int (nI w), .int (nI h), .int (nI g), .int f, .int (nI 0), .int (nI ((sL u).length)), .ref pa])) := by rw [hG_5]; exact gset_eq _ _ _ _
  refine lv_aload_n hx hb dX2_begin_26 rfl (lv_at hl 0 rfl) ?_
  refine lv_iconst (v := nI 0) hx hb dX2_begin_27 (by decide) ?_
  refine g_put S hE hI (C := RX2) (T := TX2) (N := 7) (ref := "StonecutterYard$Slab") (fun w h => (List.mem_cons_of_mem _ (List.mem_append_right _ h))) tyX2 tyX2_ok nmX2 o_G_5 rfl 5 (by decide) (List.mem_cons_of_mem _ (List.mem_append_left _ (List.mem_of_getElem? (i := 5) rfl))) (fun _ h9 => h9) rfl rfl rfl (Nat.le_of_ble_eq_true rfl) dX2_begin_28 (fun H locs hI => ?_)
  have hI : gI K A s (gset G_5 t h0 (.inr (3, [.int (nI w), .int (nI h), .int (nI g), .int f, .int (nI 0), .int (nI 0), .ref pa]))) H locs := hI
  obtain ⟨G_6, hG_6⟩ : ∃ z, z = gset G_5 t h0 (.inr (3, [.int (nI w), .int (nI h), .int (nI g), .int f, .int (nI 0), .int (nI 0), .ref pa])) := ⟨_, rfl⟩
  rw [← hG_6] at hI
  have o_G_6 : G_6 t = some (h0, .inr (3, [.int (nI w), .int (nI h), .int (nI g), .int f, .int (nI 0), .int (nI 0), .ref pa])) := by rw [hG_6]; exact gset_eq _ _ _ _
  exact g_vret S hI hr hlocks (Nat.zero_le _) (Nat.zero_le _) dX2_begin_31 ⟨rfl, by rw [hG_6, hG_5, hG_4, hG_3, hG_2, hG_1, gset_gset, gset_gset, gset_gset, gset_gset, gset_gset]; rfl⟩
set_option maxHeartbeats 4000000 in
set_option maxRecDepth 100000 in
/-- Kind.wideIn -/
theorem c_X0_wideIn (l : Launch) (K : gK) (G : gW) (t : gTag) (h0 : Nat) (k : KV) (mn : Nat) (hg : G t = some (h0, cK k)) (hmn : mn < 2) : gM l yX0_wideIn wsX0_wideIn 2 40 0 0 K [.ref h0, .int (nI mn)] G (fun v G1 => v = some (.int (nI (kw k mn))) ∧ G1 = G) (gNo) := by
  refine gM.of (cc := cX0_wideIn) (maxL := 2) (ret := (some .int)) (by decide) rfl (Nat.le_of_ble_eq_true rfl) ?_
  intro p e s m below meth c A S hr hlocks htab hname hE hA hI ls hl
  have hx := S.1
  have hb := S.2.1
  have hml := S.2.2.1
  have hl : lv_has ls 2 [(0, .ref h0), (1, .int (nI mn))] := hl
  obtain ⟨H, hHe⟩ : ∃ z, z = s.heap := ⟨_, rfl⟩
  obtain ⟨locs, hLe⟩ : ∃ z : List Loc, z = [] := ⟨_, rfl⟩
  rw [← hHe, ← hLe]
  have hI : gI K A s G H locs := by rw [hHe, hLe]; exact hI
  clear hHe hLe
  refine lv_iload_n hx hb dX0_wideIn_0 rfl (lv_at hl 1 rfl) ?_
  refine lv_if_ne (tgt := 11) hx hb dX0_wideIn_1 (by decide) (fun c_1 => ?_) (fun c_1 => ?_)
  · skip
    have c_1 : mn ≠ 0 := fun z => c_1 ((nI_eq (a := mn) (b := 0) (by omega) (by omega)).mpr z)
    refine lv_aload_n hx hb dX0_wideIn_11 rfl (lv_at hl 0 rfl) ?_
    refine g_get S hE hI (C := RX0) (T := TX0) (N := 8) (ref := "StonecutterYard$Kind") (fun w h => (List.mem_cons_of_mem _ (List.mem_append_right _ h))) hg rfl 1 (by decide) (List.mem_cons_of_mem _ (List.mem_append_left _ (List.mem_of_getElem? (i := 1) rfl))) (fun _ h9 => h9) (v := .int (nI (kB k))) rfl dX0_wideIn_12 ?_
    exact g_iret S hI hr hlocks (Nat.zero_le _) (Nat.zero_le _) dX0_wideIn_15 ⟨by simp [kw, c_1], rfl⟩
  · skip
    have c_1 : mn = 0 := (nI_eq (a := mn) (b := 0) (by omega) (by omega)).mp c_1
    refine lv_aload_n hx hb dX0_wideIn_4 rfl (lv_at hl 0 rfl) ?_
    refine g_get S hE hI (C := RX0) (T := TX0) (N := 8) (ref := "StonecutterYard$Kind") (fun w h => (List.mem_cons_of_mem _ (List.mem_append_right _ h))) hg rfl 0 (by decide) (List.mem_cons_of_mem _ (List.mem_append_left _ (List.mem_of_getElem? (i := 0) rfl))) (fun _ h9 => h9) (v := .int (nI (kL k))) rfl dX0_wideIn_5 ?_
    refine lv_goto (tgt := 15) hx hb dX0_wideIn_8 (by decide) ?_
    exact g_iret S hI hr hlocks (Nat.zero_le _) (Nat.zero_le _) dX0_wideIn_15 ⟨by simp [kw, c_1], rfl⟩
set_option maxHeartbeats 4000000 in
set_option maxRecDepth 100000 in
/-- Kind.highIn -/
theorem c_X0_highIn (l : Launch) (K : gK) (G : gW) (t : gTag) (h0 : Nat) (k : KV) (mn : Nat) (hg : G t = some (h0, cK k)) (hmn : mn < 2) : gM l yX0_highIn wsX0_highIn 2 40 0 0 K [.ref h0, .int (nI mn)] G (fun v G1 => v = some (.int (nI (kh k mn))) ∧ G1 = G) (gNo) := by
  refine gM.of (cc := cX0_highIn) (maxL := 2) (ret := (some .int)) (by decide) rfl (Nat.le_of_ble_eq_true rfl) ?_
  intro p e s m below meth c A S hr hlocks htab hname hE hA hI ls hl
  have hx := S.1
  have hb := S.2.1
  have hml := S.2.2.1
  have hl : lv_has ls 2 [(0, .ref h0), (1, .int (nI mn))] := hl
  obtain ⟨H, hHe⟩ : ∃ z, z = s.heap := ⟨_, rfl⟩
  obtain ⟨locs, hLe⟩ : ∃ z : List Loc, z = [] := ⟨_, rfl⟩
  rw [← hHe, ← hLe]
  have hI : gI K A s G H locs := by rw [hHe, hLe]; exact hI
  clear hHe hLe
  refine lv_iload_n hx hb dX0_highIn_0 rfl (lv_at hl 1 rfl) ?_
  refine lv_if_ne (tgt := 11) hx hb dX0_highIn_1 (by decide) (fun c_1 => ?_) (fun c_1 => ?_)
  · skip
    have c_1 : mn ≠ 0 := fun z => c_1 ((nI_eq (a := mn) (b := 0) (by omega) (by omega)).mpr z)
    refine lv_aload_n hx hb dX0_highIn_11 rfl (lv_at hl 0 rfl) ?_
    refine g_get S hE hI (C := RX0) (T := TX0) (N := 8) (ref := "StonecutterYard$Kind") (fun w h => (List.mem_cons_of_mem _ (List.mem_append_right _ h))) hg rfl 0 (by decide) (List.mem_cons_of_mem _ (List.mem_append_left _ (List.mem_of_getElem? (i := 1) rfl))) (fun _ h9 => h9) (v := .int (nI (kL k))) rfl dX0_highIn_12 ?_
    exact g_iret S hI hr hlocks (Nat.zero_le _) (Nat.zero_le _) dX0_highIn_15 ⟨by simp [kh, c_1], rfl⟩
  · skip
    have c_1 : mn = 0 := (nI_eq (a := mn) (b := 0) (by omega) (by omega)).mp c_1
    refine lv_aload_n hx hb dX0_highIn_4 rfl (lv_at hl 0 rfl) ?_
    refine g_get S hE hI (C := RX0) (T := TX0) (N := 8) (ref := "StonecutterYard$Kind") (fun w h => (List.mem_cons_of_mem _ (List.mem_append_right _ h))) hg rfl 1 (by decide) (List.mem_cons_of_mem _ (List.mem_append_left _ (List.mem_of_getElem? (i := 0) rfl))) (fun _ h9 => h9) (v := .int (nI (kB k))) rfl dX0_highIn_5 ?_
    refine lv_goto (tgt := 15) hx hb dX0_highIn_8 (by decide) ?_
    exact g_iret S hI hr hlocks (Nat.zero_le _) (Nat.zero_le _) dX0_highIn_15 ⟨by simp [kh, c_1], rfl⟩
set_option maxHeartbeats 4000000 in
set_option maxRecDepth 100000 in
/-- Kind.begin -/
theorem c_X0_begin (l : Launch) (K : gK) (G : gW) (t : gTag) (h0 : Nat) (k : KV) (a b pr : Nat) (hg : G t = some (h0, cK k)) : gM l yX0_begin wsX0_begin 2 40 0 0 K [.ref h0, .int (nI a), .int (nI b), .int (nI pr)] G (fun v G1 => v = none ∧ G1 = gset G t h0 (cK (a, b, kW k, kF k, pr, kN k, kT k, kD k))) (gNo) := by
  refine gM.of (cc := cX0_begin) (maxL := 4) (ret := none) (by decide) rfl (Nat.le_of_ble_eq_true rfl) ?_
  intro p e s m below meth c A S hr hlocks htab hname hE hA hI ls hl
  have hx := S.1
  have hb := S.2.1
  have hml := S.2.2.1
  have hl : lv_has ls 4 [(0, .ref h0), (1, .int (nI a)), (2, .int (nI b)), (3, .int (nI pr))] := hl
  obtain ⟨H, hHe⟩ : ∃ z, z = s.heap := ⟨_, rfl⟩
  obtain ⟨locs, hLe⟩ : ∃ z : List Loc, z = [] := ⟨_, rfl⟩
  rw [← hHe, ← hLe]
  have hI : gI K A s G H locs := by rw [hHe, hLe]; exact hI
  clear hHe hLe
  refine lv_aload_n hx hb dX0_begin_0 rfl (lv_at hl 0 rfl) ?_
  refine lv_iload_n hx hb dX0_begin_1 rfl (lv_at hl 1 rfl) ?_
  refine g_put S hE hI (C := RX0) (T := TX0) (N := 8) (ref := "StonecutterYard$Kind") (fun w h => (List.mem_cons_of_mem _ (List.mem_append_right _ h))) tyX0 tyX0_ok nmX0 hg rfl 0 (by decide) (List.mem_cons_of_mem _ (List.mem_append_left _ (List.mem_of_getElem? (i := 0) rfl))) (fun _ h9 => h9) rfl rfl rfl (Nat.le_of_ble_eq_true rfl) dX0_begin_2 (fun H locs hI => ?_)
  have hI : gI K A s (gset G t h0 (.inr (1, [.int (nI a), .int (nI (kB k)), .int (nI (kW k)), .int (nI (kF k)), .int (nI (kP k)), .int (nI (kN k)), .int (nI (kT k)), .int (nI (kD k))]))) H locs := hI
  obtain ⟨G_1, hG_1⟩ : ∃ z, z = gset G t h0 (.inr (1, [.int (nI a), .int (nI (kB k)), .int (nI (kW k)), .int (nI (kF k)), .int (nI (kP k)), .int (nI (kN k)), .int (nI (kT k)), .int (nI (kD k))])) := ⟨_, rfl⟩
  rw [← hG_1] at hI
  have o_G_1 : G_1 t = some (h0, .inr (1, [.int (nI a), .int (nI (kB k)), .int (nI (kW k)), .int (nI (kF k)), .int (nI (kP k)), .int (nI (kN k)), .int (nI (kT k)), .int (nI (kD k))])) := by rw [hG_1]; exact gset_eq _ _ _ _
  refine lv_aload_n hx hb dX0_begin_5 rfl (lv_at hl 0 rfl) ?_
  refine lv_iload_n hx hb dX0_begin_6 rfl (lv_at hl 2 rfl) ?_
  refine g_put S hE hI (C := RX0) (T := TX0) (N := 8) (ref := "StonecutterYard$Kind") (fun w h => (List.mem_cons_of_mem _ (List.mem_append_right _ h))) tyX0 tyX0_ok nmX0 o_G_1 rfl 1 (by decide) (List.mem_cons_of_mem _ (List.mem_append_left _ (List.mem_of_getElem? (i := 1) rfl))) (fun _ h9 => h9) rfl rfl rfl (Nat.le_of_ble_eq_true rfl) dX0_begin_7 (fun H locs hI => ?_)
  have hI : gI K A s (gset G_1 t h0 (.inr (1, [.int (nI a), .int (nI b), .int (nI (kW k)), .int (nI (kF k)), .int (nI (kP k)), .int (nI (kN k)), .int (nI (kT k)), .int (nI (kD k))]))) H locs := hI
  obtain ⟨G_2, hG_2⟩ : ∃ z, z = gset G_1 t h0 (.inr (1, [.int (nI a), .int (nI b), .int (nI (kW k)), .int (nI (kF k)), .int (nI (kP k)), .int (nI (kN k)), .int (nI (kT k)), .int (nI (kD k))])) := ⟨_, rfl⟩
  rw [← hG_2] at hI
  have o_G_2 : G_2 t = some (h0, .inr (1, [.int (nI a), .int (nI b), .int (nI (kW k)), .int (nI (kF k)), .int (nI (kP k)), .int (nI (kN k)), .int (nI (kT k)), .int (nI (kD k))])) := by rw [hG_2]; exact gset_eq _ _ _ _
  refine lv_aload_n hx hb dX0_begin_10 rfl (lv_at hl 0 rfl) ?_
  refine lv_iload_n hx hb dX0_begin_11 rfl (lv_at hl 3 rfl) ?_
  refine g_put S hE hI (C := RX0) (T := TX0) (N := 8) (ref := "StonecutterYard$Kind") (fun w h => (List.mem_cons_of_mem _ (List.mem_append_right _ h))) tyX0 tyX0_ok nmX0 o_G_2 rfl 4 (by decide) (List.mem_cons_of_mem _ (List.mem_append_left _ (List.mem_of_getElem? (i := 2) rfl))) (fun _ h9 => h9) rfl rfl rfl (Nat.le_of_ble_eq_true rfl) dX0_begin_12 (fun H locs hI => ?_)
  have hI : gI K A s (gset G_2 t h0 (.inr (1, [.int (nI a), .int (nI b), .int (nI (kW k)), .int (nI (kF k)), .int (nI pr), .int (nI (kN k)), .int (nI (kT k)), .int (nI (kD k))]))) H locs := hI
  obtain ⟨G_3, hG_3⟩ : ∃ z, z = gset G_2 t h0 (.inr (1, [.int (nI a), .int (nI b), .int (nI (kW k)), .int (nI (kF k)), .int (nI pr), .int (nI (kN k)), .int (nI (kT k)), .int (nI (kD k))])) := ⟨_, rfl⟩
  rw [← hG_3] at hI
  have o_G_3 : G_3 t = some (h0, .inr (1, [.int (nI a), .int (nI b), .int (nI (kW k)), .int (nI (kF k)), .int (nI pr), .int (nI (kN k)), .int (nI (kT k)), .int (nI (kD k))])) := by rw [hG_3]; exact gset_eq _ _ _ _
  exact g_vret S hI hr hlocks (Nat.zero_le _) (Nat.zero_le _) dX0_begin_15 ⟨rfl, by rw [hG_3, hG_2, hG_1, gset_gset, gset_gset]⟩
