/-! copies -/
theorem apF (r i : Nat) : apart (r, 36, i) (tbF r i) := ⟨fun b => by unfold tbF; simp, fun b => by cases b <;> simp [tbF]⟩
theorem apL1 (r : Nat) : apart (r, 31, 0) (tbL r 32) := ⟨fun b => by unfold tbL; simp, fun b => by cases b <;> simp [tbL]⟩
theorem apL3 (r : Nat) : apart (r, 33, 0) (tbL r 34) := ⟨fun b => by unfold tbL; simp, fun b => by cases b <;> simp [tbL]⟩
theorem l_addAll (l : Launch) (K : gK) (G : gW) (t ts : gTag) (tb : Bool → gTag) (h : Nat) (mod : Int32) (t2 : gTag) (tb2 : Bool → gTag) (h2 n : Nat) (f : Nat → Nat) (C : String) (hg : G t = some (h, cL mod K.2.2.1 0)) (hap : apart t tb) (hts : t ≠ ts ∧ ∀ b, tb b ≠ ts) (hA2 : ALg K t2 tb2 G h2 n f) (hts2 : ∀ b, tb2 b ≠ ts) (hn : n ≤ 10) (hC : (C, "java/lang/Object") ∈ gCas) (hel : ∀ j, j < n → ∃ u e, u ≠ t ∧ (∀ b, u ≠ tb b) ∧ u ≠ ts ∧ G u = some (f j, e) ∧ isC K C e) : gM l yJx4a65c_addAll_f0b43 wsJx4a65c_addAll_f0b43 5 104 2 20 K [.ref h, .ref h2] G (fun r G1 => (∃ x, r = some (.int x)) ∧ ALg K t tb G1 h n f ∧ ∀ u, u ≠ t → u ≠ ts → (∀ b, u ≠ tb b) → G1 u = G u) gNo := by
  obtain ⟨mod2, ⟨h1, h3⟩ | ⟨b, ar, cap, g, h1, h3, h4, h5, h6⟩⟩ := hA2
  · subst h1
    exact c_addAllE l K G t ts tb h mod t2 h2 mod2 f hg hap hts h3
  · exact c_addAllO l K G t ts tb h mod t2 (tb2 b) h2 n mod2 ar cap g C f hg hap hts h1 h3 ⟨h4.1, hn, h4.2, by omega⟩ (hts2 b) h6 hC hel
set_option maxHeartbeats 4000000 in
set_option maxRecDepth 100000 in
/-- Kind.copy() -/
theorem c_X5_copy (l : Launch) (K : gK) (G : gW) (t t2 : gTag) (h0 : Nat) (k : KV) (hg : G t = some (h0, cMK k)) (hne : t ≠ t2) : gM l yX5_copy wsX5_copy 3 63 1 8 K [.ref h0] G (fun r G1 => ∃ q, r = some (.ref q) ∧ G1 = gset G t2 q (cMK k)) (gNo) := by
  refine gM.of (cc := cX5_copy) (maxL := 2) (ret := (some (.object "StonecutterYardModel$Kind"))) (by decide) rfl (Nat.le_of_ble_eq_true rfl) ?_
  intro p e s m below meth c A S hr hlocks htab hname hE hA hI ls hl
  have hx := S.1
  have hb := S.2.1
  have hml := S.2.2.1
  have hl : lv_has ls 2 [(0, .ref h0)] := hl
  obtain ⟨H, hHe⟩ : ∃ z, z = s.heap := ⟨_, rfl⟩
  obtain ⟨locs, hLe⟩ : ∃ z : List Loc, z = [] := ⟨_, rfl⟩
  rw [← hHe, ← hLe]
  have hI : gI K A s G H locs := by rw [hHe, hLe]; exact hI
  clear hHe hLe
  refine g_new S hE hI hA (C := RX5) (T := TX5) (N := 8) (ci := 6) (fun w h => (List.mem_cons_of_mem _ (List.mem_append_right _ h))) tyX5 tyX5_ok (List.mem_cons_of_mem _ (List.mem_append_left _ (List.mem_of_getElem? (i := 0) rfl))) (List.mem_cons_of_mem _ (List.mem_append_left _ (List.mem_of_getElem? (i := 1) rfl))) (List.mem_cons_of_mem _ (List.mem_append_left _ (List.mem_of_getElem? (i := 2) rfl))) rfl (fs := [.int (nI 0), .int (nI 0), .int (nI 0), .int (nI 0), .int (nI 0), .int (nI 0), .int (nI 0), .int (nI 0)]) (fun j hj => by rcases (show j = 0 ∨ j = 1 ∨ j = 2 ∨ j = 3 ∨ j = 4 ∨ j = 5 ∨ j = 6 ∨ j = 7 by omega) with rfl | rfl | rfl | rfl | rfl | rfl | rfl | rfl <;> rfl) t2 (by show _ ≤ 1; omega) (by show _ ≤ 8; omega) dX5_copy_0 (fun q_0 H hq_0 hI => ?_)
  obtain ⟨G_1, hG_1⟩ : ∃ z, z = gset G t2 q_0 (.inr (6, [.int (nI 0), .int (nI 0), .int (nI 0), .int (nI 0), .int (nI 0), .int (nI 0), .int (nI 0), .int (nI 0)])) := ⟨_, rfl⟩
  have hI : gI K A s G_1 H locs := by rw [hG_1]; exact hI
  have o_G_1 : G_1 t = some (h0, .inr (6, [.int (nI (kL k)), .int (nI (kB k)), .int (nI (kW k)), .int (nI (kF k)), .int (nI (kP k)), .int (nI (kN k)), .int (nI (kT k)), .int (nI (kD k))])) := by rw [hG_1, gset_ne hne]; exact hg
  have v_G_1 : G_1 t2 = some (q_0, .inr (6, [.int (nI 0), .int (nI 0), .int (nI 0), .int (nI 0), .int (nI 0), .int (nI 0), .int (nI 0), .int (nI 0)])) := by rw [hG_1]; exact gset_eq _ _ _ _
  refine lv_dup hx hb dX5_copy_3 rfl ?_
  refine lv_aload_n hx hb dX5_copy_4 rfl (lv_at hl 0 rfl) ?_
  refine g_get S hE hI (C := RX5) (T := TX5) (N := 8) (ref := "StonecutterYardModel$Kind") (fun w h => (List.mem_cons_of_mem _ (List.mem_append_right _ h))) o_G_1 rfl 0 (by decide) (List.mem_cons_of_mem _ (List.mem_append_left _ (List.mem_of_getElem? (i := 3) rfl))) (fun _ h9 => h9) (v := .int (nI (kL k))) rfl dX5_copy_5 ?_
  refine lv_aload_n hx hb dX5_copy_8 rfl (lv_at hl 0 rfl) ?_
  refine g_get S hE hI (C := RX5) (T := TX5) (N := 8) (ref := "StonecutterYardModel$Kind") (fun w h => (List.mem_cons_of_mem _ (List.mem_append_right _ h))) o_G_1 rfl 1 (by decide) (List.mem_cons_of_mem _ (List.mem_append_left _ (List.mem_of_getElem? (i := 4) rfl))) (fun _ h9 => h9) (v := .int (nI (kB k))) rfl dX5_copy_9 ?_
  refine lv_aload_n hx hb dX5_copy_12 rfl (lv_at hl 0 rfl) ?_
  refine g_get S hE hI (C := RX5) (T := TX5) (N := 8) (ref := "StonecutterYardModel$Kind") (fun w h => (List.mem_cons_of_mem _ (List.mem_append_right _ h))) o_G_1 rfl 4 (by decide) (List.mem_cons_of_mem _ (List.mem_append_left _ (List.mem_of_getElem? (i := 5) rfl))) (fun _ h9 => h9) (v := .int (nI (kP k))) rfl dX5_copy_13 ?_
  refine g_callI (As := [.int (nI (kL k)), .int (nI (kB k)), .int (nI (kP k))]) (rest := [.ref q_0]) (b := q_0) (n := 3) S hE hI hA (c_X5_init l K _ t2 q_0 (kL k) (kB k) (kP k) v_G_1) gX5_copy_X5_init rfl (List.mem_cons_of_mem _ (List.mem_append_left _ (List.mem_of_getElem? (i := 2) rfl))) (List.mem_cons_of_mem _ (List.mem_append_left _ (List.mem_of_getElem? (i := 11) rfl))) (List.mem_cons_of_mem _ (List.mem_append_left _ (List.mem_of_getElem? (i := 12) rfl))) rfl (by decide +kernel) ⟨Nat.le_of_ble_eq_true rfl, Nat.le_of_ble_eq_true rfl⟩ rfl hl.1 rfl (Nat.le_of_ble_eq_true rfl) dX5_copy_16 ⟨by show _ ≤ 1; omega, by show _ ≤ 8; omega⟩ (fun E ce q9 Gx H1 locs1 hx9 => hx9.elim) (fun rv Gc_16 H locs hp hI => ?_)
  obtain ⟨rfl, hGc⟩ := hp
  have hga : Gc_16 t = some (h0, cMK k) := by rw [hGc, gset_ne hne]; exact o_G_1
  have hva : Gc_16 t2 = some (q_0, cMK (kL k, kB k, 0, 0, kP k, 0, 0, 0)) := by rw [hGc]; exact gset_eq _ _ _ _
  refine W.eq (g2 := F0 m 19 ls [.ref q_0]) rfl ?_
  refine lv_astore_n (lv' := [(1, .ref q_0), (0, .ref h0)]) hx hb dX5_copy_19 rfl hl (by decide) rfl (fun ls hl => ?_)
  refine lv_aload_n hx hb dX5_copy_20 rfl (lv_at hl 0 rfl) ?_
  refine lv_aload_n hx hb dX5_copy_21 rfl (lv_at hl 1 rfl) ?_
  refine g_get S hE hI (C := RX5) (T := TX5) (N := 8) (ref := "StonecutterYardModel$Kind") (fun w h => (List.mem_cons_of_mem _ (List.mem_append_right _ h))) hga rfl 2 (by decide) (List.mem_cons_of_mem _ (List.mem_append_left _ (List.mem_of_getElem? (i := 6) rfl))) (fun _ h9 => h9) (v := .int (nI (kW k))) rfl dX5_copy_22 ?_
  refine g_put S hE hI (C := RX5) (T := TX5) (N := 8) (ref := "StonecutterYardModel$Kind") (fun w h => (List.mem_cons_of_mem _ (List.mem_append_right _ h))) tyX5 tyX5_ok nmX5 hva rfl 2 (by decide) (List.mem_cons_of_mem _ (List.mem_append_left _ (List.mem_of_getElem? (i := 6) rfl))) (fun _ h9 => h9) rfl rfl rfl (Nat.le_of_ble_eq_true rfl) dX5_copy_25 (fun H locs hI => ?_)
  have hI : gI K A s (gset Gc_16 t2 q_0 (.inr (6, [.int (nI (kL k)), .int (nI (kB k)), .int (nI (kW k)), .int (nI 0), .int (nI (kP k)), .int (nI 0), .int (nI 0), .int (nI 0)]))) H locs := hI
  obtain ⟨G_2, hG_2⟩ : ∃ z, z = gset Gc_16 t2 q_0 (.inr (6, [.int (nI (kL k)), .int (nI (kB k)), .int (nI (kW k)), .int (nI 0), .int (nI (kP k)), .int (nI 0), .int (nI 0), .int (nI 0)])) := ⟨_, rfl⟩
  rw [← hG_2] at hI
  have o_G_2 : G_2 t = some (h0, .inr (6, [.int (nI (kL k)), .int (nI (kB k)), .int (nI (kW k)), .int (nI (kF k)), .int (nI (kP k)), .int (nI (kN k)), .int (nI (kT k)), .int (nI (kD k))])) := by rw [hG_2, gset_ne hne]; exact hga
  have v_G_2 : G_2 t2 = some (q_0, .inr (6, [.int (nI (kL k)), .int (nI (kB k)), .int (nI (kW k)), .int (nI 0), .int (nI (kP k)), .int (nI 0), .int (nI 0), .int (nI 0)])) := by rw [hG_2]; exact gset_eq _ _ _ _
  refine lv_aload_n hx hb dX5_copy_28 rfl (lv_at hl 0 rfl) ?_
  refine lv_aload_n hx hb dX5_copy_29 rfl (lv_at hl 1 rfl) ?_
  refine g_get S hE hI (C := RX5) (T := TX5) (N := 8) (ref := "StonecutterYardModel$Kind") (fun w h => (List.mem_cons_of_mem _ (List.mem_append_right _ h))) o_G_2 rfl 3 (by decide) (List.mem_cons_of_mem _ (List.mem_append_left _ (List.mem_of_getElem? (i := 7) rfl))) (fun _ h9 => h9) (v := .int (nI (kF k))) rfl dX5_copy_30 ?_
  refine g_put S hE hI (C := RX5) (T := TX5) (N := 8) (ref := "StonecutterYardModel$Kind") (fun w h => (List.mem_cons_of_mem _ (List.mem_append_right _ h))) tyX5 tyX5_ok nmX5 v_G_2 rfl 3 (by decide) (List.mem_cons_of_mem _ (List.mem_append_left _ (List.mem_of_getElem? (i := 7) rfl))) (fun _ h9 => h9) rfl rfl rfl (Nat.le_of_ble_eq_true rfl) dX5_copy_33 (fun H locs hI => ?_)
  have hI : gI K A s (gset G_2 t2 q_0 (.inr (6, [.int (nI (kL k)), .int (nI (kB k)), .int (nI (kW k)), .int (nI (kF k)), .int (nI (kP k)), .int (nI 0), .int (nI 0), .int (nI 0)]))) H locs := hI
  obtain ⟨G_3, hG_3⟩ : ∃ z, z = gset G_2 t2 q_0 (.inr (6, [.int (nI (kL k)), .int (nI (kB k)), .int (nI (kW k)), .int (nI (kF k)), .int (nI (kP k)), .int (nI 0), .int (nI 0), .int (nI 0)])) := ⟨_, rfl⟩
  rw [← hG_3] at hI
  have o_G_3 : G_3 t = some (h0, .inr (6, [.int (nI (kL k)), .int (nI (kB k)), .int (nI (kW k)), .int (nI (kF k)), .int (nI (kP k)), .int (nI (kN k)), .int (nI (kT k)), .int (nI (kD k))])) := by rw [hG_3, gset_ne hne]; exact o_G_2
  have v_G_3 : G_3 t2 = some (q_0, .inr (6, [.int (nI (kL k)), .int (nI (kB k)), .int (nI (kW k)), .int (nI (kF k)), .int (nI (kP k)), .int (nI 0), .int (nI 0), .int (nI 0)])) := by rw [hG_3]; exact gset_eq _ _ _ _
  refine lv_aload_n hx hb dX5_copy_36 rfl (lv_at hl 0 rfl) ?_
  refine lv_aload_n hx hb dX5_copy_37 rfl (lv_at hl 1 rfl) ?_
  refine g_get S hE hI (C := RX5) (T := TX5) (N := 8) (ref := "StonecutterYardModel$Kind") (fun w h => (List.mem_cons_of_mem _ (List.mem_append_right _ h))) o_G_3 rfl 5 (by decide) (List.mem_cons_of_mem _ (List.mem_append_left _ (List.mem_of_getElem? (i := 8) rfl))) (fun _ h9 => h9) (v := .int (nI (kN k))) rfl dX5_copy_38 ?_
  refine g_put S hE hI (C := RX5) (T := TX5) (N := 8) (ref := "StonecutterYardModel$Kind") (fun w h => (List.mem_cons_of_mem _ (List.mem_append_right _ h))) tyX5 tyX5_ok nmX5 v_G_3 rfl 5 (by decide) (List.mem_cons_of_mem _ (List.mem_append_left _ (List.mem_of_getElem? (i := 8) rfl))) (fun _ h9 => h9) rfl rfl rfl (Nat.le_of_ble_eq_true rfl) dX5_copy_41 (fun H locs hI => ?_)
  have hI : gI K A s (gset G_3 t2 q_0 (.inr (6, [.int (nI (kL k)), .int (nI (kB k)), .int (nI (kW k)), .int (nI (kF k)), .int (nI (kP k)), .int (nI (kN k)), .int (nI 0), .int (nI 0)]))) H locs := hI
  obtain ⟨G_4, hG_4⟩ : ∃ z, z = gset G_3 t2 q_0 (.inr (6, [.int (nI (kL k)), .int (nI (kB k)), .int (nI (kW k)), .int (nI (kF k)), .int (nI (kP k)), .int (nI (kN k)), .int (nI 0), .int (nI 0)])) := ⟨_, rfl⟩
  rw [← hG_4] at hI
  have o_G_4 : G_4 t = some (h0, .inr (6, [.int (nI (kL k)), .int (nI (kB k)), .int (nI (kW k)), .int (nI (kF k)), .int (nI (kP k)), .int (nI (kN k)), .int (nI (kT k)), .int (nI (kD k))])) := by rw [hG_4, gset_ne hne]; exact o_G_3
  have v_G_4 : G_4 t2 = some (q_0, .inr (6, [.int (nI (kL k)), .int (nI (kB k)), .int (nI (kW k)), .int (nI (kF k)), .int (nI (kP k)), .int (nI (kN k)), .int (nI 0), .int (nI 0)])) := by rw [hG_4]; exact gset_eq _ _ _ _
  refine lv_aload_n hx hb dX5_copy_44 rfl (lv_at hl 0 rfl) ?_
  refine lv_aload_n hx hb dX5_copy_45 rfl (lv_at hl 1 rfl) ?_
  refine g_get S hE hI (C := RX5) (T := TX5) (N := 8) (ref := "StonecutterYardModel$Kind") (fun w h => (List.mem_cons_of_mem _ (List.mem_append_right _ h))) o_G_4 rfl 6 (by decide) (List.mem_cons_of_mem _ (List.mem_append_left _ (List.mem_of_getElem? (i := 9) rfl))) (fun _ h9 => h9) (v := .int (nI (kT k))) rfl dX5_copy_46 ?_
  refine g_put S hE hI (C := RX5) (T := TX5) (N := 8) (ref := "StonecutterYardModel$Kind") (fun w h => (List.mem_cons_of_mem _ (List.mem_append_right _ h))) tyX5 tyX5_ok nmX5 v_G_4 rfl 6 (by decide) (List.mem_cons_of_mem _ (List.mem_append_left _ (List.mem_of_getElem? (i := 9) rfl))) (fun _ h9 => h9) rfl rfl rfl (Nat.le_of_ble_eq_true rfl) dX5_copy_49 (fun H locs hI => ?_)
  have hI : gI K A s (gset G_4 t2 q_0 (.inr (6, [.int (nI (kL k)), .int (nI (kB k)), .int (nI (kW k)), .int (nI (kF k)), .int (nI (kP k)), .int (nI (kN k)), .int (nI (kT k)), .int (nI 0)]))) H locs := hI
  obtain ⟨G_5, hG_5⟩ : ∃ z, z = gset G_4 t2 q_0 (.inr (6, [.int (nI (kL k)), .int (nI (kB k)), .int (nI (kW k)), .int (nI (kF k)), .int (nI (kP k)), .int (nI (kN k)), .int (nI (kT k)), .int (nI 0)])) := ⟨_, rfl⟩
  rw [← hG_5] at hI
  have o_G_5 : G_5 t = some (h0, .inr (6, [.int (nI (kL k)), .int (nI (kB k)), .int (nI (kW k)), .int (nI (kF k)), .int (nI (kP k)), .int (nI (kN k)), .int (nI (kT k)), .int (nI (kD k))])) := by rw [hG_5, gset_ne hne]; exact o_G_4
  have v_G_5 : G_5 t2 = some (q_0, .inr (6, [.int (nI (kL k)), .int (nI (kB k)), .int (nI (kW k)), .int (nI (kF k)), .int (nI (kP k)), .int (nI (kN k)), .int (nI (kT k)), .int (nI 0)])) := by rw [hG_5]; exact gset_eq _ _ _ _
  refine lv_aload_n hx hb dX5_copy_52 rfl (lv_at hl 0 rfl) ?_
  refine lv_aload_n hx hb dX5_copy_53 rfl (lv_at hl 1 rfl) ?_
  refine g_get S hE hI (C := RX5) (T := TX5) (N := 8) (ref := "StonecutterYardModel$Kind") (fun w h => (List.mem_cons_of_mem _ (List.mem_append_right _ h))) o_G_5 rfl 7 (by decide) (List.mem_cons_of_mem _ (List.mem_append_left _ (List.mem_of_getElem? (i := 10) rfl))) (fun _ h9 => h9) (v := .int (nI (kD k))) rfl dX5_copy_54 ?_
  refine g_put S hE hI (C := RX5) (T := TX5) (N := 8) (ref := "StonecutterYardModel$Kind") (fun w h => (List.mem_cons_of_mem _ (List.mem_append_right _ h))) tyX5 tyX5_ok nmX5 v_G_5 rfl 7 (by decide) (List.mem_cons_of_mem _ (List.mem_append_left _ (List.mem_of_getElem? (i := 10) rfl))) (fun _ h9 => h9) rfl rfl rfl (Nat.le_of_ble_eq_true rfl) dX5_copy_57 (fun H locs hI => ?_)
  have hI : gI K A s (gset G_5 t2 q_0 (.inr (6, [.int (nI (kL k)), .int (nI (kB k)), .int (nI (kW k)), .int (nI (kF k)), .int (nI (kP k)), .int (nI (kN k)), .int (nI (kT k)), .int (nI (kD k))]))) H locs := hI
  obtain ⟨G_6, hG_6⟩ : ∃ z, z = gset G_5 t2 q_0 (.inr (6, [.int (nI (kL k)), .int (nI (kB k)), .int (nI (kW k)), .int (nI (kF k)), .int (nI (kP k)), .int (nI (kN k)), .int (nI (kT k)), .int (nI (kD k))])) := ⟨_, rfl⟩
  rw [← hG_6] at hI
  have o_G_6 : G_6 t = some (h0, .inr (6, [.int (nI (kL k)), .int (nI (kB k)), .int (nI (kW k)), .int (nI (kF k)), .int (nI (kP k)), .int (nI (kN k)), .int (nI (kT k)), .int (nI (kD k))])) := by rw [hG_6, gset_ne hne]; exact o_G_5
  have v_G_6 : G_6 t2 = some (q_0, .inr (6, [.int (nI (kL k)), .int (nI (kB k)), .int (nI (kW k)), .int (nI (kF k)), .int (nI (kP k)), .int (nI (kN k)), .int (nI (kT k)), .int (nI (kD k))])) := by rw [hG_6]; exact gset_eq _ _ _ _
  refine lv_aload_n hx hb dX5_copy_60 rfl (lv_at hl 0 rfl) ?_
  exact g_aret S hI hr (Or.inl ⟨_, rfl⟩) (Or.inr ⟨_, rfl⟩) hlocks (by omega) (by omega) dX5_copy_61 ⟨q_0, rfl, by rw [hG_6, hG_5, hG_4, hG_3, hG_2, hGc, hG_1, gset_gset, gset_gset, gset_gset, gset_gset, gset_gset, gset_gset]⟩
set_option maxHeartbeats 4000000 in
set_option maxRecDepth 100000 in
/-- Slab.copy() -/
theorem c_X6_copy (l : Launch) (K : gK) (G : gW) (r r2 i h0 : Nat) (u : SV) (pl N : Nat) (hg : G (r, 35, i) = some (h0, cMS u pl)) (hfl : FLi K G (r, 36, i) (tbF r i) pl (sL u) N) (hrr : r ≠ r2 ∧ r < 50 ∧ r2 < 50 ∧ r ≠ 8 ∧ r2 ≠ 8) : gM l yX6_copy wsX6_copy 6 129 4 29 K [.ref h0] G (fun r9 G1 => ∃ q pl2, r9 = some (.ref q) ∧ G1 (r2, 35, i) = some (q, cMS u pl2) ∧ FLi K G1 (r2, 36, i) (tbF r2 i) pl2 (sL u) N ∧ ∀ v, v ≠ (r2, 35, i) → v ≠ (r2, 36, i) → (∀ b, v ≠ tbF r2 i b) → v ≠ (8, 1, 0) → G1 v = G v) (gNo) := by
  refine gM.of (cc := cX6_copy) (maxL := 2) (ret := (some (.object "StonecutterYardModel$Slab"))) (by decide) rfl (Nat.le_of_ble_eq_true rfl) ?_
  intro p e s m below meth c A S hr hlocks htab hname hE hA hI ls hl
  have hx := S.1
  have hb := S.2.1
  have hml := S.2.2.1
  have hl : lv_has ls 2 [(0, .ref h0)] := hl
  obtain ⟨-, -, F, g, hAL, hF⟩ := id hfl
  have hr3 := hrr.2.2.1
  obtain ⟨H, hHe⟩ : ∃ z, z = s.heap := ⟨_, rfl⟩
  obtain ⟨locs, hLe⟩ : ∃ z : List Loc, z = [] := ⟨_, rfl⟩
  rw [← hHe, ← hLe]
  have hI : gI K A s G H locs := by rw [hHe, hLe]; exact hI
  clear hHe hLe
  refine g_new S hE hI hA (C := RX6) (T := TX6) (N := 6) (ci := 7) (fun w h => (List.mem_cons_of_mem _ (List.mem_append_left _ (List.mem_append_right _ h)))) tyX6 tyX6_ok (List.mem_cons_of_mem _ (List.mem_append_left _ (List.mem_append_left _ (List.mem_append_left _ (List.mem_of_getElem? (i := 0) rfl))))) (List.mem_cons_of_mem _ (List.mem_append_left _ (List.mem_append_left _ (List.mem_append_left _ (List.mem_of_getElem? (i := 1) rfl))))) (List.mem_cons_of_mem _ (List.mem_append_left _ (List.mem_append_left _ (List.mem_append_left _ (List.mem_of_getElem? (i := 2) rfl))))) rfl (fs := [.int (nI 0), .int (nI 0), .int (nI 0), .int (nI 0), .null, .int (nI 0)]) (fun j hj => by rcases (show j = 0 ∨ j = 1 ∨ j = 2 ∨ j = 3 ∨ j = 4 ∨ j = 5 by omega) with rfl | rfl | rfl | rfl | rfl | rfl <;> rfl) (r2, 35, i) (by show _ ≤ 4; omega) (by show _ ≤ 29; omega) dX6_copy_0 (fun q_0 H hq_0 hI => ?_)
  obtain ⟨G_1, hG_1⟩ : ∃ z, z = gset G (r2, 35, i) q_0 (.inr (7, [.int (nI 0), .int (nI 0), .int (nI 0), .int (nI 0), .null, .int (nI 0)])) := ⟨_, rfl⟩
  have hI : gI K A s G_1 H locs := by rw [hG_1]; exact hI
  have o_G_1 : G_1 (r, 35, i) = some (h0, .inr (7, [.int (nI (sW u)), .int (nI (sH u)), .int (nI (sG u)), .int (sF u), .ref pl, .int (nI (sT u))])) := by rw [hG_1, gset_ne (fun z9 => hrr.1 (congrArg Prod.fst z9))]; exact hg
  have v_G_1 : G_1 (r2, 35, i) = some (q_0, .inr (7, [.int (nI 0), .int (nI 0), .int (nI 0), .int (nI 0), .null, .int (nI 0)])) := by rw [hG_1]; exact gset_eq _ _ _ _
  refine lv_dup hx hb dX6_copy_3 rfl ?_
  refine lv_aload_n hx hb dX6_copy_4 rfl (lv_at hl 0 rfl) ?_
  refine g_get S hE hI (C := RX6) (T := TX6) (N := 6) (ref := "StonecutterYardModel$Slab") (fun w h => (List.mem_cons_of_mem _ (List.mem_append_left _ (List.mem_append_right _ h)))) o_G_1 rfl 0 (by decide) (List.mem_cons_of_mem _ (List.mem_append_left _ (List.mem_append_left _ (List.mem_append_left _ (List.mem_of_getElem? (i := 3) rfl))))) (fun _ h9 => h9) (v := .int (nI (sW u))) rfl dX6_copy_5 ?_
  refine lv_aload_n hx hb dX6_copy_8 rfl (lv_at hl 0 rfl) ?_
  refine g_get S hE hI (C := RX6) (T := TX6) (N := 6) (ref := "StonecutterYardModel$Slab") (fun w h => (List.mem_cons_of_mem _ (List.mem_append_left _ (List.mem_append_right _ h)))) o_G_1 rfl 1 (by decide) (List.mem_cons_of_mem _ (List.mem_append_left _ (List.mem_append_left _ (List.mem_append_left _ (List.mem_of_getElem? (i := 4) rfl))))) (fun _ h9 => h9) (v := .int (nI (sH u))) rfl dX6_copy_9 ?_
  refine lv_aload_n hx hb dX6_copy_12 rfl (lv_at hl 0 rfl) ?_
  refine g_get S hE hI (C := RX6) (T := TX6) (N := 6) (ref := "StonecutterYardModel$Slab") (fun w h => (List.mem_cons_of_mem _ (List.mem_append_left _ (List.mem_append_right _ h)))) o_G_1 rfl 2 (by decide) (List.mem_cons_of_mem _ (List.mem_append_left _ (List.mem_append_left _ (List.mem_append_left _ (List.mem_of_getElem? (i := 5) rfl))))) (fun _ h9 => h9) (v := .int (nI (sG u))) rfl dX6_copy_13 ?_
  refine lv_aload_n hx hb dX6_copy_16 rfl (lv_at hl 0 rfl) ?_
  refine g_get S hE hI (C := RX6) (T := TX6) (N := 6) (ref := "StonecutterYardModel$Slab") (fun w h => (List.mem_cons_of_mem _ (List.mem_append_left _ (List.mem_append_right _ h)))) o_G_1 rfl 3 (by decide) (List.mem_cons_of_mem _ (List.mem_append_left _ (List.mem_append_left _ (List.mem_append_left _ (List.mem_of_getElem? (i := 6) rfl))))) (fun _ h9 => h9) (v := .int (sF u)) rfl dX6_copy_17 ?_
  refine g_callI (As := [.int (nI (sW u)), .int (nI (sH u)), .int (nI (sG u)), .int (sF u)]) (rest := [.ref q_0]) (b := q_0) (n := 4) S hE hI hA (c_X6_init l K _ (r2, 35, i) (r2, 36, i) q_0 (sW u) (sH u) (sG u) (sF u) v_G_1 (by simp)) gX6_copy_X6_init rfl (List.mem_cons_of_mem _ (List.mem_append_left _ (List.mem_append_left _ (List.mem_append_left _ (List.mem_of_getElem? (i := 2) rfl))))) (List.mem_cons_of_mem _ (List.mem_append_left _ (List.mem_append_left _ (List.mem_append_left _ (List.mem_of_getElem? (i := 9) rfl))))) (List.mem_cons_of_mem _ (List.mem_append_left _ (List.mem_append_left _ (List.mem_append_left _ (List.mem_of_getElem? (i := 10) rfl))))) rfl (by decide +kernel) ⟨Nat.le_of_ble_eq_true rfl, Nat.le_of_ble_eq_true rfl⟩ rfl hl.1 rfl (Nat.le_of_ble_eq_true rfl) dX6_copy_20 ⟨by show _ ≤ 4; omega, by show _ ≤ 29; omega⟩ (fun E ce q9 Gx H1 locs1 hx9 => hx9.elim) (fun rv Gc_20 H locs hp hI => ?_)
  obtain ⟨rfl, pl2, hGc⟩ := hp
  have hga : Gc_20 (r, 35, i) = some (h0, cMS u pl) := by rw [hGc, gset_ne (fun z9 => hrr.1 (congrArg Prod.fst z9)), gset_ne (fun z9 => hrr.1 (congrArg Prod.fst z9))]; exact o_G_1
  have hva : Gc_20 (r2, 35, i) = some (q_0, cMS (sW u, sH u, sG u, sF u, 0, []) pl2) := by rw [hGc]; exact gset_eq _ _ _ _
  have hla : Gc_20 (r2, 36, i) = some (pl2, cL (nI 0) K.2.2.1 0) := by rw [hGc, gset_ne (by simp)]; exact gset_eq _ _ _ _
  have hof : ∀ v : gTag, v.1 ≠ r2 → Gc_20 v = G v := fun v hv => by rw [hGc, hG_1, gset_ne (fun z9 => hv (by rw [z9])), gset_ne (fun z9 => hv (by rw [z9])), gset_ne (fun z9 => hv (by rw [z9]))]
  have hfa : FLi K Gc_20 (r, 36, i) (tbF r i) pl (sL u) N := ⟨hfl.1, hfl.2.1, F, g, hAL.moved (hof _ hrr.1) (fun b => hof _ hrr.1), fun j hj => by obtain ⟨m9, e1, e2, e3⟩ := hF j hj; exact ⟨m9, e1, (hof _ (by show 50 ≠ r2; omega)).trans e2, e3⟩⟩
  obtain ⟨hlen, hin9, F2, g2, hAL2, hF2⟩ := hfa
  refine W.eq (g2 := F0 m 23 ls [.ref q_0]) rfl ?_
  refine lv_astore_n (lv' := [(1, .ref q_0), (0, .ref h0)]) hx hb dX6_copy_23 rfl hl (by decide) rfl (fun ls hl => ?_)
  refine lv_aload_n hx hb dX6_copy_24 rfl (lv_at hl 0 rfl) ?_
  refine g_get S hE hI (C := RX6) (T := TX6) (N := 6) (ref := "StonecutterYardModel$Slab") (fun w h => (List.mem_cons_of_mem _ (List.mem_append_left _ (List.mem_append_right _ h)))) hva rfl 4 (by decide) (List.mem_cons_of_mem _ (List.mem_append_left _ (List.mem_append_left _ (List.mem_append_left _ (List.mem_of_getElem? (i := 7) rfl))))) (fun _ h9 => h9) (v := .ref pl2) rfl dX6_copy_25 ?_
  refine lv_aload_n hx hb dX6_copy_28 rfl (lv_at hl 1 rfl) ?_
  refine g_get S hE hI (C := RX6) (T := TX6) (N := 6) (ref := "StonecutterYardModel$Slab") (fun w h => (List.mem_cons_of_mem _ (List.mem_append_left _ (List.mem_append_right _ h)))) hga rfl 4 (by decide) (List.mem_cons_of_mem _ (List.mem_append_left _ (List.mem_append_left _ (List.mem_append_left _ (List.mem_of_getElem? (i := 7) rfl))))) (fun _ h9 => h9) (v := .ref pl) rfl dX6_copy_29 ?_
  refine g_callV (As := [.ref pl]) (rest := []) (b := pl2) (n := 1) S hE hI hA (l_addAll l K _ (r2, 36, i) (8, 1, 0) (tbF r2 i) pl2 (nI 0) (r, 36, i) (tbF r i) pl (sL u).length F2 "[I" hla (apF r2 i) ⟨fun z9 => hrr.2.2.2.2 (congrArg Prod.fst z9), fun b z9 => hrr.2.2.2.2 (congrArg Prod.fst z9)⟩ hAL2 (fun b z9 => hrr.2.2.2.1 (congrArg Prod.fst z9)) (by omega) (List.mem_of_getElem? (i := 5) rfl) (fun j hj => by obtain ⟨m9, e1, e2, e3⟩ := hF2 j hj; exact ⟨(50, 0, m9), _, fun z9 => by have h9 : 50 = r2 := congrArg Prod.fst z9; omega, fun b z9 => by have h9 : 50 = r2 := congrArg Prod.fst z9; omega, fun z9 => (by cases z9), e2, (List.mem_of_getElem? (i := 5) rfl), Or.inr ⟨rfl, _, rfl⟩⟩)) gX6_copy_Jx4a65c_addAll_f0b43 rfl (by decide +kernel) ⟨Nat.le_of_ble_eq_true rfl, Nat.le_of_ble_eq_true rfl⟩ (g_hro hE hI hla rfl) rfl hl.1 rfl (Nat.le_of_ble_eq_true rfl) dX6_copy_32 ⟨by show _ ≤ 4; omega, by show _ ≤ 29; omega⟩ (fun E ce q9 Gx H1 locs1 hx9 => hx9.elim) (fun rv Gc_32 H locs hp hI => ?_)
  obtain ⟨⟨x9, rfl⟩, hAd, hfr⟩ := hp
  have hgb : Gc_32 (r, 35, i) = some (h0, cMS u pl) := (hfr _ (by simp) (fun z9 => hrr.2.2.2.1 (congrArg Prod.fst z9)) (fun b => fun z9 => hrr.1 (congrArg Prod.fst z9))).trans hga
  have hvb : Gc_32 (r2, 35, i) = some (q_0, cMS (sW u, sH u, sG u, sF u, 0, []) pl2) := (hfr _ (by simp) (fun z9 => hrr.2.2.2.2 (congrArg Prod.fst z9)) (fun b => by unfold tbF; simp)).trans hva
  refine W.eq (g2 := F0 m 35 ls [.int x9]) rfl ?_
  refine lv_pop hx hb dX6_copy_35 rfl ?_
  refine lv_aload_n hx hb dX6_copy_36 rfl (lv_at hl 0 rfl) ?_
  refine lv_aload_n hx hb dX6_copy_37 rfl (lv_at hl 1 rfl) ?_
  refine g_get S hE hI (C := RX6) (T := TX6) (N := 6) (ref := "StonecutterYardModel$Slab") (fun w h => (List.mem_cons_of_mem _ (List.mem_append_left _ (List.mem_append_right _ h)))) hgb rfl 5 (by decide) (List.mem_cons_of_mem _ (List.mem_append_left _ (List.mem_append_left _ (List.mem_append_left _ (List.mem_of_getElem? (i := 8) rfl))))) (fun _ h9 => h9) (v := .int (nI (sT u))) rfl dX6_copy_38 ?_
  refine g_put S hE hI (C := RX6) (T := TX6) (N := 6) (ref := "StonecutterYardModel$Slab") (fun w h => (List.mem_cons_of_mem _ (List.mem_append_left _ (List.mem_append_right _ h)))) tyX6 tyX6_ok nmX6 hvb rfl 5 (by decide) (List.mem_cons_of_mem _ (List.mem_append_left _ (List.mem_append_left _ (List.mem_append_left _ (List.mem_of_getElem? (i := 8) rfl))))) (fun _ h9 => h9) rfl rfl rfl (Nat.le_of_ble_eq_true rfl) dX6_copy_41 (fun H locs hI => ?_)
  have hI : gI K A s (gset Gc_32 (r2, 35, i) q_0 (.inr (7, [.int (nI (sW u)), .int (nI (sH u)), .int (nI (sG u)), .int (sF u), .ref pl2, .int (nI (sT u))]))) H locs := hI
  obtain ⟨G_2, hG_2⟩ : ∃ z, z = gset Gc_32 (r2, 35, i) q_0 (.inr (7, [.int (nI (sW u)), .int (nI (sH u)), .int (nI (sG u)), .int (sF u), .ref pl2, .int (nI (sT u))])) := ⟨_, rfl⟩
  rw [← hG_2] at hI
  have o_G_2 : G_2 (r, 35, i) = some (h0, .inr (7, [.int (nI (sW u)), .int (nI (sH u)), .int (nI (sG u)), .int (sF u), .ref pl, .int (nI (sT u))])) := by rw [hG_2, gset_ne (fun z9 => hrr.1 (congrArg Prod.fst z9))]; exact hgb
  have v_G_2 : G_2 (r2, 35, i) = some (q_0, .inr (7, [.int (nI (sW u)), .int (nI (sH u)), .int (nI (sG u)), .int (sF u), .ref pl2, .int (nI (sT u))])) := by rw [hG_2]; exact gset_eq _ _ _ _
  refine lv_aload_n hx hb dX6_copy_44 rfl (lv_at hl 0 rfl) ?_
  have hfz : FLi K G_2 (r2, 36, i) (tbF r2 i) pl2 (sL u) N := by
    refine ⟨hlen, hin9, F2, g2, hAd.moved (by rw [hG_2, gset_ne (by simp)]) (fun b => by rw [hG_2, gset_ne (by unfold tbF; simp)]), fun j hj => ?_⟩
    obtain ⟨m9, e1, e2, e3⟩ := hF2 j hj
    exact ⟨m9, e1, by rw [hG_2, gset_ne (fun z9 => by have h9 : 50 = r2 := congrArg Prod.fst z9; omega), hfr _ (fun z9 => by have h9 : 50 = r2 := congrArg Prod.fst z9; omega) (fun z9 => by cases z9) (fun b z9 => by have h9 : 50 = r2 := congrArg Prod.fst z9; omega)]; exact e2, e3⟩
  exact g_aret S hI hr (Or.inl ⟨_, rfl⟩) (Or.inr ⟨_, rfl⟩) hlocks (by omega) (by omega) dX6_copy_45 ⟨q_0, pl2, rfl, v_G_2, hfz, fun v a b c9 d9 => by rw [hG_2, gset_ne a, hfr v b d9 c9, hGc, gset_ne a, gset_ne b, hG_1, gset_ne a]⟩
