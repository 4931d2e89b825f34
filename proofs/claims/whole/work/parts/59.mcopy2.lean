/-! the reference's yard made and copied -/
theorem FLi.moved {K : gK} {G G1 : gW} {t : gTag} {tb : Bool → gTag} {h N : Nat} {fl : List (Nat × Nat)} (a : FLi K G t tb h fl N) (h1 : G1 t = G t) (h2 : ∀ b, G1 (tb b) = G (tb b)) (h3 : ∀ m, m < N → G1 (50, 0, m) = G (50, 0, m)) : FLi K G1 t tb h fl N := by
  obtain ⟨e1, e2, F, g, e3, e4⟩ := a
  refine ⟨e1, e2, F, g, e3.moved h1 h2, fun j hj => ?_⟩
  obtain ⟨m, f1, f2, f3⟩ := e4 j hj
  exact ⟨m, f1, (h3 m f1).trans f2, f3⟩
theorem FLi.more {K : gK} {G : gW} {t : gTag} {tb : Bool → gTag} {h N N' : Nat} {fl : List (Nat × Nat)} (a : FLi K G t tb h fl N) (hN : N ≤ N') : FLi K G t tb h fl N' := by
  obtain ⟨e1, e2, F, g, e3, e4⟩ := a
  refine ⟨e1, e2, F, g, e3, fun j hj => ?_⟩
  obtain ⟨m, f1, f2, f3⟩ := e4 j hj
  exact ⟨m, by omega, f2, f3⟩
theorem MY.moved {K : gK} {r : Nat} {L : Nat → Nat → Nat} {G G1 : gW} {y : YV} {N : Nat} (h : MY K r L G y N) (h1 : ∀ t : gTag, t.1 = r → G1 t = G t) (h2 : ∀ m, m < N → G1 (50, 0, m) = G (50, 0, m)) : MY K r L G1 y N := by
  obtain ⟨⟨a1, a2⟩, a3, a4, a5, a6⟩ := h
  exact ⟨⟨(h1 _ rfl).trans a1, a2⟩, a3.moved (h1 _ rfl) (fun b => h1 _ rfl), a4.moved (h1 _ rfl) (fun b => h1 _ rfl), fun i hi => ⟨(h1 _ rfl).trans (a5 i hi).1, (a5 i hi).2.1.moved (h1 _ rfl) (fun b => h1 _ rfl) h2, (a5 i hi).2.2⟩, fun i hi => ⟨(h1 _ rfl).trans (a6 i hi).1, (a6 i hi).2⟩⟩
theorem MY.more {K : gK} {r : Nat} {L : Nat → Nat → Nat} {G : gW} {y : YV} {N N' : Nat} (h : MY K r L G y N) (hN : N ≤ N') : MY K r L G y N' :=
  ⟨h.1, h.2.1, h.2.2.1, fun i hi => ⟨(h.2.2.2.1 i hi).1, (h.2.2.2.1 i hi).2.1.more hN, (h.2.2.2.1 i hi).2.2⟩, h.2.2.2.2⟩
theorem isC_S {K : gK} {u : SV} {pl : Nat} : isC K "StonecutterYardModel$Slab" (cMS u pl) := ⟨List.mem_of_getElem? (i := 3) rfl, Or.inl ⟨7, _, _, _, rfl, rfl⟩⟩
theorem isC_K {K : gK} {k : KV} : isC K "StonecutterYardModel$Kind" (cMK k) := ⟨List.mem_of_getElem? (i := 4) rfl, Or.inl ⟨6, _, _, _, rfl, rfl⟩⟩
theorem isC_I {K : gK} {n : Nat} {g : Nat → Int32} : isC K "[I" (cI K n g) := ⟨List.mem_of_getElem? (i := 5) rfl, Or.inr ⟨rfl, _, rfl⟩⟩
theorem ne35L {r i k : Nat} (hk : k ≠ 35 ∧ k ≠ 38) (b : Bool) : ((r, 35, i) : gTag) ≠ tbL r k b := fun z => hk.1 (by unfold tbL at z; exact (congrArg (fun q => q.2.1) z).symm)
theorem ne38L {r i k : Nat} (hk : k ≠ 35 ∧ k ≠ 38) (b : Bool) : ((r, 38, i) : gTag) ≠ tbL r k b := fun z => hk.2 (by unfold tbL at z; exact (congrArg (fun q => q.2.1) z).symm)
set_option maxHeartbeats 4000000 in
set_option maxRecDepth 100000 in
/-- Yard() -/
theorem c_X7_init (l : Launch) (K : gK) (G : gW) (r h0 : Nat) (hg : G (r, 30, 0) = some (h0, .inr (8, [.null, .null, .int (nI 0)]))) : gM l yX7_init wsX7_init 5 100 2 6 K [.ref h0] G (fun v G1 => v = none ∧ (∃ a b, G1 (r, 30, 0) = some (h0, cY a b 1) ∧ G1 (r, 31, 0) = some (a, cL (nI 0) K.2.2.1 0) ∧ G1 (r, 33, 0) = some (b, cL (nI 0) K.2.2.1 0)) ∧ Ag r G G1) (gNo) := by
  refine gM.of (cc := cX7_init) (maxL := 1) (ret := none) (by decide) rfl (Nat.le_of_ble_eq_true rfl) ?_
  intro p e s m below meth c A S hr hlocks htab hname hE hA hI ls hl
  have hx := S.1
  have hb := S.2.1
  have hml := S.2.2.1
  have hl : lv_has ls 1 [(0, .ref h0)] := hl
  obtain ⟨H, hHe⟩ : ∃ z, z = s.heap := ⟨_, rfl⟩
  obtain ⟨locs, hLe⟩ : ∃ z : List Loc, z = [] := ⟨_, rfl⟩
  rw [← hHe, ← hLe]
  have hI : gI K A s G H locs := by rw [hHe, hLe]; exact hI
  clear hHe hLe
  refine lv_aload_n hx hb dX7_init_0 rfl (lv_at hl 0 rfl) ?_
  refine W.objInit hx hb S.2.2.2.1 (S.2.2.2.2 _ (List.mem_cons_of_mem _ (List.mem_append_left _ (List.mem_append_left _ (List.mem_of_getElem? (i := 0) rfl))))) (S.2.2.2.2 _ (List.mem_cons_of_mem _ (List.mem_append_left _ (List.mem_append_left _ (List.mem_of_getElem? (i := 1) rfl))))) (S.2.2.2.2 _ (List.mem_cons_of_mem _ (List.mem_append_left _ (List.mem_append_left _ (List.mem_of_getElem? (i := 2) rfl))))) rfl (by rw [hml]; exact hl.1) rfl dX7_init_1 (Nat.le_of_ble_eq_true rfl) (Nat.le_of_ble_eq_true rfl) ?_
  refine W.eq (g2 := F0 m 4 ls []) rfl ?_
  refine lv_aload_n hx hb dX7_init_4 rfl (lv_at hl 0 rfl) ?_
  refine g_new S hE hI hA (C := RJx4a65c) (T := TJx4a65c) (N := 3) (ci := 0) (fun w h => (List.mem_cons_of_mem _ (List.mem_append_left _ (List.mem_append_right _ h)))) tyJx4a65c tyJx4a65c_ok (List.mem_cons_of_mem _ (List.mem_append_left _ (List.mem_append_left _ (List.mem_of_getElem? (i := 3) rfl)))) (List.mem_cons_of_mem _ (List.mem_append_left _ (List.mem_append_left _ (List.mem_of_getElem? (i := 4) rfl)))) (List.mem_cons_of_mem _ (List.mem_append_left _ (List.mem_append_left _ (List.mem_of_getElem? (i := 5) rfl)))) rfl (fs := [.int (nI 0), .null, .int (nI 0)]) (fun j hj => by rcases (show j = 0 ∨ j = 1 ∨ j = 2 by omega) with rfl | rfl | rfl <;> rfl) (r, 31, 0) (by show _ ≤ 2; omega) (by show _ ≤ 6; omega) dX7_init_5 (fun q_5 H hq_5 hI => ?_)
  obtain ⟨G_1, hG_1⟩ : ∃ z, z = gset G (r, 31, 0) q_5 (.inr (0, [.int (nI 0), .null, .int (nI 0)])) := ⟨_, rfl⟩
  have hI : gI K A s G_1 H locs := by rw [hG_1]; exact hI
  have o_G_1 : G_1 (r, 30, 0) = some (h0, .inr (8, [.null, .null, .int (nI 0)])) := by rw [hG_1, gset_ne (by simp)]; exact hg
  have a_G_1 : G_1 (r, 31, 0) = some (q_5, .inr (0, [.int (nI 0), .null, .int (nI 0)])) := by rw [hG_1]; exact gset_eq _ _ _ _
  refine lv_dup hx hb dX7_init_8 rfl ?_
  refine g_callI (As := []) (rest := [.ref q_5, .ref h0]) (b := q_5) (n := 0) S hE hI hA (c_alInit l K _ (r, 31, 0) q_5 a_G_1) gX7_init_Jx4a65c_init_da8c8 rfl (List.mem_cons_of_mem _ (List.mem_append_left _ (List.mem_append_left _ (List.mem_of_getElem? (i := 5) rfl)))) (List.mem_cons_of_mem _ (List.mem_append_left _ (List.mem_append_left _ (List.mem_of_getElem? (i := 9) rfl)))) (List.mem_cons_of_mem _ (List.mem_append_left _ (List.mem_append_left _ (List.mem_of_getElem? (i := 10) rfl)))) rfl (by decide +kernel) ⟨Nat.le_of_ble_eq_true rfl, Nat.le_of_ble_eq_true rfl⟩ rfl hl.1 rfl (Nat.le_of_ble_eq_true rfl) dX7_init_9 ⟨by show _ ≤ 2; omega, by show _ ≤ 6; omega⟩ (fun E ce q9 Gx H1 locs1 hx9 => hx9.elim) (fun rv Gc_9 H locs hp hI => ?_)
  obtain ⟨rfl, hGc9⟩ := hp
  have o_c9 : Gc_9 (r, 30, 0) = some (h0, .inr (8, [.null, .null, .int (nI 0)])) := by rw [hGc9, gset_ne (by simp)]; exact o_G_1
  have a_c9 : Gc_9 (r, 31, 0) = some (q_5, cL (nI 0) K.2.2.1 0) := by rw [hGc9]; exact gset_eq _ _ _ _
  refine W.eq (g2 := F0 m 12 ls [.ref q_5, .ref h0]) rfl ?_
  refine g_putF S hE hI (C := RX7) (T := TX7) (N := 3) (ref := "StonecutterYardModel$Yard") (fun w h => (List.mem_cons_of_mem _ (List.mem_append_right _ h))) tyX7 tyX7_ok nmX7 o_c9 rfl 0 (by decide) (List.mem_cons_of_mem _ (List.mem_append_left _ (List.mem_append_left _ (List.mem_of_getElem? (i := 6) rfl)))) (fun _ h9 => h9) rfl hname rfl rfl rfl (Nat.le_of_ble_eq_true rfl) dX7_init_12 (fun H locs hI => ?_)
  have hI : gI K A s (gset Gc_9 (r, 30, 0) h0 (.inr (8, [.ref q_5, .null, .int (nI 0)]))) H locs := hI
  obtain ⟨G_2, hG_2⟩ : ∃ z, z = gset Gc_9 (r, 30, 0) h0 (.inr (8, [.ref q_5, .null, .int (nI 0)])) := ⟨_, rfl⟩
  rw [← hG_2] at hI
  have a_G_2 : G_2 (r, 31, 0) = some (q_5, .inr (0, [.int (nI 0), .ref K.2.2.1, .int (nI 0)])) := by rw [hG_2, gset_ne (g_tne a_c9 o_c9 (by simp))]; exact a_c9
  have o_G_2 : G_2 (r, 30, 0) = some (h0, .inr (8, [.ref q_5, .null, .int (nI 0)])) := by rw [hG_2]; exact gset_eq _ _ _ _
  refine lv_aload_n hx hb dX7_init_15 rfl (lv_at hl 0 rfl) ?_
  refine g_new S hE hI hA (C := RJx4a65c) (T := TJx4a65c) (N := 3) (ci := 0) (fun w h => (List.mem_cons_of_mem _ (List.mem_append_left _ (List.mem_append_right _ h)))) tyJx4a65c tyJx4a65c_ok (List.mem_cons_of_mem _ (List.mem_append_left _ (List.mem_append_left _ (List.mem_of_getElem? (i := 3) rfl)))) (List.mem_cons_of_mem _ (List.mem_append_left _ (List.mem_append_left _ (List.mem_of_getElem? (i := 4) rfl)))) (List.mem_cons_of_mem _ (List.mem_append_left _ (List.mem_append_left _ (List.mem_of_getElem? (i := 5) rfl)))) rfl (fs := [.int (nI 0), .null, .int (nI 0)]) (fun j hj => by rcases (show j = 0 ∨ j = 1 ∨ j = 2 by omega) with rfl | rfl | rfl <;> rfl) (r, 33, 0) (by show _ ≤ 2; omega) (by show _ ≤ 6; omega) dX7_init_16 (fun q_16 H hq_16 hI => ?_)
  obtain ⟨G_3, hG_3⟩ : ∃ z, z = gset G_2 (r, 33, 0) q_16 (.inr (0, [.int (nI 0), .null, .int (nI 0)])) := ⟨_, rfl⟩
  have hI : gI K A s G_3 H locs := by rw [hG_3]; exact hI
  have o_G_3 : G_3 (r, 30, 0) = some (h0, .inr (8, [.ref q_5, .null, .int (nI 0)])) := by rw [hG_3, gset_ne (by simp)]; exact o_G_2
  have a_G_3 : G_3 (r, 31, 0) = some (q_5, .inr (0, [.int (nI 0), .ref K.2.2.1, .int (nI 0)])) := by rw [hG_3, gset_ne (by simp)]; exact a_G_2
  have b_G_3 : G_3 (r, 33, 0) = some (q_16, .inr (0, [.int (nI 0), .null, .int (nI 0)])) := by rw [hG_3]; exact gset_eq _ _ _ _
  refine lv_dup hx hb dX7_init_19 rfl ?_
  refine g_callI (As := []) (rest := [.ref q_16, .ref h0]) (b := q_16) (n := 0) S hE hI hA (c_alInit l K _ (r, 33, 0) q_16 b_G_3) gX7_init_Jx4a65c_init_da8c8 rfl (List.mem_cons_of_mem _ (List.mem_append_left _ (List.mem_append_left _ (List.mem_of_getElem? (i := 5) rfl)))) (List.mem_cons_of_mem _ (List.mem_append_left _ (List.mem_append_left _ (List.mem_of_getElem? (i := 9) rfl)))) (List.mem_cons_of_mem _ (List.mem_append_left _ (List.mem_append_left _ (List.mem_of_getElem? (i := 10) rfl)))) rfl (by decide +kernel) ⟨Nat.le_of_ble_eq_true rfl, Nat.le_of_ble_eq_true rfl⟩ rfl hl.1 rfl (Nat.le_of_ble_eq_true rfl) dX7_init_20 ⟨by show _ ≤ 2; omega, by show _ ≤ 6; omega⟩ (fun E ce q9 Gx H1 locs1 hx9 => hx9.elim) (fun rv Gc_20 H locs hp hI => ?_)
  obtain ⟨rfl, hGc20⟩ := hp
  have o_c20 : Gc_20 (r, 30, 0) = some (h0, .inr (8, [.ref q_5, .null, .int (nI 0)])) := by rw [hGc20, gset_ne (by simp)]; exact o_G_3
  have a_c20 : Gc_20 (r, 31, 0) = some (q_5, .inr (0, [.int (nI 0), .ref K.2.2.1, .int (nI 0)])) := by rw [hGc20, gset_ne (by simp)]; exact a_G_3
  have b_c20 : Gc_20 (r, 33, 0) = some (q_16, cL (nI 0) K.2.2.1 0) := by rw [hGc20]; exact gset_eq _ _ _ _
  refine W.eq (g2 := F0 m 23 ls [.ref q_16, .ref h0]) rfl ?_
  refine g_putF S hE hI (C := RX7) (T := TX7) (N := 3) (ref := "StonecutterYardModel$Yard") (fun w h => (List.mem_cons_of_mem _ (List.mem_append_right _ h))) tyX7 tyX7_ok nmX7 o_c20 rfl 1 (by decide) (List.mem_cons_of_mem _ (List.mem_append_left _ (List.mem_append_left _ (List.mem_of_getElem? (i := 7) rfl)))) (fun _ h9 => h9) rfl hname rfl rfl rfl (Nat.le_of_ble_eq_true rfl) dX7_init_23 (fun H locs hI => ?_)
  have hI : gI K A s (gset Gc_20 (r, 30, 0) h0 (.inr (8, [.ref q_5, .ref q_16, .int (nI 0)]))) H locs := hI
  obtain ⟨G_4, hG_4⟩ : ∃ z, z = gset Gc_20 (r, 30, 0) h0 (.inr (8, [.ref q_5, .ref q_16, .int (nI 0)])) := ⟨_, rfl⟩
  rw [← hG_4] at hI
  have a_G_4 : G_4 (r, 31, 0) = some (q_5, .inr (0, [.int (nI 0), .ref K.2.2.1, .int (nI 0)])) := by rw [hG_4, gset_ne (g_tne a_c20 o_c20 (by simp))]; exact a_c20
  have b_G_4 : G_4 (r, 33, 0) = some (q_16, .inr (0, [.int (nI 0), .ref K.2.2.1, .int (nI 0)])) := by rw [hG_4, gset_ne (g_tne b_c20 o_c20 (by simp))]; exact b_c20
  have o_G_4 : G_4 (r, 30, 0) = some (h0, .inr (8, [.ref q_5, .ref q_16, .int (nI 0)])) := by rw [hG_4]; exact gset_eq _ _ _ _
  refine lv_aload_n hx hb dX7_init_26 rfl (lv_at hl 0 rfl) ?_
  refine lv_iconst (v := nI 1) hx hb dX7_init_27 (by decide) ?_
  refine g_put S hE hI (C := RX7) (T := TX7) (N := 3) (ref := "StonecutterYardModel$Yard") (fun w h => (List.mem_cons_of_mem _ (List.mem_append_right _ h))) tyX7 tyX7_ok nmX7 o_G_4 rfl 2 (by decide) (List.mem_cons_of_mem _ (List.mem_append_left _ (List.mem_append_left _ (List.mem_of_getElem? (i := 8) rfl)))) (fun _ h9 => h9) rfl rfl rfl (Nat.le_of_ble_eq_true rfl) dX7_init_28 (fun H locs hI => ?_)
  have hI : gI K A s (gset G_4 (r, 30, 0) h0 (.inr (8, [.ref q_5, .ref q_16, .int (nI 1)]))) H locs := hI
  obtain ⟨G_5, hG_5⟩ : ∃ z, z = gset G_4 (r, 30, 0) h0 (.inr (8, [.ref q_5, .ref q_16, .int (nI 1)])) := ⟨_, rfl⟩
  rw [← hG_5] at hI
  have a_G_5 : G_5 (r, 31, 0) = some (q_5, .inr (0, [.int (nI 0), .ref K.2.2.1, .int (nI 0)])) := by rw [hG_5, gset_ne (g_tne a_G_4 o_G_4 (by simp))]; exact a_G_4
  have b_G_5 : G_5 (r, 33, 0) = some (q_16, .inr (0, [.int (nI 0), .ref K.2.2.1, .int (nI 0)])) := by rw [hG_5, gset_ne (g_tne b_G_4 o_G_4 (by simp))]; exact b_G_4
  have o_G_5 : G_5 (r, 30, 0) = some (h0, .inr (8, [.ref q_5, .ref q_16, .int (nI 1)])) := by rw [hG_5]; exact gset_eq _ _ _ _
  have hag : Ag r G G_5 := by rw [hG_5, hG_4, hGc20, hG_3, hG_2, hGc9, hG_1]; exact Ag.rf.st.st.st.st.st.st.st
  exact g_vret S hI hr hlocks (by omega) (by omega) dX7_init_31 ⟨rfl, ⟨q_5, q_16, o_G_5, a_G_5, b_G_5⟩, hag⟩
set_option maxHeartbeats 4000000 in
set_option maxRecDepth 100000 in
/-- Yard.copy() -/
theorem c_X7_copy (l : Launch) (K : gK) (G : gW) (r r2 : Nat) (L : Nat → Nat → Nat) (y : YV) (N : Nat) (hm : MY K r L G y N) (hrr : r ≠ r2 ∧ r < 50 ∧ r2 < 50 ∧ r ≠ 8 ∧ r2 ≠ 8) : gM l yX7_copy wsX7_copy 8 171 235 4033 K [.ref (L 30 0)] G (fun r9 G1 => ∃ L2, r9 = some (.ref (L2 30 0)) ∧ MY K r2 L2 G1 y N ∧ ∀ v : gTag, v.1 ≠ r2 → v.1 ≠ 8 → G1 v = G v) (gNo) := by
  refine gM.of (cc := cX7_copy) (maxL := 3) (ret := (some (.object "StonecutterYardModel$Yard"))) (by decide) rfl (Nat.le_of_ble_eq_true rfl) ?_
  intro p e s m below meth c A S hr hlocks htab hname hE hA hI ls hl
  have hx := S.1
  have hb := S.2.1
  have hml := S.2.2.1
  have hl : lv_has ls 3 [(0, .ref (L 30 0))] := hl
  obtain ⟨H, hHe⟩ : ∃ z, z = s.heap := ⟨_, rfl⟩
  obtain ⟨locs, hLe⟩ : ∃ z : List Loc, z = [] := ⟨_, rfl⟩
  rw [← hHe, ← hLe]
  have hI : gI K A s G H locs := by rw [hHe, hLe]; exact hI
  clear hHe hLe
  refine g_new S hE hI hA (C := RX7) (T := TX7) (N := 3) (ci := 8) (fun w h => (List.mem_cons_of_mem _ (List.mem_append_left _ (List.mem_append_left _ (List.mem_append_left _ (List.mem_append_right _ h)))))) tyX7 tyX7_ok (List.mem_cons_of_mem _ (List.mem_append_left _ (List.mem_append_left _ (List.mem_append_left _ (List.mem_append_left _ (List.mem_append_left _ (List.mem_of_getElem? (i := 0) rfl))))))) (List.mem_cons_of_mem _ (List.mem_append_left _ (List.mem_append_left _ (List.mem_append_left _ (List.mem_append_left _ (List.mem_append_left _ (List.mem_of_getElem? (i := 1) rfl))))))) (List.mem_cons_of_mem _ (List.mem_append_left _ (List.mem_append_left _ (List.mem_append_left _ (List.mem_append_left _ (List.mem_append_left _ (List.mem_of_getElem? (i := 2) rfl))))))) rfl (fs := [.null, .null, .int (nI 0)]) (fun j hj => by rcases (show j = 0 ∨ j = 1 ∨ j = 2 by omega) with rfl | rfl | rfl <;> rfl) (r2, 30, 0) (by show _ ≤ 235; omega) (by show _ ≤ 4033; omega) dX7_copy_0 (fun q_0 H hq_0 hI => ?_)
  obtain ⟨G_1, hG_1⟩ : ∃ z, z = gset G (r2, 30, 0) q_0 (.inr (8, [.null, .null, .int (nI 0)])) := ⟨_, rfl⟩
  have hI : gI K A s G_1 H locs := by rw [hG_1]; exact hI
  have v_G_1 : G_1 (r2, 30, 0) = some (q_0, .inr (8, [.null, .null, .int (nI 0)])) := by rw [hG_1]; exact gset_eq _ _ _ _
  refine lv_dup hx hb dX7_copy_3 rfl ?_
  refine g_callI (As := []) (rest := [.ref q_0]) (b := q_0) (n := 0) S hE hI hA (c_X7_init l K _ r2 q_0 v_G_1) gX7_copy_X7_init rfl (List.mem_cons_of_mem _ (List.mem_append_left _ (List.mem_append_left _ (List.mem_append_left _ (List.mem_append_left _ (List.mem_append_left _ (List.mem_of_getElem? (i := 2) rfl))))))) (List.mem_cons_of_mem _ (List.mem_append_left _ (List.mem_append_left _ (List.mem_append_left _ (List.mem_append_left _ (List.mem_append_left _ (List.mem_of_getElem? (i := 8) rfl))))))) (List.mem_cons_of_mem _ (List.mem_append_left _ (List.mem_append_left _ (List.mem_append_left _ (List.mem_append_left _ (List.mem_append_left _ (List.mem_of_getElem? (i := 9) rfl))))))) rfl (by decide +kernel) ⟨Nat.le_of_ble_eq_true rfl, Nat.le_of_ble_eq_true rfl⟩ rfl hl.1 rfl (Nat.le_of_ble_eq_true rfl) dX7_copy_4 ⟨by show _ ≤ 235; omega, by show _ ≤ 4033; omega⟩ (fun E ce q9 Gx H1 locs1 hx9 => hx9.elim) (fun rv Gc_4 H locs hp hI => ?_)
  obtain ⟨rfl, ⟨a, b, hyd, hla, hlb⟩, hag⟩ := hp
  have hof : ∀ v : gTag, v.1 ≠ r2 → v.1 ≠ 8 → Gc_4 v = G v := fun v h9 _ => (hag v h9).trans (by rw [hG_1]; exact gset_ne (fun z9 => h9 (by rw [z9])))
  refine W.eq (g2 := F0 m 7 ls [.ref q_0]) rfl ?_
  refine lv_astore_n (lv' := [(1, .ref q_0), (0, .ref (L 30 0))]) hx hb dX7_copy_7 rfl hl (by decide) rfl (fun ls hl => ?_)
  refine lv_iconst (v := nI 0) hx hb dX7_copy_8 (by decide) ?_
  refine lv_istore_n (lv' := [(2, .int (nI 0)), (1, .ref q_0), (0, .ref (L 30 0))]) hx hb dX7_copy_9 rfl hl (by decide) rfl (fun ls hl => ?_)
  have L10 : ∀ (n : Nat) (q a b i : Nat) (A5 A6 : Nat → Nat) (G1 : gW) (H : Heap) (locs : List Loc) (ls : Array Slot) (hn : ySc y - i < n) (hi : i ≤ ySc y) (hyd : G1 (r2, 30, 0) = some (q, cY a b 1)) (hls : ALg K (r2, 31, 0) (tbL r2 32) G1 a i A5) (hlk : G1 (r2, 33, 0) = some (b, cL (nI 0) K.2.2.1 0)) (hsl : ∀ j, j < i → G1 (r2, 35, j) = some (A5 j, cMS (yS y j) (A6 j)) ∧ FLi K G1 (r2, 36, j) (tbF r2 j) (A6 j) (sL (yS y j)) N) (hof : ∀ v : gTag, v.1 ≠ r2 → v.1 ≠ 8 → G1 v = G v), gI K A s G1 H locs → lv_has ls 3 [(0, .ref (L 30 0)), (1, .ref q), (2, .int (nI i))] → W p l e (gRoom 8 171 235 4033) s m ([.ref (L 30 0)] : List Value).toArray below meth c H locs (3 + 5 * i) (9 + 89 * i) (gEnd K below (fun r9 G1 => ∃ L2, r9 = some (.ref (L2 30 0)) ∧ MY K r2 L2 G1 y N ∧ ∀ v : gTag, v.1 ≠ r2 → v.1 ≠ 8 → G1 v = G v) (gNo) A ([.ref (L 30 0)] : List Value).toArray s 235 4033) (F0 m 10 ls []) := by
    clear hI hl
    intro n
    induction n with
    | zero =>
      intro q a b i A5 A6 G1 H locs ls hn hi hyd hls hlk hsl hof hI hl
      exact absurd hn (Nat.not_lt_zero _)
    | succ n ih =>
      intro q a b i A5 A6 G1 H locs ls hn hi hyd hls hlk hsl hof hI hl
      have hm1 : MY K r L G1 y N := hm.moved (fun t ht => hof t (by rw [ht]; exact hrr.1) (by rw [ht]; exact hrr.2.2.2.1)) (fun m _ => hof _ (by show 50 ≠ r2; have := hrr.2.2.1; omega) (by show 50 ≠ 8; decide))
      obtain ⟨m1, ar1, hl1⟩ := hm1.2.1.obj
      obtain ⟨m2, ar2, hl2⟩ := hm1.2.2.1.obj
      have h44 := hm.1.2.2.1
      have h6 := hm.1.2.2.2
      obtain ⟨m3, ar3, hls2⟩ := hls.obj
      obtain ⟨m4, ar4, hlk2⟩ : ∃ m4 ar4, G1 (r2, 33, 0) = some (b, cL m4 ar4 0) := ⟨_, _, hlk⟩
      refine lv_iload_n hx hb dX7_copy_10 rfl (lv_at hl 2 rfl) ?_
      refine lv_aload_n hx hb dX7_copy_11 rfl (lv_at hl 0 rfl) ?_
      refine g_get S hE hI (C := RX7) (T := TX7) (N := 3) (ref := "StonecutterYardModel$Yard") (fun w h => (List.mem_cons_of_mem _ (List.mem_append_left _ (List.mem_append_left _ (List.mem_append_left _ (List.mem_append_right _ h)))))) hm1.1.1 rfl 0 (by decide) (List.mem_cons_of_mem _ (List.mem_append_left _ (List.mem_append_left _ (List.mem_append_left _ (List.mem_append_left _ (List.mem_append_left _ (List.mem_of_getElem? (i := 3) rfl))))))) (fun _ h9 => h9) (v := .ref (L 31 0)) rfl dX7_copy_12 ?_
      refine g_callV (As := []) (rest := [.int (nI i)]) (b := (L 31 0)) (n := 0) S hE hI hA (l_size l K _ (r, 31, 0) (tbL r 32) (L 31 0) (ySc y) (L 35) hm1.2.1) gX7_copy_Jx4a65c_size_8abf5 rfl (by decide +kernel) ⟨Nat.le_of_ble_eq_true rfl, Nat.le_of_ble_eq_true rfl⟩ (g_hro hE hI hl1 rfl) rfl hl.1 rfl (Nat.le_of_ble_eq_true rfl) dX7_copy_15 ⟨by show _ ≤ 235; omega, by show _ ≤ 4033; omega⟩ (fun E ce q9 Gx H1 locs1 hx9 => hx9.elim) (fun rv Gc_15 H locs hp hI => ?_)
      obtain ⟨rfl, hq9⟩ := hp
      rw [hq9] at hI
      refine W.eq (g2 := F0 m 18 ls [.int (nI (ySc y)), .int (nI i)]) rfl ?_
      refine lv_icmp_ge (tgt := 49) hx hb dX7_copy_18 (by decide) (fun c_18 => ?_) (fun c_18 => ?_)
      · skip
        have c_18 : (ySc y) ≤ i := (nI_leI (a := (ySc y)) (b := i) (by omega) (by omega)).mp c_18
        refine lv_iconst (v := nI 0) hx hb dX7_copy_49 (by decide) ?_
        refine lv_istore_n (lv' := [(2, .int (nI 0)), (0, .ref (L 30 0)), (1, .ref q)]) hx hb dX7_copy_50 rfl hl (by decide) rfl (fun ls hl => ?_)
        have L51 : ∀ (n : Nat) (q a b i : Nat) (A5 A6 A8 : Nat → Nat) (G1 : gW) (H : Heap) (locs : List Loc) (ls : Array Slot) (hn : yKc y - i < n) (hi : i ≤ yKc y) (hyd : G1 (r2, 30, 0) = some (q, cY a b 1)) (hls : ALg K (r2, 31, 0) (tbL r2 32) G1 a (ySc y) A5) (hlk : ALg K (r2, 33, 0) (tbL r2 34) G1 b i A8) (hsl : ∀ j, j < (ySc y) → G1 (r2, 35, j) = some (A5 j, cMS (yS y j) (A6 j)) ∧ FLi K G1 (r2, 36, j) (tbF r2 j) (A6 j) (sL (yS y j)) N) (hkd : ∀ j, j < i → G1 (r2, 38, j) = some (A8 j, cMK (yK y j))) (hof : ∀ v : gTag, v.1 ≠ r2 → v.1 ≠ 8 → G1 v = G v), gI K A s G1 H locs → lv_has ls 3 [(0, .ref (L 30 0)), (1, .ref q), (2, .int (nI i))] → W p l e (gRoom 8 171 235 4033) s m ([.ref (L 30 0)] : List Value).toArray below meth c H locs (223 + 2 * i) (3925 + 18 * i) (gEnd K below (fun r9 G1 => ∃ L2, r9 = some (.ref (L2 30 0)) ∧ MY K r2 L2 G1 y N ∧ ∀ v : gTag, v.1 ≠ r2 → v.1 ≠ 8 → G1 v = G v) (gNo) A ([.ref (L 30 0)] : List Value).toArray s 235 4033) (F0 m 51 ls []) := by
          clear hI hl
          intro n
          induction n with
          | zero =>
            intro q a b i A5 A6 A8 G1 H locs ls hn hi hyd hls hlk hsl hkd hof hI hl
            exact absurd hn (Nat.not_lt_zero _)
          | succ n ih51 =>
            intro q a b i A5 A6 A8 G1 H locs ls hn hi hyd hls hlk hsl hkd hof hI hl
            have hm1 : MY K r L G1 y N := hm.moved (fun t ht => hof t (by rw [ht]; exact hrr.1) (by rw [ht]; exact hrr.2.2.2.1)) (fun m _ => hof _ (by show 50 ≠ r2; have := hrr.2.2.1; omega) (by show 50 ≠ 8; decide))
            obtain ⟨m1, ar1, hl1⟩ := hm1.2.1.obj
            obtain ⟨m2, ar2, hl2⟩ := hm1.2.2.1.obj
            have h44 := hm.1.2.2.1
            have h6 := hm.1.2.2.2
            obtain ⟨m3, ar3, hls2⟩ := hls.obj
            obtain ⟨m4, ar4, hlk2⟩ := hlk.obj
            refine lv_iload_n hx hb dX7_copy_51 rfl (lv_at hl 2 rfl) ?_
            refine lv_aload_n hx hb dX7_copy_52 rfl (lv_at hl 0 rfl) ?_
            refine g_get S hE hI (C := RX7) (T := TX7) (N := 3) (ref := "StonecutterYardModel$Yard") (fun w h => (List.mem_cons_of_mem _ (List.mem_append_left _ (List.mem_append_left _ (List.mem_append_left _ (List.mem_append_right _ h)))))) hm1.1.1 rfl 1 (by decide) (List.mem_cons_of_mem _ (List.mem_append_left _ (List.mem_append_left _ (List.mem_append_left _ (List.mem_append_left _ (List.mem_append_left _ (List.mem_of_getElem? (i := 5) rfl))))))) (fun _ h9 => h9) (v := .ref (L 33 0)) rfl dX7_copy_53 ?_
            refine g_callV (As := []) (rest := [.int (nI i)]) (b := (L 33 0)) (n := 0) S hE hI hA (l_size l K _ (r, 33, 0) (tbL r 34) (L 33 0) (yKc y) (L 38) hm1.2.2.1) gX7_copy_Jx4a65c_size_8abf5 rfl (by decide +kernel) ⟨Nat.le_of_ble_eq_true rfl, Nat.le_of_ble_eq_true rfl⟩ (g_hro hE hI hl2 rfl) rfl hl.1 rfl (Nat.le_of_ble_eq_true rfl) dX7_copy_56 ⟨by show _ ≤ 235; omega, by show _ ≤ 4033; omega⟩ (fun E ce q9 Gx H1 locs1 hx9 => hx9.elim) (fun rv Gc_56 H locs hp hI => ?_)
            obtain ⟨rfl, hq9⟩ := hp
            rw [hq9] at hI
            refine W.eq (g2 := F0 m 59 ls [.int (nI (yKc y)), .int (nI i)]) rfl ?_
            refine lv_icmp_ge (tgt := 90) hx hb dX7_copy_59 (by decide) (fun c_59 => ?_) (fun c_59 => ?_)
            · skip
              have c_59 : (yKc y) ≤ i := (nI_leI (a := (yKc y)) (b := i) (by omega) (by omega)).mp c_59
              refine lv_aload_n hx hb dX7_copy_90 rfl (lv_at hl 1 rfl) ?_
              refine lv_aload_n hx hb dX7_copy_91 rfl (lv_at hl 0 rfl) ?_
              refine g_get S hE hI (C := RX7) (T := TX7) (N := 3) (ref := "StonecutterYardModel$Yard") (fun w h => (List.mem_cons_of_mem _ (List.mem_append_left _ (List.mem_append_left _ (List.mem_append_left _ (List.mem_append_right _ h)))))) hm1.1.1 rfl 2 (by decide) (List.mem_cons_of_mem _ (List.mem_append_left _ (List.mem_append_left _ (List.mem_append_left _ (List.mem_append_left _ (List.mem_append_left _ (List.mem_of_getElem? (i := 7) rfl))))))) (fun _ h9 => h9) (v := .int (nI (yF y))) rfl dX7_copy_92 ?_
              refine g_put S hE hI (C := RX7) (T := TX7) (N := 3) (ref := "StonecutterYardModel$Yard") (fun w h => (List.mem_cons_of_mem _ (List.mem_append_left _ (List.mem_append_left _ (List.mem_append_left _ (List.mem_append_right _ h)))))) tyX7 tyX7_ok nmX7 hyd rfl 2 (by decide) (List.mem_cons_of_mem _ (List.mem_append_left _ (List.mem_append_left _ (List.mem_append_left _ (List.mem_append_left _ (List.mem_append_left _ (List.mem_of_getElem? (i := 7) rfl))))))) (fun _ h9 => h9) rfl rfl rfl (Nat.le_of_ble_eq_true rfl) dX7_copy_95 (fun H locs hI => ?_)
              have hI : gI K A s (gset G1 (r2, 30, 0) q (.inr (8, [.ref a, .ref b, .int (nI (yF y))]))) H locs := hI
              obtain ⟨G_2, hG_2⟩ : ∃ z, z = gset G1 (r2, 30, 0) q (.inr (8, [.ref a, .ref b, .int (nI (yF y))])) := ⟨_, rfl⟩
              rw [← hG_2] at hI
              have yd_G_2 : G_2 (r, 30, 0) = some ((L 30 0), .inr (8, [.ref (L 31 0), .ref (L 33 0), .int (nI (yF y))])) := by rw [hG_2, gset_ne (fun z9 => hrr.1 (congrArg Prod.fst z9))]; exact hm1.1.1
              have ls_G_2 : G_2 (r, 31, 0) = some ((L 31 0), .inr (0, [.int m1, .ref ar1, .int (nI (ySc y))])) := by rw [hG_2, gset_ne (fun z9 => hrr.1 (congrArg Prod.fst z9))]; exact hl1
              have lk_G_2 : G_2 (r, 33, 0) = some ((L 33 0), .inr (0, [.int m2, .ref ar2, .int (nI (yKc y))])) := by rw [hG_2, gset_ne (fun z9 => hrr.1 (congrArg Prod.fst z9))]; exact hl2
              have ls2_G_2 : G_2 (r2, 31, 0) = some (a, .inr (0, [.int m3, .ref ar3, .int (nI (ySc y))])) := by rw [hG_2, gset_ne (g_tne hls2 hyd (by simp))]; exact hls2
              have lk2_G_2 : G_2 (r2, 33, 0) = some (b, .inr (0, [.int m4, .ref ar4, .int (nI i)])) := by rw [hG_2, gset_ne (g_tne hlk2 hyd (by simp))]; exact hlk2
              have y2_G_2 : G_2 (r2, 30, 0) = some (q, .inr (8, [.ref a, .ref b, .int (nI (yF y))])) := by rw [hG_2]; exact gset_eq _ _ _ _
              refine lv_aload_n hx hb dX7_copy_98 rfl (lv_at hl 1 rfl) ?_
              obtain rfl : i = yKc y := (by omega)
              have hfin : ∀ v : gTag, v ≠ (r2, 30, 0) → G_2 v = G1 v := fun v c9 => by rw [hG_2, gset_ne c9]
              exact g_aret S hI hr (Or.inl ⟨_, rfl⟩) (Or.inr ⟨_, rfl⟩) hlocks (by omega) (by omega) dX7_copy_99 ⟨fun k j => if k = 30 then q else if k = 31 then a else if k = 33 then b else if k = 35 then A5 j else if k = 36 then A6 j else A8 j, rfl, ⟨⟨by rw [hG_2]; exact gset_eq _ _ _ _, hm.1.2⟩, hls.moved (hfin _ (by simp)) (fun b9 => hfin _ (by unfold tbL; simp)), hlk.moved (hfin _ (by simp)) (fun b9 => hfin _ (by unfold tbL; simp)), fun j hj => ⟨(hfin _ (by simp)).trans (hsl j hj).1, (hsl j hj).2.moved (hfin _ (by simp)) (fun b9 => hfin _ (by unfold tbF; simp)) (fun m _ => hfin _ (by simp)), (hm.2.2.2.1 j hj).2.2⟩, fun j hj => ⟨(hfin _ (by simp)).trans (hkd j hj), (hm.2.2.2.2 j hj).2⟩⟩, fun v h9 h8 => (hfin v (fun z9 => h9 (by rw [z9]))).trans (hof v h9 h8)⟩
            · skip
              have c_59 : i < (yKc y) := Nat.not_le.mp (fun z => c_59 ((nI_leI (a := (yKc y)) (b := i) (by omega) (by omega)).mpr z))
              refine lv_aload_n hx hb dX7_copy_62 rfl (lv_at hl 1 rfl) ?_
              refine g_get S hE hI (C := RX7) (T := TX7) (N := 3) (ref := "StonecutterYardModel$Yard") (fun w h => (List.mem_cons_of_mem _ (List.mem_append_left _ (List.mem_append_left _ (List.mem_append_left _ (List.mem_append_right _ h)))))) hyd rfl 1 (by decide) (List.mem_cons_of_mem _ (List.mem_append_left _ (List.mem_append_left _ (List.mem_append_left _ (List.mem_append_left _ (List.mem_append_left _ (List.mem_of_getElem? (i := 5) rfl))))))) (fun _ h9 => h9) (v := .ref b) rfl dX7_copy_63 ?_
              refine lv_aload_n hx hb dX7_copy_66 rfl (lv_at hl 0 rfl) ?_
              refine g_get S hE hI (C := RX7) (T := TX7) (N := 3) (ref := "StonecutterYardModel$Yard") (fun w h => (List.mem_cons_of_mem _ (List.mem_append_left _ (List.mem_append_left _ (List.mem_append_left _ (List.mem_append_right _ h)))))) hm1.1.1 rfl 1 (by decide) (List.mem_cons_of_mem _ (List.mem_append_left _ (List.mem_append_left _ (List.mem_append_left _ (List.mem_append_left _ (List.mem_append_left _ (List.mem_of_getElem? (i := 5) rfl))))))) (fun _ h9 => h9) (v := .ref (L 33 0)) rfl dX7_copy_67 ?_
              refine lv_iload_n hx hb dX7_copy_70 rfl (lv_at hl 2 rfl) ?_
              refine g_callV (As := [.int (nI i)]) (rest := [.ref b]) (b := (L 33 0)) (n := 1) S hE hI hA (l_get l K _ (r, 33, 0) (tbL r 34) (L 33 0) (yKc y) (L 38) i hm1.2.2.1 c_59) gX7_copy_Jx4a65c_get_915e3 rfl (by decide +kernel) ⟨Nat.le_of_ble_eq_true rfl, Nat.le_of_ble_eq_true rfl⟩ (g_hro hE hI hl2 rfl) rfl hl.1 rfl (Nat.le_of_ble_eq_true rfl) dX7_copy_71 ⟨by show _ ≤ 235; omega, by show _ ≤ 4033; omega⟩ (fun E ce q9 Gx H1 locs1 hx9 => hx9.elim) (fun rv Gc_71 H locs hp hI => ?_)
              obtain ⟨rfl, hq9⟩ := hp
              rw [hq9] at hI
              obtain ⟨hku, hkok⟩ := hm1.2.2.2.2 i c_59
              refine W.eq (g2 := F0 m 74 ls [.ref (L 38 i), .ref b]) rfl ?_
              refine g_cast S (List.mem_cons_of_mem _ (List.mem_append_left _ (List.mem_append_left _ (List.mem_append_left _ (List.mem_append_left _ (List.mem_append_left _ (List.mem_of_getElem? (i := 6) rfl))))))) (g_hro hE hI hku rfl) dX7_copy_74 ?_
              refine g_callV (As := []) (rest := [.ref b]) (b := (L 38 i)) (n := 0) S hE hI hA (c_X5_copy l K _ (r, 38, i) (r2, 38, i) (L 38 i) (yK y i) hku (fun z9 => hrr.1 (congrArg Prod.fst z9))) gX7_copy_X5_copy rfl (by decide +kernel) ⟨Nat.le_of_ble_eq_true rfl, Nat.le_of_ble_eq_true rfl⟩ (g_hro hE hI hku rfl) rfl hl.1 rfl (Nat.le_of_ble_eq_true rfl) dX7_copy_77 ⟨by show _ ≤ 235; omega, by show _ ≤ 4033; omega⟩ (fun E ce q9 Gx H1 locs1 hx9 => hx9.elim) (fun rv Gc_77 H locs hp hI => ?_)
              obtain ⟨q9, rfl, hGc⟩ := hp
              have hlk3 : Gc_77 (r2, 33, 0) = some (b, cL m4 ar4 i) := by rw [hGc, gset_ne (by simp)]; exact hlk2
              have hv9 : Gc_77 (r2, 38, i) = some (q9, cMK (yK y i)) := by rw [hGc]; exact gset_eq _ _ _ _
              have hlk9 : ALg K (r2, 33, 0) (tbL r2 34) Gc_77 b i A8 := hlk.moved (by rw [hGc, gset_ne (by simp)]) (fun b9 => by rw [hGc, gset_ne (Ne.symm (ne38L (by decide) b9))])
              refine W.eq (g2 := F0 m 80 ls [.ref q9, .ref b]) rfl ?_
              refine g_callV (As := [.ref q9]) (rest := []) (b := b) (n := 1) S hE hI hA (l_addS l K _ (r2, 33, 0) (tbL r2 34) b i A8 "StonecutterYardModel$Kind" q9 (r2, 38, i) _ hlk9 (apL3 r2) (by omega) hv9 isC_K (by simp) (ne38L (by decide))) gX7_copy_Jx4a65c_add_9ea2d rfl (by decide +kernel) ⟨Nat.le_of_ble_eq_true rfl, Nat.le_of_ble_eq_true rfl⟩ (g_hro hE hI hlk3 rfl) rfl hl.1 rfl (Nat.le_of_ble_eq_true rfl) dX7_copy_80 ⟨by show _ ≤ 235; omega, by show _ ≤ 4033; omega⟩ (fun E ce q9 Gx H1 locs1 hx9 => hx9.elim) (fun rv Gc_80 H locs hp hI => ?_)
              obtain ⟨rfl, hlkn, ho⟩ := hp
              have hat : ∀ v : gTag, v ≠ (r2, 33, 0) → (∀ b, v ≠ tbL r2 34 b) → v ≠ (r2, 38, i) → Gc_80 v = G1 v := fun v c1 c2 c3 => (ho v c1 c2).trans (by rw [hGc, gset_ne c3])
              have hydn : Gc_80 (r2, 30, 0) = some (q, cY a b 1) := (hat _ (by simp) (fun b => by unfold tbL; simp) (by simp)).trans hyd
              have hlsn : ALg K (r2, 31, 0) (tbL r2 32) Gc_80 a (ySc y) A5 := hls.moved (hat _ (by simp) (fun b => by unfold tbL; simp) (by simp)) (fun b9 => hat _ (by unfold tbL; simp) (fun b => by unfold tbL; simp) (by unfold tbL; simp))
              have hsln : ∀ j, j < (ySc y) → Gc_80 (r2, 35, j) = some (A5 j, cMS (yS y j) (A6 j)) ∧ FLi K Gc_80 (r2, 36, j) (tbF r2 j) (A6 j) (sL (yS y j)) N := fun j hj => ⟨(hat _ (by simp) (ne35L (by decide)) (by simp)).trans (hsl j hj).1, (hsl j hj).2.moved (hat _ (by simp) (fun b => by unfold tbL; simp) (by simp)) (fun b9 => hat _ (by unfold tbF; simp) (fun b => by unfold tbL tbF; simp) (by unfold tbF; simp)) (fun m _ => hat _ (fun z9 => by have h9 : 50 = r2 := congrArg Prod.fst z9; have := hrr.2.2.1; omega) (fun b z9 => by have h9 : 50 = r2 := congrArg Prod.fst z9; have := hrr.2.2.1; omega) (fun z9 => by have h9 : 50 = r2 := congrArg Prod.fst z9; have := hrr.2.2.1; omega))⟩
              have hkdn : ∀ j, j < (i + 1) → Gc_80 (r2, 38, j) = some (fU A8 i q9 j, cMK (yK y j)) := fun j hj => by
                by_cases e9 : j = i
                · subst e9; rw [fU_eq]; exact (ho _ (by simp) (ne38L (by decide))).trans hv9
                · rw [fU_ne e9]; exact (hat _ (by simp) (ne38L (by decide)) (by simp; omega)).trans (hkd j (by omega))
              have hofn : ∀ v : gTag, v.1 ≠ r2 → v.1 ≠ 8 → Gc_80 v = G v := fun v h9 h8 => (hat v (fun z9 => h9 (by rw [z9])) (fun b z9 => h9 (by rw [z9]; rfl)) (fun z9 => h9 (by rw [z9]))).trans (hof v h9 h8)
              refine W.eq (g2 := F0 m 83 ls [.int (nI 1)]) rfl ?_
              refine lv_pop hx hb dX7_copy_83 rfl ?_
              refine lv_iinc (v := nI (i + 1)) (lv' := [(2, .int (nI (i + 1))), (0, .ref (L 30 0)), (1, .ref q)]) hx hb dX7_copy_84 hl (k := 2) rfl (nI_add _ 1) (by decide) rfl (fun ls hl => ?_)
              refine lv_goto (tgt := 51) hx hb dX7_copy_87 (by decide) ?_
              exact W.widen (by omega) (by omega) (ih51 q a b (i + 1) A5 A6 (fU A8 i q9) Gc_80 H locs ls (by omega) (by omega) hydn hlsn hlkn hsln hkdn hofn hI (lv_sub hl [1,2,0] rfl))
        exact W.widen (by omega) (by omega) (L51 _ q a b 0 A5 A6 (fun _ => 0) G1 H locs ls (Nat.lt_succ_self _) (Nat.zero_le _) hyd (by obtain rfl : i = ySc y := (by omega); exact hls) ⟨_, Or.inl ⟨rfl, hlk⟩⟩ (by obtain rfl : i = ySc y := (by omega); exact hsl) (fun j hj => absurd hj (Nat.not_lt_zero j)) hof hI (lv_sub hl [1,2,0] rfl))
      · skip
        have c_18 : i < (ySc y) := Nat.not_le.mp (fun z => c_18 ((nI_leI (a := (ySc y)) (b := i) (by omega) (by omega)).mpr z))
        refine lv_aload_n hx hb dX7_copy_21 rfl (lv_at hl 1 rfl) ?_
        refine g_get S hE hI (C := RX7) (T := TX7) (N := 3) (ref := "StonecutterYardModel$Yard") (fun w h => (List.mem_cons_of_mem _ (List.mem_append_left _ (List.mem_append_left _ (List.mem_append_left _ (List.mem_append_right _ h)))))) hyd rfl 0 (by decide) (List.mem_cons_of_mem _ (List.mem_append_left _ (List.mem_append_left _ (List.mem_append_left _ (List.mem_append_left _ (List.mem_append_left _ (List.mem_of_getElem? (i := 3) rfl))))))) (fun _ h9 => h9) (v := .ref a) rfl dX7_copy_22 ?_
        refine lv_aload_n hx hb dX7_copy_25 rfl (lv_at hl 0 rfl) ?_
        refine g_get S hE hI (C := RX7) (T := TX7) (N := 3) (ref := "StonecutterYardModel$Yard") (fun w h => (List.mem_cons_of_mem _ (List.mem_append_left _ (List.mem_append_left _ (List.mem_append_left _ (List.mem_append_right _ h)))))) hm1.1.1 rfl 0 (by decide) (List.mem_cons_of_mem _ (List.mem_append_left _ (List.mem_append_left _ (List.mem_append_left _ (List.mem_append_left _ (List.mem_append_left _ (List.mem_of_getElem? (i := 3) rfl))))))) (fun _ h9 => h9) (v := .ref (L 31 0)) rfl dX7_copy_26 ?_
        refine lv_iload_n hx hb dX7_copy_29 rfl (lv_at hl 2 rfl) ?_
        refine g_callV (As := [.int (nI i)]) (rest := [.ref a]) (b := (L 31 0)) (n := 1) S hE hI hA (l_get l K _ (r, 31, 0) (tbL r 32) (L 31 0) (ySc y) (L 35) i hm1.2.1 c_18) gX7_copy_Jx4a65c_get_915e3 rfl (by decide +kernel) ⟨Nat.le_of_ble_eq_true rfl, Nat.le_of_ble_eq_true rfl⟩ (g_hro hE hI hl1 rfl) rfl hl.1 rfl (Nat.le_of_ble_eq_true rfl) dX7_copy_30 ⟨by show _ ≤ 235; omega, by show _ ≤ 4033; omega⟩ (fun E ce q9 Gx H1 locs1 hx9 => hx9.elim) (fun rv Gc_30 H locs hp hI => ?_)
        obtain ⟨rfl, hq9⟩ := hp
        rw [hq9] at hI
        obtain ⟨hsu, hflu, hsok⟩ := hm1.2.2.2.1 i c_18
        refine W.eq (g2 := F0 m 33 ls [.ref (L 35 i), .ref a]) rfl ?_
        refine g_cast S (List.mem_cons_of_mem _ (List.mem_append_left _ (List.mem_append_left _ (List.mem_append_left _ (List.mem_append_left _ (List.mem_append_left _ (List.mem_of_getElem? (i := 4) rfl))))))) (g_hro hE hI hsu rfl) dX7_copy_33 ?_
        refine g_callV (As := []) (rest := [.ref a]) (b := (L 35 i)) (n := 0) S hE hI hA (c_X6_copy l K _ r r2 i (L 35 i) (yS y i) (L 36 i) N hsu hflu hrr) gX7_copy_X6_copy rfl (by decide +kernel) ⟨Nat.le_of_ble_eq_true rfl, Nat.le_of_ble_eq_true rfl⟩ (g_hro hE hI hsu rfl) rfl hl.1 rfl (Nat.le_of_ble_eq_true rfl) dX7_copy_36 ⟨by show _ ≤ 235; omega, by show _ ≤ 4033; omega⟩ (fun E ce q9 Gx H1 locs1 hx9 => hx9.elim) (fun rv Gc_36 H locs hp hI => ?_)
        obtain ⟨q9, pl9, rfl, hv9, hfl9, hfr⟩ := hp
        have hyd3 : Gc_36 (r2, 30, 0) = some (q, cY a b 1) := (hfr _ (by simp) (by simp) (fun b => by unfold tbF; simp) (fun z9 => hrr.2.2.2.2 (congrArg Prod.fst z9))).trans hyd
        have hls9 : ALg K (r2, 31, 0) (tbL r2 32) Gc_36 a i A5 := hls.moved (hfr _ (by simp) (by simp) (fun b => by unfold tbF; simp) (fun z9 => hrr.2.2.2.2 (congrArg Prod.fst z9))) (fun b9 => hfr _ (by unfold tbL; simp) (by unfold tbL; simp) (fun b => by unfold tbL tbF; simp) (fun z9 => hrr.2.2.2.2 (congrArg Prod.fst z9)))
        have hls3 : Gc_36 (r2, 31, 0) = some (a, cL m3 ar3 i) := (hfr _ (by simp) (by simp) (fun b => by unfold tbF; simp) (fun z9 => hrr.2.2.2.2 (congrArg Prod.fst z9))).trans hls2
        have hlk9 : Gc_36 (r2, 33, 0) = some (b, cL (nI 0) K.2.2.1 0) := (hfr _ (by simp) (by simp) (fun b => by unfold tbF; simp) (fun z9 => hrr.2.2.2.2 (congrArg Prod.fst z9))).trans hlk
        have h50 : ∀ m, Gc_36 (50, 0, m) = G1 (50, 0, m) := fun m => hfr _ (fun z9 => by have h9 : 50 = r2 := congrArg Prod.fst z9; have := hrr.2.2.1; omega) (fun z9 => by have h9 : 50 = r2 := congrArg Prod.fst z9; have := hrr.2.2.1; omega) (fun b z9 => by have h9 : 50 = r2 := congrArg Prod.fst z9; have := hrr.2.2.1; omega) (fun z9 => by cases z9)
        have hsl9 : ∀ j, j < i → Gc_36 (r2, 35, j) = some (A5 j, cMS (yS y j) (A6 j)) ∧ FLi K Gc_36 (r2, 36, j) (tbF r2 j) (A6 j) (sL (yS y j)) N := fun j hj => ⟨(hfr _ (by simp; omega) (by simp) (fun b => by unfold tbF; simp) (fun z9 => hrr.2.2.2.2 (congrArg Prod.fst z9))).trans (hsl j hj).1, (hsl j hj).2.moved (hfr _ (by simp) (by simp; omega) (fun b => by unfold tbF; simp) (fun z9 => hrr.2.2.2.2 (congrArg Prod.fst z9))) (fun b9 => hfr _ (by unfold tbF; simp) (by unfold tbF; simp) (fun b => by unfold tbF; cases b <;> cases b9 <;> simp <;> omega) (fun z9 => hrr.2.2.2.2 (congrArg Prod.fst z9))) (fun m _ => h50 m)⟩
        have hof9 : ∀ v : gTag, v.1 ≠ r2 → v.1 ≠ 8 → Gc_36 v = G v := fun v h9 h8 => (hfr v (fun z9 => h9 (by rw [z9])) (fun z9 => h9 (by rw [z9])) (fun b z9 => h9 (by rw [z9]; rfl)) (fun z9 => h8 (by rw [z9]))).trans (hof v h9 h8)
        refine W.eq (g2 := F0 m 39 ls [.ref q9, .ref a]) rfl ?_
        refine g_callV (As := [.ref q9]) (rest := []) (b := a) (n := 1) S hE hI hA (l_add l K _ (r2, 31, 0) (tbL r2 32) a i A5 "StonecutterYardModel$Slab" q9 (r2, 35, i) _ hls9 (apL1 r2) (by omega) hv9 isC_S (by simp) (ne35L (by decide)) (fun j hj => ⟨(r2, 35, j), _, by simp, ne35L (by decide), (hsl9 j hj).1, isC_S⟩)) gX7_copy_Jx4a65c_add_9ea2d rfl (by decide +kernel) ⟨Nat.le_of_ble_eq_true rfl, Nat.le_of_ble_eq_true rfl⟩ (g_hro hE hI hls3 rfl) rfl hl.1 rfl (Nat.le_of_ble_eq_true rfl) dX7_copy_39 ⟨by show _ ≤ 235; omega, by show _ ≤ 4033; omega⟩ (fun E ce q9 Gx H1 locs1 hx9 => hx9.elim) (fun rv Gc_39 H locs hp hI => ?_)
        obtain ⟨rfl, hlsn, ho⟩ := hp
        have hydn : Gc_39 (r2, 30, 0) = some (q, cY a b 1) := (ho _ (by simp) (fun b => by unfold tbL; simp)).trans hyd3
        have hlkn : Gc_39 (r2, 33, 0) = some (b, cL (nI 0) K.2.2.1 0) := (ho _ (by simp) (fun b => by unfold tbL; simp)).trans hlk9
        have hsln : ∀ j, j < (i + 1) → Gc_39 (r2, 35, j) = some (fU A5 i q9 j, cMS (yS y j) (fU A6 i pl9 j)) ∧ FLi K Gc_39 (r2, 36, j) (tbF r2 j) (fU A6 i pl9 j) (sL (yS y j)) N := fun j hj => by
          by_cases e9 : j = i
          · subst e9; rw [fU_eq, fU_eq]; exact ⟨(ho _ (by simp) (ne35L (by decide))).trans hv9, hfl9.moved (ho _ (by simp) (fun b => by unfold tbL; simp)) (fun b9 => ho _ (by unfold tbF; simp) (fun b => by unfold tbL tbF; simp)) (fun m _ => ho _ (fun z9 => by have h9 : 50 = r2 := congrArg Prod.fst z9; have := hrr.2.2.1; omega) (fun b z9 => by have h9 : 50 = r2 := congrArg Prod.fst z9; have := hrr.2.2.1; omega))⟩
          · rw [fU_ne e9, fU_ne e9]; exact ⟨(ho _ (by simp) (ne35L (by decide))).trans (hsl9 j (by omega)).1, (hsl9 j (by omega)).2.moved (ho _ (by simp) (fun b => by unfold tbL; simp)) (fun b9 => ho _ (by unfold tbF; simp) (fun b => by unfold tbL tbF; simp)) (fun m _ => ho _ (fun z9 => by have h9 : 50 = r2 := congrArg Prod.fst z9; have := hrr.2.2.1; omega) (fun b z9 => by have h9 : 50 = r2 := congrArg Prod.fst z9; have := hrr.2.2.1; omega))⟩
        have hofn : ∀ v : gTag, v.1 ≠ r2 → v.1 ≠ 8 → Gc_39 v = G v := fun v h9 h8 => (ho v (fun z9 => h9 (by rw [z9])) (fun b z9 => h9 (by rw [z9]; rfl))).trans (hof9 v h9 h8)
        refine W.eq (g2 := F0 m 42 ls [.int (nI 1)]) rfl ?_
        refine lv_pop hx hb dX7_copy_42 rfl ?_
        refine lv_iinc (v := nI (i + 1)) (lv' := [(2, .int (nI (i + 1))), (0, .ref (L 30 0)), (1, .ref q)]) hx hb dX7_copy_43 hl (k := 2) rfl (nI_add _ 1) (by decide) rfl (fun ls hl => ?_)
        refine lv_goto (tgt := 10) hx hb dX7_copy_46 (by decide) ?_
        exact W.widen (by omega) (by omega) (ih q a b (i + 1) (fU A5 i q9) (fU A6 i pl9) Gc_39 H locs ls (by omega) (by omega) hydn hlsn hlkn hsln hofn hI (lv_sub hl [1,2,0] rfl))
  exact W.widen (by omega) (by omega) (L10 _ q_0 a b 0 (fun _ => 0) (fun _ => 0) Gc_4 H locs ls (Nat.lt_succ_self _) (Nat.zero_le _) hyd ⟨_, Or.inl ⟨rfl, hla⟩⟩ hlb (fun j hj => absurd hj (Nat.not_lt_zero j)) hof hI (lv_sub hl [2,1,0] rfl))
