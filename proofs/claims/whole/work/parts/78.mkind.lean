/-! the model's calls on slabs and kinds, on -/
theorem inB0 {x : Int32} {n : Nat} : inB x 0 n = inR x (n + 1) := by
  unfold inB inR
  congr 1
  apply propext
  omega
theorem MdC.m13 {K : gK} {L : Nat → Nat → Nat} {h0 th : Nat} {G G1 : gW} {y : YV} {N : Nat} (h : MdC K L h0 th G y N) (ho : ∀ t : gTag, t.1 ≠ 13 → G1 t = G t) : MdC K L h0 th G1 y N := h.moved (fun t ht => ho t (by omega))
theorem ag13 {G G1 : gW} (ho : ∀ t : gTag, t.1 ≠ 13 → G1 t = G t) : AgM G G1 := fun t ht => ho t (agOff ht).2.2.2.2.2.2.2.1
theorem m13 {K : gK} {L : Nat → Nat → Nat} {G G1 : gW} {y : YV} {N : Nat} (h : MY K 5 L G y N) (ho : ∀ t : gTag, t.1 ≠ 13 → G1 t = G t) : MY K 5 L G1 y N := h.moved (fun t ht => ho t (by omega)) (fun m _ => ho _ (by show (50 : Nat) ≠ 13; decide))
set_option maxHeartbeats 4000000 in
set_option maxRecDepth 100000 in
/-- of(its, what): a slab -/
theorem c_X8_of_ (l : Launch) (K : gK) (G : gW) (L : Nat → Nat → Nat) (h0 th : Nat) (y : YV) (N : Nat) (i j : Nat) (hM : MdC K L h0 th G y N) (hi : i < ySc y) (hj : j < 6) : gM l yX8_of_ wsX8_of_ 3 60 1 6 K [.ref (L 35 i), .int (nI j)] G (fun v G1 => v = some (.int (sOf (yS y i) j)) ∧ ∀ t : gTag, t.1 ≠ 13 → G1 t = G t) (gNo) := by
  refine gM.of (cc := cX8_of_) (maxL := 3) (ret := (some .int)) (by decide) rfl (Nat.le_of_ble_eq_true rfl) ?_
  intro p e s m below meth c A S hr hlocks htab hname hE hA hI ls hl
  have hx := S.1
  have hb := S.2.1
  have hml := S.2.2.1
  have hl : lv_has ls 3 [(0, .ref (L 35 i)), (1, .int (nI j))] := hl
  have h44 := hM.2.1.1.2.2.1
  have h6 := hM.2.1.1.2.2.2
  have hf2 := hM.2.1.1.2.1
  have h40 := hM.2.2.2
  have hth := hM.2.2.1
  have hag : AgM G G := AgM.rf
  obtain ⟨m1, ar1, hl1⟩ := hM.2.1.2.1.obj
  obtain ⟨m2, ar2, hl2⟩ := hM.2.1.2.2.1.obj
  obtain ⟨hsl, hfl, hsok⟩ := hM.2.1.2.2.2.1 i hi
  obtain ⟨s1, s2, s3, s4, s5, s6, s7, s8⟩ := id hsok
  obtain ⟨e1, e2, F9, g9, hAL, hF⟩ := id hfl
  obtain ⟨mf, arf, hlf⟩ := hAL.obj
  obtain ⟨H, hHe⟩ : ∃ z, z = s.heap := ⟨_, rfl⟩
  obtain ⟨locs, hLe⟩ : ∃ z : List Loc, z = [] := ⟨_, rfl⟩
  rw [← hHe, ← hLe]
  have hI : gI K A s G H locs := by rw [hHe, hLe]; exact hI
  clear hHe hLe
  refine lv_bipush (v := nI 6) hx hb dX8_of__0 (by decide) ?_
  refine g_newI S hE hI hA (List.mem_cons_of_mem _ (List.mem_append_left _ (List.mem_append_left _ (List.mem_of_getElem? (i := 0) rfl)))) (N' := 6) rfl (by omega) (13, 0, 0) (by show _ ≤ 1; omega) (by show _ ≤ 6; omega) dX8_of__2 (fun q_2 H hq_2 hI => ?_)
  obtain ⟨G_1, hG_1⟩ : ∃ z, z = gset G (13, 0, 0) q_2 (.inl (K.2.1 0, 6, .inl (fun _ => 0))) := ⟨_, rfl⟩
  have hI : gI K A s G_1 H locs := by rw [hG_1]; exact hI
  have o_G_1 : G_1 (9, 0, 0) = some (h0, .inr (9, [.int (nI th), .ref (L 30 0)])) := by rw [hG_1, gset_ne (by simp)]; exact hM.1
  have yd_G_1 : G_1 (5, 30, 0) = some ((L 30 0), .inr (8, [.ref (L 31 0), .ref (L 33 0), .int (nI (yF y))])) := by rw [hG_1, gset_ne (by simp)]; exact hM.2.1.1.1
  have ls_G_1 : G_1 (5, 31, 0) = some ((L 31 0), .inr (0, [.int m1, .ref ar1, .int (nI (ySc y))])) := by rw [hG_1, gset_ne (by simp)]; exact hl1
  have lk_G_1 : G_1 (5, 33, 0) = some ((L 33 0), .inr (0, [.int m2, .ref ar2, .int (nI (yKc y))])) := by rw [hG_1, gset_ne (by simp)]; exact hl2
  have u_G_1 : G_1 (5, 35, i) = some ((L 35 i), .inr (7, [.int (nI (sW (yS y i))), .int (nI (sH (yS y i))), .int (nI (sG (yS y i))), .int (sF (yS y i)), .ref (L 36 i), .int (nI (sT (yS y i)))])) := by rw [hG_1, gset_ne (by simp)]; exact hsl
  have lf_G_1 : G_1 (5, 36, i) = some ((L 36 i), .inr (0, [.int mf, .ref arf, .int (nI ((sL (yS y i)).length))])) := by rw [hG_1, gset_ne (by simp)]; exact hlf
  have al_G_1 : G_1 (13, 0, 0) = some (q_2, .inl (K.2.1 0, 6, .inl (fun _ => 0))) := by rw [hG_1]; exact gset_eq _ _ _ _
  have hw : ∀ v : gTag, v.1 ≠ 13 → G_1 v = G v := fun v h9 => by rw [hG_1, gset_ne (fun z9 => h9 (by rw [z9]))]
  have hm := m13 hM.2.1 hw
  refine lv_dup hx hb dX8_of__4 rfl ?_
  refine lv_iconst (v := nI 0) hx hb dX8_of__5 (by decide) ?_
  refine lv_aload_n hx hb dX8_of__6 rfl (lv_at hl 0 rfl) ?_
  refine g_get S hE hI (C := RX6) (T := TX6) (N := 6) (ref := "StonecutterYardModel$Slab") (fun w h => (List.mem_cons_of_mem _ (List.mem_append_left _ (List.mem_append_right _ h)))) u_G_1 rfl 0 (by decide) (List.mem_cons_of_mem _ (List.mem_append_left _ (List.mem_append_left _ (List.mem_of_getElem? (i := 1) rfl)))) (fun _ h9 => h9) (v := .int (nI (sW (yS y i)))) rfl dX8_of__7 ?_
  refine g_iast S hE hI (j := 0) (f := (fun _ => 0)) al_G_1 rfl (by omega) (Nat.le_of_ble_eq_true rfl) dX8_of__10 (fun H locs hI => ?_)
  have hI : gI K A s (gset G_1 (13, 0, 0) q_2 (.inl (K.2.1 0, 6, .inl (upd (fun _ => 0) 0 (nI (sW (yS y i))))))) H locs := hI
  obtain ⟨G_2, hG_2⟩ : ∃ z, z = gset G_1 (13, 0, 0) q_2 (.inl (K.2.1 0, 6, .inl (upd (fun _ => 0) 0 (nI (sW (yS y i)))))) := ⟨_, rfl⟩
  rw [← hG_2] at hI
  have o_G_2 : G_2 (9, 0, 0) = some (h0, .inr (9, [.int (nI th), .ref (L 30 0)])) := by rw [hG_2, gset_ne (by simp)]; exact o_G_1
  have yd_G_2 : G_2 (5, 30, 0) = some ((L 30 0), .inr (8, [.ref (L 31 0), .ref (L 33 0), .int (nI (yF y))])) := by rw [hG_2, gset_ne (by simp)]; exact yd_G_1
  have ls_G_2 : G_2 (5, 31, 0) = some ((L 31 0), .inr (0, [.int m1, .ref ar1, .int (nI (ySc y))])) := by rw [hG_2, gset_ne (by simp)]; exact ls_G_1
  have lk_G_2 : G_2 (5, 33, 0) = some ((L 33 0), .inr (0, [.int m2, .ref ar2, .int (nI (yKc y))])) := by rw [hG_2, gset_ne (by simp)]; exact lk_G_1
  have u_G_2 : G_2 (5, 35, i) = some ((L 35 i), .inr (7, [.int (nI (sW (yS y i))), .int (nI (sH (yS y i))), .int (nI (sG (yS y i))), .int (sF (yS y i)), .ref (L 36 i), .int (nI (sT (yS y i)))])) := by rw [hG_2, gset_ne (by simp)]; exact u_G_1
  have lf_G_2 : G_2 (5, 36, i) = some ((L 36 i), .inr (0, [.int mf, .ref arf, .int (nI ((sL (yS y i)).length))])) := by rw [hG_2, gset_ne (by simp)]; exact lf_G_1
  have al_G_2 : G_2 (13, 0, 0) = some (q_2, .inl (K.2.1 0, 6, .inl (upd (fun _ => 0) 0 (nI (sW (yS y i)))))) := by rw [hG_2]; exact gset_eq _ _ _ _
  have hw : ∀ v : gTag, v.1 ≠ 13 → G_2 v = G v := fun v h9 => by rw [hG_2, gset_ne (fun z9 => h9 (by rw [z9]))]; exact hw v h9
  have hm := m13 hM.2.1 hw
  refine lv_dup hx hb dX8_of__11 rfl ?_
  refine lv_iconst (v := nI 1) hx hb dX8_of__12 (by decide) ?_
  refine lv_aload_n hx hb dX8_of__13 rfl (lv_at hl 0 rfl) ?_
  refine g_get S hE hI (C := RX6) (T := TX6) (N := 6) (ref := "StonecutterYardModel$Slab") (fun w h => (List.mem_cons_of_mem _ (List.mem_append_left _ (List.mem_append_right _ h)))) u_G_2 rfl 1 (by decide) (List.mem_cons_of_mem _ (List.mem_append_left _ (List.mem_append_left _ (List.mem_of_getElem? (i := 2) rfl)))) (fun _ h9 => h9) (v := .int (nI (sH (yS y i)))) rfl dX8_of__14 ?_
  refine g_iast S hE hI (j := 1) (f := upd (fun _ => 0) 0 (nI (sW (yS y i)))) al_G_2 rfl (by omega) (Nat.le_of_ble_eq_true rfl) dX8_of__17 (fun H locs hI => ?_)
  have hI : gI K A s (gset G_2 (13, 0, 0) q_2 (.inl (K.2.1 0, 6, .inl (upd (upd (fun _ => 0) 0 (nI (sW (yS y i)))) 1 (nI (sH (yS y i))))))) H locs := hI
  obtain ⟨G_3, hG_3⟩ : ∃ z, z = gset G_2 (13, 0, 0) q_2 (.inl (K.2.1 0, 6, .inl (upd (upd (fun _ => 0) 0 (nI (sW (yS y i)))) 1 (nI (sH (yS y i)))))) := ⟨_, rfl⟩
  rw [← hG_3] at hI
  have o_G_3 : G_3 (9, 0, 0) = some (h0, .inr (9, [.int (nI th), .ref (L 30 0)])) := by rw [hG_3, gset_ne (by simp)]; exact o_G_2
  have yd_G_3 : G_3 (5, 30, 0) = some ((L 30 0), .inr (8, [.ref (L 31 0), .ref (L 33 0), .int (nI (yF y))])) := by rw [hG_3, gset_ne (by simp)]; exact yd_G_2
  have ls_G_3 : G_3 (5, 31, 0) = some ((L 31 0), .inr (0, [.int m1, .ref ar1, .int (nI (ySc y))])) := by rw [hG_3, gset_ne (by simp)]; exact ls_G_2
  have lk_G_3 : G_3 (5, 33, 0) = some ((L 33 0), .inr (0, [.int m2, .ref ar2, .int (nI (yKc y))])) := by rw [hG_3, gset_ne (by simp)]; exact lk_G_2
  have u_G_3 : G_3 (5, 35, i) = some ((L 35 i), .inr (7, [.int (nI (sW (yS y i))), .int (nI (sH (yS y i))), .int (nI (sG (yS y i))), .int (sF (yS y i)), .ref (L 36 i), .int (nI (sT (yS y i)))])) := by rw [hG_3, gset_ne (by simp)]; exact u_G_2
  have lf_G_3 : G_3 (5, 36, i) = some ((L 36 i), .inr (0, [.int mf, .ref arf, .int (nI ((sL (yS y i)).length))])) := by rw [hG_3, gset_ne (by simp)]; exact lf_G_2
  have al_G_3 : G_3 (13, 0, 0) = some (q_2, .inl (K.2.1 0, 6, .inl (upd (upd (fun _ => 0) 0 (nI (sW (yS y i)))) 1 (nI (sH (yS y i)))))) := by rw [hG_3]; exact gset_eq _ _ _ _
  have hw : ∀ v : gTag, v.1 ≠ 13 → G_3 v = G v := fun v h9 => by rw [hG_3, gset_ne (fun z9 => h9 (by rw [z9]))]; exact hw v h9
  have hm := m13 hM.2.1 hw
  refine lv_dup hx hb dX8_of__18 rfl ?_
  refine lv_iconst (v := nI 2) hx hb dX8_of__19 (by decide) ?_
  refine lv_aload_n hx hb dX8_of__20 rfl (lv_at hl 0 rfl) ?_
  refine g_get S hE hI (C := RX6) (T := TX6) (N := 6) (ref := "StonecutterYardModel$Slab") (fun w h => (List.mem_cons_of_mem _ (List.mem_append_left _ (List.mem_append_right _ h)))) u_G_3 rfl 2 (by decide) (List.mem_cons_of_mem _ (List.mem_append_left _ (List.mem_append_left _ (List.mem_of_getElem? (i := 3) rfl)))) (fun _ h9 => h9) (v := .int (nI (sG (yS y i)))) rfl dX8_of__21 ?_
  refine g_iast S hE hI (j := 2) (f := upd (upd (fun _ => 0) 0 (nI (sW (yS y i)))) 1 (nI (sH (yS y i)))) al_G_3 rfl (by omega) (Nat.le_of_ble_eq_true rfl) dX8_of__24 (fun H locs hI => ?_)
  have hI : gI K A s (gset G_3 (13, 0, 0) q_2 (.inl (K.2.1 0, 6, .inl (upd (upd (upd (fun _ => 0) 0 (nI (sW (yS y i)))) 1 (nI (sH (yS y i)))) 2 (nI (sG (yS y i))))))) H locs := hI
  obtain ⟨G_4, hG_4⟩ : ∃ z, z = gset G_3 (13, 0, 0) q_2 (.inl (K.2.1 0, 6, .inl (upd (upd (upd (fun _ => 0) 0 (nI (sW (yS y i)))) 1 (nI (sH (yS y i)))) 2 (nI (sG (yS y i)))))) := ⟨_, rfl⟩
  rw [← hG_4] at hI
  have o_G_4 : G_4 (9, 0, 0) = some (h0, .inr (9, [.int (nI th), .ref (L 30 0)])) := by rw [hG_4, gset_ne (by simp)]; exact o_G_3
  have yd_G_4 : G_4 (5, 30, 0) = some ((L 30 0), .inr (8, [.ref (L 31 0), .ref (L 33 0), .int (nI (yF y))])) := by rw [hG_4, gset_ne (by simp)]; exact yd_G_3
  have ls_G_4 : G_4 (5, 31, 0) = some ((L 31 0), .inr (0, [.int m1, .ref ar1, .int (nI (ySc y))])) := by rw [hG_4, gset_ne (by simp)]; exact ls_G_3
  have lk_G_4 : G_4 (5, 33, 0) = some ((L 33 0), .inr (0, [.int m2, .ref ar2, .int (nI (yKc y))])) := by rw [hG_4, gset_ne (by simp)]; exact lk_G_3
  have u_G_4 : G_4 (5, 35, i) = some ((L 35 i), .inr (7, [.int (nI (sW (yS y i))), .int (nI (sH (yS y i))), .int (nI (sG (yS y i))), .int (sF (yS y i)), .ref (L 36 i), .int (nI (sT (yS y i)))])) := by rw [hG_4, gset_ne (by simp)]; exact u_G_3
  have lf_G_4 : G_4 (5, 36, i) = some ((L 36 i), .inr (0, [.int mf, .ref arf, .int (nI ((sL (yS y i)).length))])) := by rw [hG_4, gset_ne (by simp)]; exact lf_G_3
  have al_G_4 : G_4 (13, 0, 0) = some (q_2, .inl (K.2.1 0, 6, .inl (upd (upd (upd (fun _ => 0) 0 (nI (sW (yS y i)))) 1 (nI (sH (yS y i)))) 2 (nI (sG (yS y i)))))) := by rw [hG_4]; exact gset_eq _ _ _ _
  have hw : ∀ v : gTag, v.1 ≠ 13 → G_4 v = G v := fun v h9 => by rw [hG_4, gset_ne (fun z9 => h9 (by rw [z9]))]; exact hw v h9
  have hm := m13 hM.2.1 hw
  refine lv_dup hx hb dX8_of__25 rfl ?_
  refine lv_iconst (v := nI 3) hx hb dX8_of__26 (by decide) ?_
  refine lv_aload_n hx hb dX8_of__27 rfl (lv_at hl 0 rfl) ?_
  refine g_get S hE hI (C := RX6) (T := TX6) (N := 6) (ref := "StonecutterYardModel$Slab") (fun w h => (List.mem_cons_of_mem _ (List.mem_append_left _ (List.mem_append_right _ h)))) u_G_4 rfl 4 (by decide) (List.mem_cons_of_mem _ (List.mem_append_left _ (List.mem_append_left _ (List.mem_of_getElem? (i := 4) rfl)))) (fun _ h9 => h9) (v := .ref (L 36 i)) rfl dX8_of__28 ?_
  refine g_callV (As := []) (rest := [.int (nI 3), .ref q_2, .ref q_2]) (b := (L 36 i)) (n := 0) S hE hI hA (l_size l K _ (5, 36, i) (tbF 5 i) (L 36 i) (sL (yS y i)).length F9 (hAL.moved (hw _ (by show (5 : Nat) ≠ 13; decide)) (fun b => hw _ (by show (5 : Nat) ≠ 13; decide)))) gX8_of__Jx4a65c_size_8abf5 rfl (by decide +kernel) ⟨Nat.le_of_ble_eq_true rfl, Nat.le_of_ble_eq_true rfl⟩ (g_hro hE hI lf_G_4 rfl) rfl hl.1 rfl (Nat.le_of_ble_eq_true rfl) dX8_of__31 ⟨by show _ ≤ 1; omega, by show _ ≤ 6; omega⟩ (fun E ce q9 Gx H1 locs1 hx9 => hx9.elim) (fun rv Gc_31 H locs hp hI => ?_)
  obtain ⟨rfl, hq9⟩ := hp
  rw [hq9] at hI
  refine W.eq (g2 := F0 m 34 ls [.int (nI ((sL (yS y i)).length)), .int (nI 3), .ref q_2, .ref q_2]) rfl ?_
  refine g_iast S hE hI (j := 3) (f := upd (upd (upd (fun _ => 0) 0 (nI (sW (yS y i)))) 1 (nI (sH (yS y i)))) 2 (nI (sG (yS y i)))) al_G_4 rfl (by omega) (Nat.le_of_ble_eq_true rfl) dX8_of__34 (fun H locs hI => ?_)
  have hI : gI K A s (gset G_4 (13, 0, 0) q_2 (.inl (K.2.1 0, 6, .inl (upd (upd (upd (upd (fun _ => 0) 0 (nI (sW (yS y i)))) 1 (nI (sH (yS y i)))) 2 (nI (sG (yS y i)))) 3 (nI ((sL (yS y i)).length)))))) H locs := hI
  obtain ⟨G_5, hG_5⟩ : ∃ z, z = gset G_4 (13, 0, 0) q_2 (.inl (K.2.1 0, 6, .inl (upd (upd (upd (upd (fun _ => 0) 0 (nI (sW (yS y i)))) 1 (nI (sH (yS y i)))) 2 (nI (sG (yS y i)))) 3 (nI ((sL (yS y i)).length))))) := ⟨_, rfl⟩
  rw [← hG_5] at hI
  have o_G_5 : G_5 (9, 0, 0) = some (h0, .inr (9, [.int (nI th), .ref (L 30 0)])) := by rw [hG_5, gset_ne (by simp)]; exact o_G_4
  have yd_G_5 : G_5 (5, 30, 0) = some ((L 30 0), .inr (8, [.ref (L 31 0), .ref (L 33 0), .int (nI (yF y))])) := by rw [hG_5, gset_ne (by simp)]; exact yd_G_4
  have ls_G_5 : G_5 (5, 31, 0) = some ((L 31 0), .inr (0, [.int m1, .ref ar1, .int (nI (ySc y))])) := by rw [hG_5, gset_ne (by simp)]; exact ls_G_4
  have lk_G_5 : G_5 (5, 33, 0) = some ((L 33 0), .inr (0, [.int m2, .ref ar2, .int (nI (yKc y))])) := by rw [hG_5, gset_ne (by simp)]; exact lk_G_4
  have u_G_5 : G_5 (5, 35, i) = some ((L 35 i), .inr (7, [.int (nI (sW (yS y i))), .int (nI (sH (yS y i))), .int (nI (sG (yS y i))), .int (sF (yS y i)), .ref (L 36 i), .int (nI (sT (yS y i)))])) := by rw [hG_5, gset_ne (by simp)]; exact u_G_4
  have lf_G_5 : G_5 (5, 36, i) = some ((L 36 i), .inr (0, [.int mf, .ref arf, .int (nI ((sL (yS y i)).length))])) := by rw [hG_5, gset_ne (by simp)]; exact lf_G_4
  have al_G_5 : G_5 (13, 0, 0) = some (q_2, .inl (K.2.1 0, 6, .inl (upd (upd (upd (upd (fun _ => 0) 0 (nI (sW (yS y i)))) 1 (nI (sH (yS y i)))) 2 (nI (sG (yS y i)))) 3 (nI ((sL (yS y i)).length))))) := by rw [hG_5]; exact gset_eq _ _ _ _
  have hw : ∀ v : gTag, v.1 ≠ 13 → G_5 v = G v := fun v h9 => by rw [hG_5, gset_ne (fun z9 => h9 (by rw [z9]))]; exact hw v h9
  have hm := m13 hM.2.1 hw
  refine lv_dup hx hb dX8_of__35 rfl ?_
  refine lv_iconst (v := nI 4) hx hb dX8_of__36 (by decide) ?_
  refine lv_aload_n hx hb dX8_of__37 rfl (lv_at hl 0 rfl) ?_
  refine g_get S hE hI (C := RX6) (T := TX6) (N := 6) (ref := "StonecutterYardModel$Slab") (fun w h => (List.mem_cons_of_mem _ (List.mem_append_left _ (List.mem_append_right _ h)))) u_G_5 rfl 3 (by decide) (List.mem_cons_of_mem _ (List.mem_append_left _ (List.mem_append_left _ (List.mem_of_getElem? (i := 5) rfl)))) (fun _ h9 => h9) (v := .int (sF (yS y i))) rfl dX8_of__38 ?_
  refine g_iast S hE hI (j := 4) (f := upd (upd (upd (upd (fun _ => 0) 0 (nI (sW (yS y i)))) 1 (nI (sH (yS y i)))) 2 (nI (sG (yS y i)))) 3 (nI ((sL (yS y i)).length))) al_G_5 rfl (by omega) (Nat.le_of_ble_eq_true rfl) dX8_of__41 (fun H locs hI => ?_)
  have hI : gI K A s (gset G_5 (13, 0, 0) q_2 (.inl (K.2.1 0, 6, .inl (upd (upd (upd (upd (upd (fun _ => 0) 0 (nI (sW (yS y i)))) 1 (nI (sH (yS y i)))) 2 (nI (sG (yS y i)))) 3 (nI ((sL (yS y i)).length))) 4 (sF (yS y i)))))) H locs := hI
  obtain ⟨G_6, hG_6⟩ : ∃ z, z = gset G_5 (13, 0, 0) q_2 (.inl (K.2.1 0, 6, .inl (upd (upd (upd (upd (upd (fun _ => 0) 0 (nI (sW (yS y i)))) 1 (nI (sH (yS y i)))) 2 (nI (sG (yS y i)))) 3 (nI ((sL (yS y i)).length))) 4 (sF (yS y i))))) := ⟨_, rfl⟩
  rw [← hG_6] at hI
  have o_G_6 : G_6 (9, 0, 0) = some (h0, .inr (9, [.int (nI th), .ref (L 30 0)])) := by rw [hG_6, gset_ne (by simp)]; exact o_G_5
  have yd_G_6 : G_6 (5, 30, 0) = some ((L 30 0), .inr (8, [.ref (L 31 0), .ref (L 33 0), .int (nI (yF y))])) := by rw [hG_6, gset_ne (by simp)]; exact yd_G_5
  have ls_G_6 : G_6 (5, 31, 0) = some ((L 31 0), .inr (0, [.int m1, .ref ar1, .int (nI (ySc y))])) := by rw [hG_6, gset_ne (by simp)]; exact ls_G_5
  have lk_G_6 : G_6 (5, 33, 0) = some ((L 33 0), .inr (0, [.int m2, .ref ar2, .int (nI (yKc y))])) := by rw [hG_6, gset_ne (by simp)]; exact lk_G_5
  have u_G_6 : G_6 (5, 35, i) = some ((L 35 i), .inr (7, [.int (nI (sW (yS y i))), .int (nI (sH (yS y i))), .int (nI (sG (yS y i))), .int (sF (yS y i)), .ref (L 36 i), .int (nI (sT (yS y i)))])) := by rw [hG_6, gset_ne (by simp)]; exact u_G_5
  have lf_G_6 : G_6 (5, 36, i) = some ((L 36 i), .inr (0, [.int mf, .ref arf, .int (nI ((sL (yS y i)).length))])) := by rw [hG_6, gset_ne (by simp)]; exact lf_G_5
  have al_G_6 : G_6 (13, 0, 0) = some (q_2, .inl (K.2.1 0, 6, .inl (upd (upd (upd (upd (upd (fun _ => 0) 0 (nI (sW (yS y i)))) 1 (nI (sH (yS y i)))) 2 (nI (sG (yS y i)))) 3 (nI ((sL (yS y i)).length))) 4 (sF (yS y i))))) := by rw [hG_6]; exact gset_eq _ _ _ _
  have hw : ∀ v : gTag, v.1 ≠ 13 → G_6 v = G v := fun v h9 => by rw [hG_6, gset_ne (fun z9 => h9 (by rw [z9]))]; exact hw v h9
  have hm := m13 hM.2.1 hw
  refine lv_dup hx hb dX8_of__42 rfl ?_
  refine lv_iconst (v := nI 5) hx hb dX8_of__43 (by decide) ?_
  refine lv_aload_n hx hb dX8_of__44 rfl (lv_at hl 0 rfl) ?_
  refine g_get S hE hI (C := RX6) (T := TX6) (N := 6) (ref := "StonecutterYardModel$Slab") (fun w h => (List.mem_cons_of_mem _ (List.mem_append_left _ (List.mem_append_right _ h)))) u_G_6 rfl 5 (by decide) (List.mem_cons_of_mem _ (List.mem_append_left _ (List.mem_append_left _ (List.mem_of_getElem? (i := 6) rfl)))) (fun _ h9 => h9) (v := .int (nI (sT (yS y i)))) rfl dX8_of__45 ?_
  refine g_iast S hE hI (j := 5) (f := upd (upd (upd (upd (upd (fun _ => 0) 0 (nI (sW (yS y i)))) 1 (nI (sH (yS y i)))) 2 (nI (sG (yS y i)))) 3 (nI ((sL (yS y i)).length))) 4 (sF (yS y i))) al_G_6 rfl (by omega) (Nat.le_of_ble_eq_true rfl) dX8_of__48 (fun H locs hI => ?_)
  have hI : gI K A s (gset G_6 (13, 0, 0) q_2 (.inl (K.2.1 0, 6, .inl (upd (upd (upd (upd (upd (upd (fun _ => 0) 0 (nI (sW (yS y i)))) 1 (nI (sH (yS y i)))) 2 (nI (sG (yS y i)))) 3 (nI ((sL (yS y i)).length))) 4 (sF (yS y i))) 5 (nI (sT (yS y i))))))) H locs := hI
  obtain ⟨G_7, hG_7⟩ : ∃ z, z = gset G_6 (13, 0, 0) q_2 (.inl (K.2.1 0, 6, .inl (upd (upd (upd (upd (upd (upd (fun _ => 0) 0 (nI (sW (yS y i)))) 1 (nI (sH (yS y i)))) 2 (nI (sG (yS y i)))) 3 (nI ((sL (yS y i)).length))) 4 (sF (yS y i))) 5 (nI (sT (yS y i)))))) := ⟨_, rfl⟩
  rw [← hG_7] at hI
  have o_G_7 : G_7 (9, 0, 0) = some (h0, .inr (9, [.int (nI th), .ref (L 30 0)])) := by rw [hG_7, gset_ne (by simp)]; exact o_G_6
  have yd_G_7 : G_7 (5, 30, 0) = some ((L 30 0), .inr (8, [.ref (L 31 0), .ref (L 33 0), .int (nI (yF y))])) := by rw [hG_7, gset_ne (by simp)]; exact yd_G_6
  have ls_G_7 : G_7 (5, 31, 0) = some ((L 31 0), .inr (0, [.int m1, .ref ar1, .int (nI (ySc y))])) := by rw [hG_7, gset_ne (by simp)]; exact ls_G_6
  have lk_G_7 : G_7 (5, 33, 0) = some ((L 33 0), .inr (0, [.int m2, .ref ar2, .int (nI (yKc y))])) := by rw [hG_7, gset_ne (by simp)]; exact lk_G_6
  have u_G_7 : G_7 (5, 35, i) = some ((L 35 i), .inr (7, [.int (nI (sW (yS y i))), .int (nI (sH (yS y i))), .int (nI (sG (yS y i))), .int (sF (yS y i)), .ref (L 36 i), .int (nI (sT (yS y i)))])) := by rw [hG_7, gset_ne (by simp)]; exact u_G_6
  have lf_G_7 : G_7 (5, 36, i) = some ((L 36 i), .inr (0, [.int mf, .ref arf, .int (nI ((sL (yS y i)).length))])) := by rw [hG_7, gset_ne (by simp)]; exact lf_G_6
  have al_G_7 : G_7 (13, 0, 0) = some (q_2, .inl (K.2.1 0, 6, .inl (upd (upd (upd (upd (upd (upd (fun _ => 0) 0 (nI (sW (yS y i)))) 1 (nI (sH (yS y i)))) 2 (nI (sG (yS y i)))) 3 (nI ((sL (yS y i)).length))) 4 (sF (yS y i))) 5 (nI (sT (yS y i)))))) := by rw [hG_7]; exact gset_eq _ _ _ _
  have hw : ∀ v : gTag, v.1 ≠ 13 → G_7 v = G v := fun v h9 => by rw [hG_7, gset_ne (fun z9 => h9 (by rw [z9]))]; exact hw v h9
  have hm := m13 hM.2.1 hw
  refine lv_astore_n (lv' := [(2, .ref q_2), (0, .ref (L 35 i)), (1, .int (nI j))]) hx hb dX8_of__49 rfl hl (by decide) rfl (fun ls hl => ?_)
  refine lv_aload_n hx hb dX8_of__50 rfl (lv_at hl 0 rfl) ?_
  refine lv_iload_n hx hb dX8_of__51 rfl (lv_at hl 2 rfl) ?_
  refine g_iald S hE hI (j := j) (f := upd (upd (upd (upd (upd (upd (fun _ => 0) 0 (nI (sW (yS y i)))) 1 (nI (sH (yS y i)))) 2 (nI (sG (yS y i)))) 3 (nI ((sL (yS y i)).length))) 4 (sF (yS y i))) 5 (nI (sT (yS y i)))) al_G_7 rfl (by omega) (by decide) dX8_of__52 ?_
  refine W.eq (g2 := F0 m 53 ls [.int (sOf (yS y i) j)]) (congrArg (fun z => F0 m 53 ls [.int z]) (by rcases (show j = 0 ∨ j = 1 ∨ j = 2 ∨ j = 3 ∨ j = 4 ∨ j = 5 by omega) with h9 | h9 | h9 | h9 | h9 | h9 <;> subst h9 <;> rfl)) ?_
  exact g_iret S hI hr hlocks (by omega) (by omega) dX8_of__53 ⟨rfl, hw⟩
set_option maxHeartbeats 4000000 in
set_option maxRecDepth 100000 in
/-- of(its, what): a kind -/
theorem c_X8_of__ (l : Launch) (K : gK) (G : gW) (L : Nat → Nat → Nat) (h0 th : Nat) (y : YV) (N : Nat) (i j : Nat) (hM : MdC K L h0 th G y N) (hi : i < yKc y) (hj : j < 8) : gM l yX8_of__ wsX8_of__ 2 40 1 8 K [.ref (L 38 i), .int (nI j)] G (fun v G1 => v = some (.int (kOf (yK y i) j)) ∧ ∀ t : gTag, t.1 ≠ 13 → G1 t = G t) (gNo) := by
  refine gM.of (cc := cX8_of__) (maxL := 3) (ret := (some .int)) (by decide) rfl (Nat.le_of_ble_eq_true rfl) ?_
  intro p e s m below meth c A S hr hlocks htab hname hE hA hI ls hl
  have hx := S.1
  have hb := S.2.1
  have hml := S.2.2.1
  have hl : lv_has ls 3 [(0, .ref (L 38 i)), (1, .int (nI j))] := hl
  have h44 := hM.2.1.1.2.2.1
  have h6 := hM.2.1.1.2.2.2
  have hf2 := hM.2.1.1.2.1
  have h40 := hM.2.2.2
  have hth := hM.2.2.1
  have hag : AgM G G := AgM.rf
  obtain ⟨m1, ar1, hl1⟩ := hM.2.1.2.1.obj
  obtain ⟨m2, ar2, hl2⟩ := hM.2.1.2.2.1.obj
  obtain ⟨hkd, hkok⟩ := hM.2.1.2.2.2.2 i hi
  obtain ⟨k1, k2, k3, k4, k5, k6, k7, k8, k9⟩ := id hkok
  obtain ⟨H, hHe⟩ : ∃ z, z = s.heap := ⟨_, rfl⟩
  obtain ⟨locs, hLe⟩ : ∃ z : List Loc, z = [] := ⟨_, rfl⟩
  rw [← hHe, ← hLe]
  have hI : gI K A s G H locs := by rw [hHe, hLe]; exact hI
  clear hHe hLe
  refine lv_bipush (v := nI 8) hx hb dX8_of___0 (by decide) ?_
  refine g_newI S hE hI hA (List.mem_cons_of_mem _ (List.mem_append_left _ (List.mem_of_getElem? (i := 0) rfl))) (N' := 8) rfl (by omega) (13, 0, 0) (by show _ ≤ 1; omega) (by show _ ≤ 8; omega) dX8_of___2 (fun q_2 H hq_2 hI => ?_)
  obtain ⟨G_1, hG_1⟩ : ∃ z, z = gset G (13, 0, 0) q_2 (.inl (K.2.1 0, 8, .inl (fun _ => 0))) := ⟨_, rfl⟩
  have hI : gI K A s G_1 H locs := by rw [hG_1]; exact hI
  have o_G_1 : G_1 (9, 0, 0) = some (h0, .inr (9, [.int (nI th), .ref (L 30 0)])) := by rw [hG_1, gset_ne (by simp)]; exact hM.1
  have yd_G_1 : G_1 (5, 30, 0) = some ((L 30 0), .inr (8, [.ref (L 31 0), .ref (L 33 0), .int (nI (yF y))])) := by rw [hG_1, gset_ne (by simp)]; exact hM.2.1.1.1
  have ls_G_1 : G_1 (5, 31, 0) = some ((L 31 0), .inr (0, [.int m1, .ref ar1, .int (nI (ySc y))])) := by rw [hG_1, gset_ne (by simp)]; exact hl1
  have lk_G_1 : G_1 (5, 33, 0) = some ((L 33 0), .inr (0, [.int m2, .ref ar2, .int (nI (yKc y))])) := by rw [hG_1, gset_ne (by simp)]; exact hl2
  have k_G_1 : G_1 (5, 38, i) = some ((L 38 i), .inr (6, [.int (nI (kL (yK y i))), .int (nI (kB (yK y i))), .int (nI (kW (yK y i))), .int (nI (kF (yK y i))), .int (nI (kP (yK y i))), .int (nI (kN (yK y i))), .int (nI (kT (yK y i))), .int (nI (kD (yK y i)))])) := by rw [hG_1, gset_ne (by simp)]; exact hkd
  have al_G_1 : G_1 (13, 0, 0) = some (q_2, .inl (K.2.1 0, 8, .inl (fun _ => 0))) := by rw [hG_1]; exact gset_eq _ _ _ _
  have hw : ∀ v : gTag, v.1 ≠ 13 → G_1 v = G v := fun v h9 => by rw [hG_1, gset_ne (fun z9 => h9 (by rw [z9]))]
  have hm := m13 hM.2.1 hw
  refine lv_dup hx hb dX8_of___4 rfl ?_
  refine lv_iconst (v := nI 0) hx hb dX8_of___5 (by decide) ?_
  refine lv_aload_n hx hb dX8_of___6 rfl (lv_at hl 0 rfl) ?_
  refine g_get S hE hI (C := RX5) (T := TX5) (N := 8) (ref := "StonecutterYardModel$Kind") (fun w h => (List.mem_cons_of_mem _ (List.mem_append_right _ h))) k_G_1 rfl 0 (by decide) (List.mem_cons_of_mem _ (List.mem_append_left _ (List.mem_of_getElem? (i := 1) rfl))) (fun _ h9 => h9) (v := .int (nI (kL (yK y i)))) rfl dX8_of___7 ?_
  refine g_iast S hE hI (j := 0) (f := (fun _ => 0)) al_G_1 rfl (by omega) (Nat.le_of_ble_eq_true rfl) dX8_of___10 (fun H locs hI => ?_)
  have hI : gI K A s (gset G_1 (13, 0, 0) q_2 (.inl (K.2.1 0, 8, .inl (upd (fun _ => 0) 0 (nI (kL (yK y i))))))) H locs := hI
  obtain ⟨G_2, hG_2⟩ : ∃ z, z = gset G_1 (13, 0, 0) q_2 (.inl (K.2.1 0, 8, .inl (upd (fun _ => 0) 0 (nI (kL (yK y i)))))) := ⟨_, rfl⟩
  rw [← hG_2] at hI
  have o_G_2 : G_2 (9, 0, 0) = some (h0, .inr (9, [.int (nI th), .ref (L 30 0)])) := by rw [hG_2, gset_ne (by simp)]; exact o_G_1
  have yd_G_2 : G_2 (5, 30, 0) = some ((L 30 0), .inr (8, [.ref (L 31 0), .ref (L 33 0), .int (nI (yF y))])) := by rw [hG_2, gset_ne (by simp)]; exact yd_G_1
  have ls_G_2 : G_2 (5, 31, 0) = some ((L 31 0), .inr (0, [.int m1, .ref ar1, .int (nI (ySc y))])) := by rw [hG_2, gset_ne (by simp)]; exact ls_G_1
  have lk_G_2 : G_2 (5, 33, 0) = some ((L 33 0), .inr (0, [.int m2, .ref ar2, .int (nI (yKc y))])) := by rw [hG_2, gset_ne (by simp)]; exact lk_G_1
  have k_G_2 : G_2 (5, 38, i) = some ((L 38 i), .inr (6, [.int (nI (kL (yK y i))), .int (nI (kB (yK y i))), .int (nI (kW (yK y i))), .int (nI (kF (yK y i))), .int (nI (kP (yK y i))), .int (nI (kN (yK y i))), .int (nI (kT (yK y i))), .int (nI (kD (yK y i)))])) := by rw [hG_2, gset_ne (by simp)]; exact k_G_1
  have al_G_2 : G_2 (13, 0, 0) = some (q_2, .inl (K.2.1 0, 8, .inl (upd (fun _ => 0) 0 (nI (kL (yK y i)))))) := by rw [hG_2]; exact gset_eq _ _ _ _
  have hw : ∀ v : gTag, v.1 ≠ 13 → G_2 v = G v := fun v h9 => by rw [hG_2, gset_ne (fun z9 => h9 (by rw [z9]))]; exact hw v h9
  have hm := m13 hM.2.1 hw
  refine lv_dup hx hb dX8_of___11 rfl ?_
  refine lv_iconst (v := nI 1) hx hb dX8_of___12 (by decide) ?_
  refine lv_aload_n hx hb dX8_of___13 rfl (lv_at hl 0 rfl) ?_
  refine g_get S hE hI (C := RX5) (T := TX5) (N := 8) (ref := "StonecutterYardModel$Kind") (fun w h => (List.mem_cons_of_mem _ (List.mem_append_right _ h))) k_G_2 rfl 1 (by decide) (List.mem_cons_of_mem _ (List.mem_append_left _ (List.mem_of_getElem? (i := 2) rfl))) (fun _ h9 => h9) (v := .int (nI (kB (yK y i)))) rfl dX8_of___14 ?_
  refine g_iast S hE hI (j := 1) (f := upd (fun _ => 0) 0 (nI (kL (yK y i)))) al_G_2 rfl (by omega) (Nat.le_of_ble_eq_true rfl) dX8_of___17 (fun H locs hI => ?_)
  have hI : gI K A s (gset G_2 (13, 0, 0) q_2 (.inl (K.2.1 0, 8, .inl (upd (upd (fun _ => 0) 0 (nI (kL (yK y i)))) 1 (nI (kB (yK y i))))))) H locs := hI
  obtain ⟨G_3, hG_3⟩ : ∃ z, z = gset G_2 (13, 0, 0) q_2 (.inl (K.2.1 0, 8, .inl (upd (upd (fun _ => 0) 0 (nI (kL (yK y i)))) 1 (nI (kB (yK y i)))))) := ⟨_, rfl⟩
  rw [← hG_3] at hI
  have o_G_3 : G_3 (9, 0, 0) = some (h0, .inr (9, [.int (nI th), .ref (L 30 0)])) := by rw [hG_3, gset_ne (by simp)]; exact o_G_2
  have yd_G_3 : G_3 (5, 30, 0) = some ((L 30 0), .inr (8, [.ref (L 31 0), .ref (L 33 0), .int (nI (yF y))])) := by rw [hG_3, gset_ne (by simp)]; exact yd_G_2
  have ls_G_3 : G_3 (5, 31, 0) = some ((L 31 0), .inr (0, [.int m1, .ref ar1, .int (nI (ySc y))])) := by rw [hG_3, gset_ne (by simp)]; exact ls_G_2
  have lk_G_3 : G_3 (5, 33, 0) = some ((L 33 0), .inr (0, [.int m2, .ref ar2, .int (nI (yKc y))])) := by rw [hG_3, gset_ne (by simp)]; exact lk_G_2
  have k_G_3 : G_3 (5, 38, i) = some ((L 38 i), .inr (6, [.int (nI (kL (yK y i))), .int (nI (kB (yK y i))), .int (nI (kW (yK y i))), .int (nI (kF (yK y i))), .int (nI (kP (yK y i))), .int (nI (kN (yK y i))), .int (nI (kT (yK y i))), .int (nI (kD (yK y i)))])) := by rw [hG_3, gset_ne (by simp)]; exact k_G_2
  have al_G_3 : G_3 (13, 0, 0) = some (q_2, .inl (K.2.1 0, 8, .inl (upd (upd (fun _ => 0) 0 (nI (kL (yK y i)))) 1 (nI (kB (yK y i)))))) := by rw [hG_3]; exact gset_eq _ _ _ _
  have hw : ∀ v : gTag, v.1 ≠ 13 → G_3 v = G v := fun v h9 => by rw [hG_3, gset_ne (fun z9 => h9 (by rw [z9]))]; exact hw v h9
  have hm := m13 hM.2.1 hw
  refine lv_dup hx hb dX8_of___18 rfl ?_
  refine lv_iconst (v := nI 2) hx hb dX8_of___19 (by decide) ?_
  refine lv_aload_n hx hb dX8_of___20 rfl (lv_at hl 0 rfl) ?_
  refine g_get S hE hI (C := RX5) (T := TX5) (N := 8) (ref := "StonecutterYardModel$Kind") (fun w h => (List.mem_cons_of_mem _ (List.mem_append_right _ h))) k_G_3 rfl 2 (by decide) (List.mem_cons_of_mem _ (List.mem_append_left _ (List.mem_of_getElem? (i := 3) rfl))) (fun _ h9 => h9) (v := .int (nI (kW (yK y i)))) rfl dX8_of___21 ?_
  refine g_iast S hE hI (j := 2) (f := upd (upd (fun _ => 0) 0 (nI (kL (yK y i)))) 1 (nI (kB (yK y i)))) al_G_3 rfl (by omega) (Nat.le_of_ble_eq_true rfl) dX8_of___24 (fun H locs hI => ?_)
  have hI : gI K A s (gset G_3 (13, 0, 0) q_2 (.inl (K.2.1 0, 8, .inl (upd (upd (upd (fun _ => 0) 0 (nI (kL (yK y i)))) 1 (nI (kB (yK y i)))) 2 (nI (kW (yK y i))))))) H locs := hI
  obtain ⟨G_4, hG_4⟩ : ∃ z, z = gset G_3 (13, 0, 0) q_2 (.inl (K.2.1 0, 8, .inl (upd (upd (upd (fun _ => 0) 0 (nI (kL (yK y i)))) 1 (nI (kB (yK y i)))) 2 (nI (kW (yK y i)))))) := ⟨_, rfl⟩
  rw [← hG_4] at hI
  have o_G_4 : G_4 (9, 0, 0) = some (h0, .inr (9, [.int (nI th), .ref (L 30 0)])) := by rw [hG_4, gset_ne (by simp)]; exact o_G_3
  have yd_G_4 : G_4 (5, 30, 0) = some ((L 30 0), .inr (8, [.ref (L 31 0), .ref (L 33 0), .int (nI (yF y))])) := by rw [hG_4, gset_ne (by simp)]; exact yd_G_3
  have ls_G_4 : G_4 (5, 31, 0) = some ((L 31 0), .inr (0, [.int m1, .ref ar1, .int (nI (ySc y))])) := by rw [hG_4, gset_ne (by simp)]; exact ls_G_3
  have lk_G_4 : G_4 (5, 33, 0) = some ((L 33 0), .inr (0, [.int m2, .ref ar2, .int (nI (yKc y))])) := by rw [hG_4, gset_ne (by simp)]; exact lk_G_3
  have k_G_4 : G_4 (5, 38, i) = some ((L 38 i), .inr (6, [.int (nI (kL (yK y i))), .int (nI (kB (yK y i))), .int (nI (kW (yK y i))), .int (nI (kF (yK y i))), .int (nI (kP (yK y i))), .int (nI (kN (yK y i))), .int (nI (kT (yK y i))), .int (nI (kD (yK y i)))])) := by rw [hG_4, gset_ne (by simp)]; exact k_G_3
  have al_G_4 : G_4 (13, 0, 0) = some (q_2, .inl (K.2.1 0, 8, .inl (upd (upd (upd (fun _ => 0) 0 (nI (kL (yK y i)))) 1 (nI (kB (yK y i)))) 2 (nI (kW (yK y i)))))) := by rw [hG_4]; exact gset_eq _ _ _ _
  have hw : ∀ v : gTag, v.1 ≠ 13 → G_4 v = G v := fun v h9 => by rw [hG_4, gset_ne (fun z9 => h9 (by rw [z9]))]; exact hw v h9
  have hm := m13 hM.2.1 hw
  refine lv_dup hx hb dX8_of___25 rfl ?_
  refine lv_iconst (v := nI 3) hx hb dX8_of___26 (by decide) ?_
  refine lv_aload_n hx hb dX8_of___27 rfl (lv_at hl 0 rfl) ?_
  refine g_get S hE hI (C := RX5) (T := TX5) (N := 8) (ref := "StonecutterYardModel$Kind") (fun w h => (List.mem_cons_of_mem _ (List.mem_append_right _ h))) k_G_4 rfl 3 (by decide) (List.mem_cons_of_mem _ (List.mem_append_left _ (List.mem_of_getElem? (i := 4) rfl))) (fun _ h9 => h9) (v := .int (nI (kF (yK y i)))) rfl dX8_of___28 ?_
  refine g_iast S hE hI (j := 3) (f := upd (upd (upd (fun _ => 0) 0 (nI (kL (yK y i)))) 1 (nI (kB (yK y i)))) 2 (nI (kW (yK y i)))) al_G_4 rfl (by omega) (Nat.le_of_ble_eq_true rfl) dX8_of___31 (fun H locs hI => ?_)
  have hI : gI K A s (gset G_4 (13, 0, 0) q_2 (.inl (K.2.1 0, 8, .inl (upd (upd (upd (upd (fun _ => 0) 0 (nI (kL (yK y i)))) 1 (nI (kB (yK y i)))) 2 (nI (kW (yK y i)))) 3 (nI (kF (yK y i))))))) H locs := hI
  obtain ⟨G_5, hG_5⟩ : ∃ z, z = gset G_4 (13, 0, 0) q_2 (.inl (K.2.1 0, 8, .inl (upd (upd (upd (upd (fun _ => 0) 0 (nI (kL (yK y i)))) 1 (nI (kB (yK y i)))) 2 (nI (kW (yK y i)))) 3 (nI (kF (yK y i)))))) := ⟨_, rfl⟩
  rw [← hG_5] at hI
  have o_G_5 : G_5 (9, 0, 0) = some (h0, .inr (9, [.int (nI th), .ref (L 30 0)])) := by rw [hG_5, gset_ne (by simp)]; exact o_G_4
  have yd_G_5 : G_5 (5, 30, 0) = some ((L 30 0), .inr (8, [.ref (L 31 0), .ref (L 33 0), .int (nI (yF y))])) := by rw [hG_5, gset_ne (by simp)]; exact yd_G_4
  have ls_G_5 : G_5 (5, 31, 0) = some ((L 31 0), .inr (0, [.int m1, .ref ar1, .int (nI (ySc y))])) := by rw [hG_5, gset_ne (by simp)]; exact ls_G_4
  have lk_G_5 : G_5 (5, 33, 0) = some ((L 33 0), .inr (0, [.int m2, .ref ar2, .int (nI (yKc y))])) := by rw [hG_5, gset_ne (by simp)]; exact lk_G_4
  have k_G_5 : G_5 (5, 38, i) = some ((L 38 i), .inr (6, [.int (nI (kL (yK y i))), .int (nI (kB (yK y i))), .int (nI (kW (yK y i))), .int (nI (kF (yK y i))), .int (nI (kP (yK y i))), .int (nI (kN (yK y i))), .int (nI (kT (yK y i))), .int (nI (kD (yK y i)))])) := by rw [hG_5, gset_ne (by simp)]; exact k_G_4
  have al_G_5 : G_5 (13, 0, 0) = some (q_2, .inl (K.2.1 0, 8, .inl (upd (upd (upd (upd (fun _ => 0) 0 (nI (kL (yK y i)))) 1 (nI (kB (yK y i)))) 2 (nI (kW (yK y i)))) 3 (nI (kF (yK y i)))))) := by rw [hG_5]; exact gset_eq _ _ _ _
  have hw : ∀ v : gTag, v.1 ≠ 13 → G_5 v = G v := fun v h9 => by rw [hG_5, gset_ne (fun z9 => h9 (by rw [z9]))]; exact hw v h9
  have hm := m13 hM.2.1 hw
  refine lv_dup hx hb dX8_of___32 rfl ?_
  refine lv_iconst (v := nI 4) hx hb dX8_of___33 (by decide) ?_
  refine lv_aload_n hx hb dX8_of___34 rfl (lv_at hl 0 rfl) ?_
  refine g_get S hE hI (C := RX5) (T := TX5) (N := 8) (ref := "StonecutterYardModel$Kind") (fun w h => (List.mem_cons_of_mem _ (List.mem_append_right _ h))) k_G_5 rfl 4 (by decide) (List.mem_cons_of_mem _ (List.mem_append_left _ (List.mem_of_getElem? (i := 5) rfl))) (fun _ h9 => h9) (v := .int (nI (kP (yK y i)))) rfl dX8_of___35 ?_
  refine g_iast S hE hI (j := 4) (f := upd (upd (upd (upd (fun _ => 0) 0 (nI (kL (yK y i)))) 1 (nI (kB (yK y i)))) 2 (nI (kW (yK y i)))) 3 (nI (kF (yK y i)))) al_G_5 rfl (by omega) (Nat.le_of_ble_eq_true rfl) dX8_of___38 (fun H locs hI => ?_)
  have hI : gI K A s (gset G_5 (13, 0, 0) q_2 (.inl (K.2.1 0, 8, .inl (upd (upd (upd (upd (upd (fun _ => 0) 0 (nI (kL (yK y i)))) 1 (nI (kB (yK y i)))) 2 (nI (kW (yK y i)))) 3 (nI (kF (yK y i)))) 4 (nI (kP (yK y i))))))) H locs := hI
  obtain ⟨G_6, hG_6⟩ : ∃ z, z = gset G_5 (13, 0, 0) q_2 (.inl (K.2.1 0, 8, .inl (upd (upd (upd (upd (upd (fun _ => 0) 0 (nI (kL (yK y i)))) 1 (nI (kB (yK y i)))) 2 (nI (kW (yK y i)))) 3 (nI (kF (yK y i)))) 4 (nI (kP (yK y i)))))) := ⟨_, rfl⟩
  rw [← hG_6] at hI
  have o_G_6 : G_6 (9, 0, 0) = some (h0, .inr (9, [.int (nI th), .ref (L 30 0)])) := by rw [hG_6, gset_ne (by simp)]; exact o_G_5
  have yd_G_6 : G_6 (5, 30, 0) = some ((L 30 0), .inr (8, [.ref (L 31 0), .ref (L 33 0), .int (nI (yF y))])) := by rw [hG_6, gset_ne (by simp)]; exact yd_G_5
  have ls_G_6 : G_6 (5, 31, 0) = some ((L 31 0), .inr (0, [.int m1, .ref ar1, .int (nI (ySc y))])) := by rw [hG_6, gset_ne (by simp)]; exact ls_G_5
  have lk_G_6 : G_6 (5, 33, 0) = some ((L 33 0), .inr (0, [.int m2, .ref ar2, .int (nI (yKc y))])) := by rw [hG_6, gset_ne (by simp)]; exact lk_G_5
  have k_G_6 : G_6 (5, 38, i) = some ((L 38 i), .inr (6, [.int (nI (kL (yK y i))), .int (nI (kB (yK y i))), .int (nI (kW (yK y i))), .int (nI (kF (yK y i))), .int (nI (kP (yK y i))), .int (nI (kN (yK y i))), .int (nI (kT (yK y i))), .int (nI (kD (yK y i)))])) := by rw [hG_6, gset_ne (by simp)]; exact k_G_5
  have al_G_6 : G_6 (13, 0, 0) = some (q_2, .inl (K.2.1 0, 8, .inl (upd (upd (upd (upd (upd (fun _ => 0) 0 (nI (kL (yK y i)))) 1 (nI (kB (yK y i)))) 2 (nI (kW (yK y i)))) 3 (nI (kF (yK y i)))) 4 (nI (kP (yK y i)))))) := by rw [hG_6]; exact gset_eq _ _ _ _
  have hw : ∀ v : gTag, v.1 ≠ 13 → G_6 v = G v := fun v h9 => by rw [hG_6, gset_ne (fun z9 => h9 (by rw [z9]))]; exact hw v h9
  have hm := m13 hM.2.1 hw
  refine lv_dup hx hb dX8_of___39 rfl ?_
  refine lv_iconst (v := nI 5) hx hb dX8_of___40 (by decide) ?_
  refine lv_aload_n hx hb dX8_of___41 rfl (lv_at hl 0 rfl) ?_
  refine g_get S hE hI (C := RX5) (T := TX5) (N := 8) (ref := "StonecutterYardModel$Kind") (fun w h => (List.mem_cons_of_mem _ (List.mem_append_right _ h))) k_G_6 rfl 5 (by decide) (List.mem_cons_of_mem _ (List.mem_append_left _ (List.mem_of_getElem? (i := 6) rfl))) (fun _ h9 => h9) (v := .int (nI (kN (yK y i)))) rfl dX8_of___42 ?_
  refine g_iast S hE hI (j := 5) (f := upd (upd (upd (upd (upd (fun _ => 0) 0 (nI (kL (yK y i)))) 1 (nI (kB (yK y i)))) 2 (nI (kW (yK y i)))) 3 (nI (kF (yK y i)))) 4 (nI (kP (yK y i)))) al_G_6 rfl (by omega) (Nat.le_of_ble_eq_true rfl) dX8_of___45 (fun H locs hI => ?_)
  have hI : gI K A s (gset G_6 (13, 0, 0) q_2 (.inl (K.2.1 0, 8, .inl (upd (upd (upd (upd (upd (upd (fun _ => 0) 0 (nI (kL (yK y i)))) 1 (nI (kB (yK y i)))) 2 (nI (kW (yK y i)))) 3 (nI (kF (yK y i)))) 4 (nI (kP (yK y i)))) 5 (nI (kN (yK y i))))))) H locs := hI
  obtain ⟨G_7, hG_7⟩ : ∃ z, z = gset G_6 (13, 0, 0) q_2 (.inl (K.2.1 0, 8, .inl (upd (upd (upd (upd (upd (upd (fun _ => 0) 0 (nI (kL (yK y i)))) 1 (nI (kB (yK y i)))) 2 (nI (kW (yK y i)))) 3 (nI (kF (yK y i)))) 4 (nI (kP (yK y i)))) 5 (nI (kN (yK y i)))))) := ⟨_, rfl⟩
  rw [← hG_7] at hI
  have o_G_7 : G_7 (9, 0, 0) = some (h0, .inr (9, [.int (nI th), .ref (L 30 0)])) := by rw [hG_7, gset_ne (by simp)]; exact o_G_6
  have yd_G_7 : G_7 (5, 30, 0) = some ((L 30 0), .inr (8, [.ref (L 31 0), .ref (L 33 0), .int (nI (yF y))])) := by rw [hG_7, gset_ne (by simp)]; exact yd_G_6
  have ls_G_7 : G_7 (5, 31, 0) = some ((L 31 0), .inr (0, [.int m1, .ref ar1, .int (nI (ySc y))])) := by rw [hG_7, gset_ne (by simp)]; exact ls_G_6
  have lk_G_7 : G_7 (5, 33, 0) = some ((L 33 0), .inr (0, [.int m2, .ref ar2, .int (nI (yKc y))])) := by rw [hG_7, gset_ne (by simp)]; exact lk_G_6
  have k_G_7 : G_7 (5, 38, i) = some ((L 38 i), .inr (6, [.int (nI (kL (yK y i))), .int (nI (kB (yK y i))), .int (nI (kW (yK y i))), .int (nI (kF (yK y i))), .int (nI (kP (yK y i))), .int (nI (kN (yK y i))), .int (nI (kT (yK y i))), .int (nI (kD (yK y i)))])) := by rw [hG_7, gset_ne (by simp)]; exact k_G_6
  have al_G_7 : G_7 (13, 0, 0) = some (q_2, .inl (K.2.1 0, 8, .inl (upd (upd (upd (upd (upd (upd (fun _ => 0) 0 (nI (kL (yK y i)))) 1 (nI (kB (yK y i)))) 2 (nI (kW (yK y i)))) 3 (nI (kF (yK y i)))) 4 (nI (kP (yK y i)))) 5 (nI (kN (yK y i)))))) := by rw [hG_7]; exact gset_eq _ _ _ _
  have hw : ∀ v : gTag, v.1 ≠ 13 → G_7 v = G v := fun v h9 => by rw [hG_7, gset_ne (fun z9 => h9 (by rw [z9]))]; exact hw v h9
  have hm := m13 hM.2.1 hw
  refine lv_dup hx hb dX8_of___46 rfl ?_
  refine lv_bipush (v := nI 6) hx hb dX8_of___47 (by decide) ?_
  refine lv_aload_n hx hb dX8_of___49 rfl (lv_at hl 0 rfl) ?_
  refine g_get S hE hI (C := RX5) (T := TX5) (N := 8) (ref := "StonecutterYardModel$Kind") (fun w h => (List.mem_cons_of_mem _ (List.mem_append_right _ h))) k_G_7 rfl 6 (by decide) (List.mem_cons_of_mem _ (List.mem_append_left _ (List.mem_of_getElem? (i := 7) rfl))) (fun _ h9 => h9) (v := .int (nI (kT (yK y i)))) rfl dX8_of___50 ?_
  refine g_iast S hE hI (j := 6) (f := upd (upd (upd (upd (upd (upd (fun _ => 0) 0 (nI (kL (yK y i)))) 1 (nI (kB (yK y i)))) 2 (nI (kW (yK y i)))) 3 (nI (kF (yK y i)))) 4 (nI (kP (yK y i)))) 5 (nI (kN (yK y i)))) al_G_7 rfl (by omega) (Nat.le_of_ble_eq_true rfl) dX8_of___53 (fun H locs hI => ?_)
  have hI : gI K A s (gset G_7 (13, 0, 0) q_2 (.inl (K.2.1 0, 8, .inl (upd (upd (upd (upd (upd (upd (upd (fun _ => 0) 0 (nI (kL (yK y i)))) 1 (nI (kB (yK y i)))) 2 (nI (kW (yK y i)))) 3 (nI (kF (yK y i)))) 4 (nI (kP (yK y i)))) 5 (nI (kN (yK y i)))) 6 (nI (kT (yK y i))))))) H locs := hI
  obtain ⟨G_8, hG_8⟩ : ∃ z, z = gset G_7 (13, 0, 0) q_2 (.inl (K.2.1 0, 8, .inl (upd (upd (upd (upd (upd (upd (upd (fun _ => 0) 0 (nI (kL (yK y i)))) 1 (nI (kB (yK y i)))) 2 (nI (kW (yK y i)))) 3 (nI (kF (yK y i)))) 4 (nI (kP (yK y i)))) 5 (nI (kN (yK y i)))) 6 (nI (kT (yK y i)))))) := ⟨_, rfl⟩
  rw [← hG_8] at hI
  have o_G_8 : G_8 (9, 0, 0) = some (h0, .inr (9, [.int (nI th), .ref (L 30 0)])) := by rw [hG_8, gset_ne (by simp)]; exact o_G_7
  have yd_G_8 : G_8 (5, 30, 0) = some ((L 30 0), .inr (8, [.ref (L 31 0), .ref (L 33 0), .int (nI (yF y))])) := by rw [hG_8, gset_ne (by simp)]; exact yd_G_7
  have ls_G_8 : G_8 (5, 31, 0) = some ((L 31 0), .inr (0, [.int m1, .ref ar1, .int (nI (ySc y))])) := by rw [hG_8, gset_ne (by simp)]; exact ls_G_7
  have lk_G_8 : G_8 (5, 33, 0) = some ((L 33 0), .inr (0, [.int m2, .ref ar2, .int (nI (yKc y))])) := by rw [hG_8, gset_ne (by simp)]; exact lk_G_7
  have k_G_8 : G_8 (5, 38, i) = some ((L 38 i), .inr (6, [.int (nI (kL (yK y i))), .int (nI (kB (yK y i))), .int (nI (kW (yK y i))), .int (nI (kF (yK y i))), .int (nI (kP (yK y i))), .int (nI (kN (yK y i))), .int (nI (kT (yK y i))), .int (nI (kD (yK y i)))])) := by rw [hG_8, gset_ne (by simp)]; exact k_G_7
  have al_G_8 : G_8 (13, 0, 0) = some (q_2, .inl (K.2.1 0, 8, .inl (upd (upd (upd (upd (upd (upd (upd (fun _ => 0) 0 (nI (kL (yK y i)))) 1 (nI (kB (yK y i)))) 2 (nI (kW (yK y i)))) 3 (nI (kF (yK y i)))) 4 (nI (kP (yK y i)))) 5 (nI (kN (yK y i)))) 6 (nI (kT (yK y i)))))) := by rw [hG_8]; exact gset_eq _ _ _ _
  have hw : ∀ v : gTag, v.1 ≠ 13 → G_8 v = G v := fun v h9 => by rw [hG_8, gset_ne (fun z9 => h9 (by rw [z9]))]; exact hw v h9
  have hm := m13 hM.2.1 hw
  refine lv_dup hx hb dX8_of___54 rfl ?_
  refine lv_bipush (v := nI 7) hx hb dX8_of___55 (by decide) ?_
  refine lv_aload_n hx hb dX8_of___57 rfl (lv_at hl 0 rfl) ?_
  refine g_get S hE hI (C := RX5) (T := TX5) (N := 8) (ref := "StonecutterYardModel$Kind") (fun w h => (List.mem_cons_of_mem _ (List.mem_append_right _ h))) k_G_8 rfl 7 (by decide) (List.mem_cons_of_mem _ (List.mem_append_left _ (List.mem_of_getElem? (i := 8) rfl))) (fun _ h9 => h9) (v := .int (nI (kD (yK y i)))) rfl dX8_of___58 ?_
  refine g_iast S hE hI (j := 7) (f := upd (upd (upd (upd (upd (upd (upd (fun _ => 0) 0 (nI (kL (yK y i)))) 1 (nI (kB (yK y i)))) 2 (nI (kW (yK y i)))) 3 (nI (kF (yK y i)))) 4 (nI (kP (yK y i)))) 5 (nI (kN (yK y i)))) 6 (nI (kT (yK y i)))) al_G_8 rfl (by omega) (Nat.le_of_ble_eq_true rfl) dX8_of___61 (fun H locs hI => ?_)
  have hI : gI K A s (gset G_8 (13, 0, 0) q_2 (.inl (K.2.1 0, 8, .inl (upd (upd (upd (upd (upd (upd (upd (upd (fun _ => 0) 0 (nI (kL (yK y i)))) 1 (nI (kB (yK y i)))) 2 (nI (kW (yK y i)))) 3 (nI (kF (yK y i)))) 4 (nI (kP (yK y i)))) 5 (nI (kN (yK y i)))) 6 (nI (kT (yK y i)))) 7 (nI (kD (yK y i))))))) H locs := hI
  obtain ⟨G_9, hG_9⟩ : ∃ z, z = gset G_8 (13, 0, 0) q_2 (.inl (K.2.1 0, 8, .inl (upd (upd (upd (upd (upd (upd (upd (upd (fun _ => 0) 0 (nI (kL (yK y i)))) 1 (nI (kB (yK y i)))) 2 (nI (kW (yK y i)))) 3 (nI (kF (yK y i)))) 4 (nI (kP (yK y i)))) 5 (nI (kN (yK y i)))) 6 (nI (kT (yK y i)))) 7 (nI (kD (yK y i)))))) := ⟨_, rfl⟩
  rw [← hG_9] at hI
  have o_G_9 : G_9 (9, 0, 0) = some (h0, .inr (9, [.int (nI th), .ref (L 30 0)])) := by rw [hG_9, gset_ne (by simp)]; exact o_G_8
  have yd_G_9 : G_9 (5, 30, 0) = some ((L 30 0), .inr (8, [.ref (L 31 0), .ref (L 33 0), .int (nI (yF y))])) := by rw [hG_9, gset_ne (by simp)]; exact yd_G_8
  have ls_G_9 : G_9 (5, 31, 0) = some ((L 31 0), .inr (0, [.int m1, .ref ar1, .int (nI (ySc y))])) := by rw [hG_9, gset_ne (by simp)]; exact ls_G_8
  have lk_G_9 : G_9 (5, 33, 0) = some ((L 33 0), .inr (0, [.int m2, .ref ar2, .int (nI (yKc y))])) := by rw [hG_9, gset_ne (by simp)]; exact lk_G_8
  have k_G_9 : G_9 (5, 38, i) = some ((L 38 i), .inr (6, [.int (nI (kL (yK y i))), .int (nI (kB (yK y i))), .int (nI (kW (yK y i))), .int (nI (kF (yK y i))), .int (nI (kP (yK y i))), .int (nI (kN (yK y i))), .int (nI (kT (yK y i))), .int (nI (kD (yK y i)))])) := by rw [hG_9, gset_ne (by simp)]; exact k_G_8
  have al_G_9 : G_9 (13, 0, 0) = some (q_2, .inl (K.2.1 0, 8, .inl (upd (upd (upd (upd (upd (upd (upd (upd (fun _ => 0) 0 (nI (kL (yK y i)))) 1 (nI (kB (yK y i)))) 2 (nI (kW (yK y i)))) 3 (nI (kF (yK y i)))) 4 (nI (kP (yK y i)))) 5 (nI (kN (yK y i)))) 6 (nI (kT (yK y i)))) 7 (nI (kD (yK y i)))))) := by rw [hG_9]; exact gset_eq _ _ _ _
  have hw : ∀ v : gTag, v.1 ≠ 13 → G_9 v = G v := fun v h9 => by rw [hG_9, gset_ne (fun z9 => h9 (by rw [z9]))]; exact hw v h9
  have hm := m13 hM.2.1 hw
  refine lv_astore_n (lv' := [(2, .ref q_2), (0, .ref (L 38 i)), (1, .int (nI j))]) hx hb dX8_of___62 rfl hl (by decide) rfl (fun ls hl => ?_)
  refine lv_aload_n hx hb dX8_of___63 rfl (lv_at hl 0 rfl) ?_
  refine lv_iload_n hx hb dX8_of___64 rfl (lv_at hl 2 rfl) ?_
  refine g_iald S hE hI (j := j) (f := upd (upd (upd (upd (upd (upd (upd (upd (fun _ => 0) 0 (nI (kL (yK y i)))) 1 (nI (kB (yK y i)))) 2 (nI (kW (yK y i)))) 3 (nI (kF (yK y i)))) 4 (nI (kP (yK y i)))) 5 (nI (kN (yK y i)))) 6 (nI (kT (yK y i)))) 7 (nI (kD (yK y i)))) al_G_9 rfl (by omega) (by decide) dX8_of___65 ?_
  refine W.eq (g2 := F0 m 66 ls [.int (kOf (yK y i) j)]) (congrArg (fun z => F0 m 66 ls [.int z]) (by rcases (show j = 0 ∨ j = 1 ∨ j = 2 ∨ j = 3 ∨ j = 4 ∨ j = 5 ∨ j = 6 ∨ j = 7 by omega) with h9 | h9 | h9 | h9 | h9 | h9 | h9 | h9 <;> subst h9 <;> rfl)) ?_
  exact g_iret S hI hr hlocks (by omega) (by omega) dX8_of___66 ⟨rfl, hw⟩
set_option maxHeartbeats 4000000 in
set_option maxRecDepth 100000 in
/-- count(what) -/
theorem c_X8_count (l : Launch) (K : gK) (G : gW) (L : Nat → Nat → Nat) (h0 th : Nat) (y : YV) (N : Nat) (j : Nat) (hM : MdC K L h0 th G y N) (hj : j < 8) : gM l yX8_count wsX8_count 7 148 1 8 K [.ref h0, .int (nI j)] G (fun v G1 => v = some (.int (yMany y j)) ∧ ∀ t : gTag, t.1 ≠ 13 → G1 t = G t) (gNo) := by
  refine gM.of (cc := cX8_count) (maxL := 5) (ret := (some .int)) (by decide) rfl (Nat.le_of_ble_eq_true rfl) ?_
  intro p e s m below meth c A S hr hlocks htab hname hE hA hI ls hl
  have hx := S.1
  have hb := S.2.1
  have hml := S.2.2.1
  have hl : lv_has ls 5 [(0, .ref h0), (1, .int (nI j))] := hl
  have h44 := hM.2.1.1.2.2.1
  have h6 := hM.2.1.1.2.2.2
  have hf2 := hM.2.1.1.2.1
  have h40 := hM.2.2.2
  have hth := hM.2.2.1
  have hag : AgM G G := AgM.rf
  obtain ⟨m1, ar1, hl1⟩ := hM.2.1.2.1.obj
  obtain ⟨m2, ar2, hl2⟩ := hM.2.1.2.2.1.obj
  obtain ⟨H, hHe⟩ : ∃ z, z = s.heap := ⟨_, rfl⟩
  obtain ⟨locs, hLe⟩ : ∃ z : List Loc, z = [] := ⟨_, rfl⟩
  rw [← hHe, ← hLe]
  have hI : gI K A s G H locs := by rw [hHe, hLe]; exact hI
  clear hHe hLe
  refine lv_iconst (v := nI 0) hx hb dX8_count_0 (by decide) ?_
  refine lv_istore_n (lv' := [(2, .int (nI 0)), (0, .ref h0), (1, .int (nI j))]) hx hb dX8_count_1 rfl hl (by decide) rfl (fun ls hl => ?_)
  refine lv_iconst (v := nI 0) hx hb dX8_count_2 (by decide) ?_
  refine lv_istore_n (lv' := [(3, .int (nI 0)), (2, .int (nI 0)), (0, .ref h0), (1, .int (nI j))]) hx hb dX8_count_3 rfl hl (by decide) rfl (fun ls hl => ?_)
  refine lv_iconst (v := nI 0) hx hb dX8_count_4 (by decide) ?_
  refine lv_istore (lv' := [(4, .int (nI 0)), (3, .int (nI 0)), (2, .int (nI 0)), (0, .ref h0), (1, .int (nI j))]) hx hb dX8_count_5 hl (by decide) rfl (fun ls hl => ?_)
  have L7 : ∀ (n : Nat) (i ta wa : Nat) (H : Heap) (locs : List Loc) (ls : Array Slot) (hn : yKc y - i < n) (hi : i ≤ yKc y) (hta : ta = sumN (fun i => kT (yK y i)) i) (hwa : wa = sumN (fun i => kN (yK y i)) i), gI K A s G H locs → lv_has ls 5 [(0, .ref h0), (1, .int (nI j)), (2, .int (nI ta)), (3, .int (nI wa)), (4, .int (nI i))] → W p l e (gRoom 7 148 1 8) s m ([.ref h0, .int (nI j)] : List Value).toArray below meth c H locs 0 0 (gEnd K below (fun v G1 => v = some (.int (yMany y j)) ∧ ∀ t : gTag, t.1 ≠ 13 → G1 t = G t) (gNo) A ([.ref h0, .int (nI j)] : List Value).toArray s 1 8) (F0 m 7 ls []) := by
    clear hI hl
    intro n
    induction n with
    | zero =>
      intro i ta wa H locs ls hn hi hta hwa hI hl
      exact absurd hn (Nat.not_lt_zero _)
    | succ n ih =>
      intro i ta wa H locs ls hn hi hta hwa hI hl
      refine lv_iload hx hb dX8_count_7 (lv_at hl 4 rfl) ?_
      refine lv_aload_n hx hb dX8_count_9 rfl (lv_at hl 0 rfl) ?_
      refine g_get S hE hI (C := RX8) (T := TX8) (N := 2) (ref := "StonecutterYardModel") (fun w h => (List.mem_cons_of_mem _ (List.mem_append_left _ (List.mem_append_left _ (List.mem_append_left _ (List.mem_append_left _ (List.mem_append_right _ h))))))) hM.1 rfl 1 (by decide) (List.mem_cons_of_mem _ (List.mem_append_left _ (List.mem_append_left _ (List.mem_append_left _ (List.mem_append_left _ (List.mem_append_left _ (List.mem_append_left _ (List.mem_of_getElem? (i := 0) rfl)))))))) (fun _ h9 => h9) (v := .ref (L 30 0)) rfl dX8_count_10 ?_
      refine g_get S hE hI (C := RX7) (T := TX7) (N := 3) (ref := "StonecutterYardModel$Yard") (fun w h => (List.mem_cons_of_mem _ (List.mem_append_left _ (List.mem_append_left _ (List.mem_append_left _ (List.mem_append_right _ h)))))) hM.2.1.1.1 rfl 1 (by decide) (List.mem_cons_of_mem _ (List.mem_append_left _ (List.mem_append_left _ (List.mem_append_left _ (List.mem_append_left _ (List.mem_append_left _ (List.mem_append_left _ (List.mem_of_getElem? (i := 1) rfl)))))))) (fun _ h9 => h9) (v := .ref (L 33 0)) rfl dX8_count_13 ?_
      refine g_callV (As := []) (rest := [.int (nI i)]) (b := (L 33 0)) (n := 0) S hE hI hA (l_size l K _ (5, 33, 0) (tbL 5 34) (L 33 0) (yKc y) (L 38) hM.2.1.2.2.1) gX8_count_Jx4a65c_size_8abf5 rfl (by decide +kernel) ⟨Nat.le_of_ble_eq_true rfl, Nat.le_of_ble_eq_true rfl⟩ (g_hro hE hI hl2 rfl) rfl hl.1 rfl (Nat.le_of_ble_eq_true rfl) dX8_count_16 ⟨Nat.le_of_ble_eq_true rfl, Nat.le_of_ble_eq_true rfl⟩ (fun E ce q9 Gx H1 locs1 hx9 => hx9.elim) (fun rv Gc_16 H locs hp hI => ?_)
      obtain ⟨rfl, hq9⟩ := hp
      rw [hq9] at hI
      refine W.eq (g2 := F0 m 19 ls [.int (nI (yKc y)), .int (nI i)]) rfl ?_
      refine lv_icmp_ge (tgt := 70) hx hb dX8_count_19 (by decide) (fun c_19 => ?_) (fun c_19 => ?_)
      · skip
        have c_19 : (yKc y) ≤ i := (nI_leI (a := (yKc y)) (b := i) (by omega) (by omega)).mp c_19
        have hm := hM.2.1
        have hta9 : ta = yTaken y := by rw [hta, show i = yKc y by omega]; rfl
        have hwa9 : wa = yWanted y := by rw [hwa, show i = yKc y by omega]; rfl
        refine lv_bipush (v := nI 8) hx hb dX8_count_70 (by decide) ?_
        refine g_newI S hE hI hA (List.mem_cons_of_mem _ (List.mem_append_left _ (List.mem_append_left _ (List.mem_append_left _ (List.mem_append_left _ (List.mem_append_left _ (List.mem_append_left _ (List.mem_of_getElem? (i := 5) rfl)))))))) (N' := 8) rfl (by omega) (13, 0, 0) (by show _ ≤ 1; omega) (by show _ ≤ 8; omega) dX8_count_72 (fun q_72 H hq_72 hI => ?_)
        obtain ⟨G_1, hG_1⟩ : ∃ z, z = gset G (13, 0, 0) q_72 (.inl (K.2.1 0, 8, .inl (fun _ => 0))) := ⟨_, rfl⟩
        have hI : gI K A s G_1 H locs := by rw [hG_1]; exact hI
        have o_G_1 : G_1 (9, 0, 0) = some (h0, .inr (9, [.int (nI th), .ref (L 30 0)])) := by rw [hG_1, gset_ne (by simp)]; exact hM.1
        have yd_G_1 : G_1 (5, 30, 0) = some ((L 30 0), .inr (8, [.ref (L 31 0), .ref (L 33 0), .int (nI (yF y))])) := by rw [hG_1, gset_ne (by simp)]; exact hM.2.1.1.1
        have ls_G_1 : G_1 (5, 31, 0) = some ((L 31 0), .inr (0, [.int m1, .ref ar1, .int (nI (ySc y))])) := by rw [hG_1, gset_ne (by simp)]; exact hl1
        have lk_G_1 : G_1 (5, 33, 0) = some ((L 33 0), .inr (0, [.int m2, .ref ar2, .int (nI (yKc y))])) := by rw [hG_1, gset_ne (by simp)]; exact hl2
        have al_G_1 : G_1 (13, 0, 0) = some (q_72, .inl (K.2.1 0, 8, .inl (fun _ => 0))) := by rw [hG_1]; exact gset_eq _ _ _ _
        have hw : ∀ v : gTag, v.1 ≠ 13 → G_1 v = G v := fun v h9 => by rw [hG_1, gset_ne (fun z9 => h9 (by rw [z9]))]
        have hm := m13 hM.2.1 hw
        refine lv_dup hx hb dX8_count_74 rfl ?_
        refine lv_iconst (v := nI 0) hx hb dX8_count_75 (by decide) ?_
        refine lv_aload_n hx hb dX8_count_76 rfl (lv_at hl 0 rfl) ?_
        refine g_get S hE hI (C := RX8) (T := TX8) (N := 2) (ref := "StonecutterYardModel") (fun w h => (List.mem_cons_of_mem _ (List.mem_append_left _ (List.mem_append_left _ (List.mem_append_left _ (List.mem_append_left _ (List.mem_append_right _ h))))))) o_G_1 rfl 1 (by decide) (List.mem_cons_of_mem _ (List.mem_append_left _ (List.mem_append_left _ (List.mem_append_left _ (List.mem_append_left _ (List.mem_append_left _ (List.mem_append_left _ (List.mem_of_getElem? (i := 0) rfl)))))))) (fun _ h9 => h9) (v := .ref (L 30 0)) rfl dX8_count_77 ?_
        refine g_get S hE hI (C := RX7) (T := TX7) (N := 3) (ref := "StonecutterYardModel$Yard") (fun w h => (List.mem_cons_of_mem _ (List.mem_append_left _ (List.mem_append_left _ (List.mem_append_left _ (List.mem_append_right _ h)))))) yd_G_1 rfl 0 (by decide) (List.mem_cons_of_mem _ (List.mem_append_left _ (List.mem_append_left _ (List.mem_append_left _ (List.mem_append_left _ (List.mem_append_left _ (List.mem_append_left _ (List.mem_of_getElem? (i := 6) rfl)))))))) (fun _ h9 => h9) (v := .ref (L 31 0)) rfl dX8_count_80 ?_
        refine g_callV (As := []) (rest := [.int (nI 0), .ref q_72, .ref q_72]) (b := (L 31 0)) (n := 0) S hE hI hA (l_size l K _ (5, 31, 0) (tbL 5 32) (L 31 0) (ySc y) (L 35) hm.2.1) gX8_count_Jx4a65c_size_8abf5 rfl (by decide +kernel) ⟨Nat.le_of_ble_eq_true rfl, Nat.le_of_ble_eq_true rfl⟩ (g_hro hE hI ls_G_1 rfl) rfl hl.1 rfl (Nat.le_of_ble_eq_true rfl) dX8_count_83 ⟨by show _ ≤ 1; omega, by show _ ≤ 8; omega⟩ (fun E ce q9 Gx H1 locs1 hx9 => hx9.elim) (fun rv Gc_83 H locs hp hI => ?_)
        obtain ⟨rfl, hq9⟩ := hp
        rw [hq9] at hI
        refine W.eq (g2 := F0 m 86 ls [.int (nI (ySc y)), .int (nI 0), .ref q_72, .ref q_72]) rfl ?_
        refine g_iast S hE hI (j := 0) (f := (fun _ => 0)) al_G_1 rfl (by omega) (Nat.le_of_ble_eq_true rfl) dX8_count_86 (fun H locs hI => ?_)
        have hI : gI K A s (gset G_1 (13, 0, 0) q_72 (.inl (K.2.1 0, 8, .inl (upd (fun _ => 0) 0 (nI (ySc y)))))) H locs := hI
        obtain ⟨G_2, hG_2⟩ : ∃ z, z = gset G_1 (13, 0, 0) q_72 (.inl (K.2.1 0, 8, .inl (upd (fun _ => 0) 0 (nI (ySc y))))) := ⟨_, rfl⟩
        rw [← hG_2] at hI
        have o_G_2 : G_2 (9, 0, 0) = some (h0, .inr (9, [.int (nI th), .ref (L 30 0)])) := by rw [hG_2, gset_ne (by simp)]; exact o_G_1
        have yd_G_2 : G_2 (5, 30, 0) = some ((L 30 0), .inr (8, [.ref (L 31 0), .ref (L 33 0), .int (nI (yF y))])) := by rw [hG_2, gset_ne (by simp)]; exact yd_G_1
        have ls_G_2 : G_2 (5, 31, 0) = some ((L 31 0), .inr (0, [.int m1, .ref ar1, .int (nI (ySc y))])) := by rw [hG_2, gset_ne (by simp)]; exact ls_G_1
        have lk_G_2 : G_2 (5, 33, 0) = some ((L 33 0), .inr (0, [.int m2, .ref ar2, .int (nI (yKc y))])) := by rw [hG_2, gset_ne (by simp)]; exact lk_G_1
        have al_G_2 : G_2 (13, 0, 0) = some (q_72, .inl (K.2.1 0, 8, .inl (upd (fun _ => 0) 0 (nI (ySc y))))) := by rw [hG_2]; exact gset_eq _ _ _ _
        have hw : ∀ v : gTag, v.1 ≠ 13 → G_2 v = G v := fun v h9 => by rw [hG_2, gset_ne (fun z9 => h9 (by rw [z9]))]; exact hw v h9
        have hm := m13 hM.2.1 hw
        refine lv_dup hx hb dX8_count_87 rfl ?_
        refine lv_iconst (v := nI 1) hx hb dX8_count_88 (by decide) ?_
        refine lv_aload_n hx hb dX8_count_89 rfl (lv_at hl 0 rfl) ?_
        refine g_get S hE hI (C := RX8) (T := TX8) (N := 2) (ref := "StonecutterYardModel") (fun w h => (List.mem_cons_of_mem _ (List.mem_append_left _ (List.mem_append_left _ (List.mem_append_left _ (List.mem_append_left _ (List.mem_append_right _ h))))))) o_G_2 rfl 1 (by decide) (List.mem_cons_of_mem _ (List.mem_append_left _ (List.mem_append_left _ (List.mem_append_left _ (List.mem_append_left _ (List.mem_append_left _ (List.mem_append_left _ (List.mem_of_getElem? (i := 0) rfl)))))))) (fun _ h9 => h9) (v := .ref (L 30 0)) rfl dX8_count_90 ?_
        refine g_callV (As := []) (rest := [.int (nI 1), .ref q_72, .ref q_72]) (b := (L 30 0)) (n := 0) S hE hI hA (c_X7_there l K _ 5 L y N hm) gX8_count_X7_there rfl (by decide +kernel) ⟨Nat.le_of_ble_eq_true rfl, Nat.le_of_ble_eq_true rfl⟩ (g_hro hE hI yd_G_2 rfl) rfl hl.1 rfl (Nat.le_of_ble_eq_true rfl) dX8_count_93 ⟨by show _ ≤ 1; omega, by show _ ≤ 8; omega⟩ (fun E ce q9 Gx H1 locs1 hx9 => hx9.elim) (fun rv Gc_93 H locs hp hI => ?_)
        obtain ⟨rfl, hq9⟩ := hp
        rw [hq9] at hI
        refine W.eq (g2 := F0 m 96 ls [.int (nI (yThere y)), .int (nI 1), .ref q_72, .ref q_72]) rfl ?_
        refine g_iast S hE hI (j := 1) (f := upd (fun _ => 0) 0 (nI (ySc y))) al_G_2 rfl (by omega) (Nat.le_of_ble_eq_true rfl) dX8_count_96 (fun H locs hI => ?_)
        have hI : gI K A s (gset G_2 (13, 0, 0) q_72 (.inl (K.2.1 0, 8, .inl (upd (upd (fun _ => 0) 0 (nI (ySc y))) 1 (nI (yThere y)))))) H locs := hI
        obtain ⟨G_3, hG_3⟩ : ∃ z, z = gset G_2 (13, 0, 0) q_72 (.inl (K.2.1 0, 8, .inl (upd (upd (fun _ => 0) 0 (nI (ySc y))) 1 (nI (yThere y))))) := ⟨_, rfl⟩
        rw [← hG_3] at hI
        have o_G_3 : G_3 (9, 0, 0) = some (h0, .inr (9, [.int (nI th), .ref (L 30 0)])) := by rw [hG_3, gset_ne (by simp)]; exact o_G_2
        have yd_G_3 : G_3 (5, 30, 0) = some ((L 30 0), .inr (8, [.ref (L 31 0), .ref (L 33 0), .int (nI (yF y))])) := by rw [hG_3, gset_ne (by simp)]; exact yd_G_2
        have ls_G_3 : G_3 (5, 31, 0) = some ((L 31 0), .inr (0, [.int m1, .ref ar1, .int (nI (ySc y))])) := by rw [hG_3, gset_ne (by simp)]; exact ls_G_2
        have lk_G_3 : G_3 (5, 33, 0) = some ((L 33 0), .inr (0, [.int m2, .ref ar2, .int (nI (yKc y))])) := by rw [hG_3, gset_ne (by simp)]; exact lk_G_2
        have al_G_3 : G_3 (13, 0, 0) = some (q_72, .inl (K.2.1 0, 8, .inl (upd (upd (fun _ => 0) 0 (nI (ySc y))) 1 (nI (yThere y))))) := by rw [hG_3]; exact gset_eq _ _ _ _
        have hw : ∀ v : gTag, v.1 ≠ 13 → G_3 v = G v := fun v h9 => by rw [hG_3, gset_ne (fun z9 => h9 (by rw [z9]))]; exact hw v h9
        have hm := m13 hM.2.1 hw
        refine lv_dup hx hb dX8_count_97 rfl ?_
        refine lv_iconst (v := nI 2) hx hb dX8_count_98 (by decide) ?_
        refine lv_aload_n hx hb dX8_count_99 rfl (lv_at hl 0 rfl) ?_
        refine g_get S hE hI (C := RX8) (T := TX8) (N := 2) (ref := "StonecutterYardModel") (fun w h => (List.mem_cons_of_mem _ (List.mem_append_left _ (List.mem_append_left _ (List.mem_append_left _ (List.mem_append_left _ (List.mem_append_right _ h))))))) o_G_3 rfl 1 (by decide) (List.mem_cons_of_mem _ (List.mem_append_left _ (List.mem_append_left _ (List.mem_append_left _ (List.mem_append_left _ (List.mem_append_left _ (List.mem_append_left _ (List.mem_of_getElem? (i := 0) rfl)))))))) (fun _ h9 => h9) (v := .ref (L 30 0)) rfl dX8_count_100 ?_
        refine g_get S hE hI (C := RX7) (T := TX7) (N := 3) (ref := "StonecutterYardModel$Yard") (fun w h => (List.mem_cons_of_mem _ (List.mem_append_left _ (List.mem_append_left _ (List.mem_append_left _ (List.mem_append_right _ h)))))) yd_G_3 rfl 1 (by decide) (List.mem_cons_of_mem _ (List.mem_append_left _ (List.mem_append_left _ (List.mem_append_left _ (List.mem_append_left _ (List.mem_append_left _ (List.mem_append_left _ (List.mem_of_getElem? (i := 1) rfl)))))))) (fun _ h9 => h9) (v := .ref (L 33 0)) rfl dX8_count_103 ?_
        refine g_callV (As := []) (rest := [.int (nI 2), .ref q_72, .ref q_72]) (b := (L 33 0)) (n := 0) S hE hI hA (l_size l K _ (5, 33, 0) (tbL 5 34) (L 33 0) (yKc y) (L 38) hm.2.2.1) gX8_count_Jx4a65c_size_8abf5 rfl (by decide +kernel) ⟨Nat.le_of_ble_eq_true rfl, Nat.le_of_ble_eq_true rfl⟩ (g_hro hE hI lk_G_3 rfl) rfl hl.1 rfl (Nat.le_of_ble_eq_true rfl) dX8_count_106 ⟨by show _ ≤ 1; omega, by show _ ≤ 8; omega⟩ (fun E ce q9 Gx H1 locs1 hx9 => hx9.elim) (fun rv Gc_106 H locs hp hI => ?_)
        obtain ⟨rfl, hq9⟩ := hp
        rw [hq9] at hI
        refine W.eq (g2 := F0 m 109 ls [.int (nI (yKc y)), .int (nI 2), .ref q_72, .ref q_72]) rfl ?_
        refine g_iast S hE hI (j := 2) (f := upd (upd (fun _ => 0) 0 (nI (ySc y))) 1 (nI (yThere y))) al_G_3 rfl (by omega) (Nat.le_of_ble_eq_true rfl) dX8_count_109 (fun H locs hI => ?_)
        have hI : gI K A s (gset G_3 (13, 0, 0) q_72 (.inl (K.2.1 0, 8, .inl (upd (upd (upd (fun _ => 0) 0 (nI (ySc y))) 1 (nI (yThere y))) 2 (nI (yKc y)))))) H locs := hI
        obtain ⟨G_4, hG_4⟩ : ∃ z, z = gset G_3 (13, 0, 0) q_72 (.inl (K.2.1 0, 8, .inl (upd (upd (upd (fun _ => 0) 0 (nI (ySc y))) 1 (nI (yThere y))) 2 (nI (yKc y))))) := ⟨_, rfl⟩
        rw [← hG_4] at hI
        have o_G_4 : G_4 (9, 0, 0) = some (h0, .inr (9, [.int (nI th), .ref (L 30 0)])) := by rw [hG_4, gset_ne (by simp)]; exact o_G_3
        have yd_G_4 : G_4 (5, 30, 0) = some ((L 30 0), .inr (8, [.ref (L 31 0), .ref (L 33 0), .int (nI (yF y))])) := by rw [hG_4, gset_ne (by simp)]; exact yd_G_3
        have ls_G_4 : G_4 (5, 31, 0) = some ((L 31 0), .inr (0, [.int m1, .ref ar1, .int (nI (ySc y))])) := by rw [hG_4, gset_ne (by simp)]; exact ls_G_3
        have lk_G_4 : G_4 (5, 33, 0) = some ((L 33 0), .inr (0, [.int m2, .ref ar2, .int (nI (yKc y))])) := by rw [hG_4, gset_ne (by simp)]; exact lk_G_3
        have al_G_4 : G_4 (13, 0, 0) = some (q_72, .inl (K.2.1 0, 8, .inl (upd (upd (upd (fun _ => 0) 0 (nI (ySc y))) 1 (nI (yThere y))) 2 (nI (yKc y))))) := by rw [hG_4]; exact gset_eq _ _ _ _
        have hw : ∀ v : gTag, v.1 ≠ 13 → G_4 v = G v := fun v h9 => by rw [hG_4, gset_ne (fun z9 => h9 (by rw [z9]))]; exact hw v h9
        have hm := m13 hM.2.1 hw
        refine lv_dup hx hb dX8_count_110 rfl ?_
        refine lv_iconst (v := nI 3) hx hb dX8_count_111 (by decide) ?_
        refine lv_iload_n hx hb dX8_count_112 rfl (lv_at hl 2 rfl) ?_
        refine g_iast S hE hI (j := 3) (f := upd (upd (upd (fun _ => 0) 0 (nI (ySc y))) 1 (nI (yThere y))) 2 (nI (yKc y))) al_G_4 rfl (by omega) (Nat.le_of_ble_eq_true rfl) dX8_count_113 (fun H locs hI => ?_)
        have hI : gI K A s (gset G_4 (13, 0, 0) q_72 (.inl (K.2.1 0, 8, .inl (upd (upd (upd (upd (fun _ => 0) 0 (nI (ySc y))) 1 (nI (yThere y))) 2 (nI (yKc y))) 3 (nI ta))))) H locs := hI
        obtain ⟨G_5, hG_5⟩ : ∃ z, z = gset G_4 (13, 0, 0) q_72 (.inl (K.2.1 0, 8, .inl (upd (upd (upd (upd (fun _ => 0) 0 (nI (ySc y))) 1 (nI (yThere y))) 2 (nI (yKc y))) 3 (nI ta)))) := ⟨_, rfl⟩
        rw [← hG_5] at hI
        have o_G_5 : G_5 (9, 0, 0) = some (h0, .inr (9, [.int (nI th), .ref (L 30 0)])) := by rw [hG_5, gset_ne (by simp)]; exact o_G_4
        have yd_G_5 : G_5 (5, 30, 0) = some ((L 30 0), .inr (8, [.ref (L 31 0), .ref (L 33 0), .int (nI (yF y))])) := by rw [hG_5, gset_ne (by simp)]; exact yd_G_4
        have ls_G_5 : G_5 (5, 31, 0) = some ((L 31 0), .inr (0, [.int m1, .ref ar1, .int (nI (ySc y))])) := by rw [hG_5, gset_ne (by simp)]; exact ls_G_4
        have lk_G_5 : G_5 (5, 33, 0) = some ((L 33 0), .inr (0, [.int m2, .ref ar2, .int (nI (yKc y))])) := by rw [hG_5, gset_ne (by simp)]; exact lk_G_4
        have al_G_5 : G_5 (13, 0, 0) = some (q_72, .inl (K.2.1 0, 8, .inl (upd (upd (upd (upd (fun _ => 0) 0 (nI (ySc y))) 1 (nI (yThere y))) 2 (nI (yKc y))) 3 (nI ta)))) := by rw [hG_5]; exact gset_eq _ _ _ _
        have hw : ∀ v : gTag, v.1 ≠ 13 → G_5 v = G v := fun v h9 => by rw [hG_5, gset_ne (fun z9 => h9 (by rw [z9]))]; exact hw v h9
        have hm := m13 hM.2.1 hw
        refine lv_dup hx hb dX8_count_114 rfl ?_
        refine lv_iconst (v := nI 4) hx hb dX8_count_115 (by decide) ?_
        refine lv_aload_n hx hb dX8_count_116 rfl (lv_at hl 0 rfl) ?_
        refine g_get S hE hI (C := RX8) (T := TX8) (N := 2) (ref := "StonecutterYardModel") (fun w h => (List.mem_cons_of_mem _ (List.mem_append_left _ (List.mem_append_left _ (List.mem_append_left _ (List.mem_append_left _ (List.mem_append_right _ h))))))) o_G_5 rfl 1 (by decide) (List.mem_cons_of_mem _ (List.mem_append_left _ (List.mem_append_left _ (List.mem_append_left _ (List.mem_append_left _ (List.mem_append_left _ (List.mem_append_left _ (List.mem_of_getElem? (i := 0) rfl)))))))) (fun _ h9 => h9) (v := .ref (L 30 0)) rfl dX8_count_117 ?_
        refine g_callV (As := []) (rest := [.int (nI 4), .ref q_72, .ref q_72]) (b := (L 30 0)) (n := 0) S hE hI hA (c_X7_paid l K _ 5 L y N hm) gX8_count_X7_paid rfl (by decide +kernel) ⟨Nat.le_of_ble_eq_true rfl, Nat.le_of_ble_eq_true rfl⟩ (g_hro hE hI yd_G_5 rfl) rfl hl.1 rfl (Nat.le_of_ble_eq_true rfl) dX8_count_120 ⟨by show _ ≤ 1; omega, by show _ ≤ 8; omega⟩ (fun E ce q9 Gx H1 locs1 hx9 => hx9.elim) (fun rv Gc_120 H locs hp hI => ?_)
        obtain ⟨rfl, hq9⟩ := hp
        rw [hq9] at hI
        refine W.eq (g2 := F0 m 123 ls [.int (nI (yPaid y)), .int (nI 4), .ref q_72, .ref q_72]) rfl ?_
        refine g_iast S hE hI (j := 4) (f := upd (upd (upd (upd (fun _ => 0) 0 (nI (ySc y))) 1 (nI (yThere y))) 2 (nI (yKc y))) 3 (nI ta)) al_G_5 rfl (by omega) (Nat.le_of_ble_eq_true rfl) dX8_count_123 (fun H locs hI => ?_)
        have hI : gI K A s (gset G_5 (13, 0, 0) q_72 (.inl (K.2.1 0, 8, .inl (upd (upd (upd (upd (upd (fun _ => 0) 0 (nI (ySc y))) 1 (nI (yThere y))) 2 (nI (yKc y))) 3 (nI ta)) 4 (nI (yPaid y)))))) H locs := hI
        obtain ⟨G_6, hG_6⟩ : ∃ z, z = gset G_5 (13, 0, 0) q_72 (.inl (K.2.1 0, 8, .inl (upd (upd (upd (upd (upd (fun _ => 0) 0 (nI (ySc y))) 1 (nI (yThere y))) 2 (nI (yKc y))) 3 (nI ta)) 4 (nI (yPaid y))))) := ⟨_, rfl⟩
        rw [← hG_6] at hI
        have o_G_6 : G_6 (9, 0, 0) = some (h0, .inr (9, [.int (nI th), .ref (L 30 0)])) := by rw [hG_6, gset_ne (by simp)]; exact o_G_5
        have yd_G_6 : G_6 (5, 30, 0) = some ((L 30 0), .inr (8, [.ref (L 31 0), .ref (L 33 0), .int (nI (yF y))])) := by rw [hG_6, gset_ne (by simp)]; exact yd_G_5
        have ls_G_6 : G_6 (5, 31, 0) = some ((L 31 0), .inr (0, [.int m1, .ref ar1, .int (nI (ySc y))])) := by rw [hG_6, gset_ne (by simp)]; exact ls_G_5
        have lk_G_6 : G_6 (5, 33, 0) = some ((L 33 0), .inr (0, [.int m2, .ref ar2, .int (nI (yKc y))])) := by rw [hG_6, gset_ne (by simp)]; exact lk_G_5
        have al_G_6 : G_6 (13, 0, 0) = some (q_72, .inl (K.2.1 0, 8, .inl (upd (upd (upd (upd (upd (fun _ => 0) 0 (nI (ySc y))) 1 (nI (yThere y))) 2 (nI (yKc y))) 3 (nI ta)) 4 (nI (yPaid y))))) := by rw [hG_6]; exact gset_eq _ _ _ _
        have hw : ∀ v : gTag, v.1 ≠ 13 → G_6 v = G v := fun v h9 => by rw [hG_6, gset_ne (fun z9 => h9 (by rw [z9]))]; exact hw v h9
        have hm := m13 hM.2.1 hw
        refine lv_dup hx hb dX8_count_124 rfl ?_
        refine lv_iconst (v := nI 5) hx hb dX8_count_125 (by decide) ?_
        refine lv_aload_n hx hb dX8_count_126 rfl (lv_at hl 0 rfl) ?_
        refine g_get S hE hI (C := RX8) (T := TX8) (N := 2) (ref := "StonecutterYardModel") (fun w h => (List.mem_cons_of_mem _ (List.mem_append_left _ (List.mem_append_left _ (List.mem_append_left _ (List.mem_append_left _ (List.mem_append_right _ h))))))) o_G_6 rfl 1 (by decide) (List.mem_cons_of_mem _ (List.mem_append_left _ (List.mem_append_left _ (List.mem_append_left _ (List.mem_append_left _ (List.mem_append_left _ (List.mem_append_left _ (List.mem_of_getElem? (i := 0) rfl)))))))) (fun _ h9 => h9) (v := .ref (L 30 0)) rfl dX8_count_127 ?_
        refine g_callV (As := []) (rest := [.int (nI 5), .ref q_72, .ref q_72]) (b := (L 30 0)) (n := 0) S hE hI hA (c_X7_waste l K _ 5 L y N hm) gX8_count_X7_waste rfl (by decide +kernel) ⟨Nat.le_of_ble_eq_true rfl, Nat.le_of_ble_eq_true rfl⟩ (g_hro hE hI yd_G_6 rfl) rfl hl.1 rfl (Nat.le_of_ble_eq_true rfl) dX8_count_130 ⟨by show _ ≤ 1; omega, by show _ ≤ 8; omega⟩ (fun E ce q9 Gx H1 locs1 hx9 => hx9.elim) (fun rv Gc_130 H locs hp hI => ?_)
        obtain ⟨rfl, hq9⟩ := hp
        rw [hq9] at hI
        refine W.eq (g2 := F0 m 133 ls [.int (yWaste y), .int (nI 5), .ref q_72, .ref q_72]) rfl ?_
        refine g_iast S hE hI (j := 5) (f := upd (upd (upd (upd (upd (fun _ => 0) 0 (nI (ySc y))) 1 (nI (yThere y))) 2 (nI (yKc y))) 3 (nI ta)) 4 (nI (yPaid y))) al_G_6 rfl (by omega) (Nat.le_of_ble_eq_true rfl) dX8_count_133 (fun H locs hI => ?_)
        have hI : gI K A s (gset G_6 (13, 0, 0) q_72 (.inl (K.2.1 0, 8, .inl (upd (upd (upd (upd (upd (upd (fun _ => 0) 0 (nI (ySc y))) 1 (nI (yThere y))) 2 (nI (yKc y))) 3 (nI ta)) 4 (nI (yPaid y))) 5 (yWaste y))))) H locs := hI
        obtain ⟨G_7, hG_7⟩ : ∃ z, z = gset G_6 (13, 0, 0) q_72 (.inl (K.2.1 0, 8, .inl (upd (upd (upd (upd (upd (upd (fun _ => 0) 0 (nI (ySc y))) 1 (nI (yThere y))) 2 (nI (yKc y))) 3 (nI ta)) 4 (nI (yPaid y))) 5 (yWaste y)))) := ⟨_, rfl⟩
        rw [← hG_7] at hI
        have o_G_7 : G_7 (9, 0, 0) = some (h0, .inr (9, [.int (nI th), .ref (L 30 0)])) := by rw [hG_7, gset_ne (by simp)]; exact o_G_6
        have yd_G_7 : G_7 (5, 30, 0) = some ((L 30 0), .inr (8, [.ref (L 31 0), .ref (L 33 0), .int (nI (yF y))])) := by rw [hG_7, gset_ne (by simp)]; exact yd_G_6
        have ls_G_7 : G_7 (5, 31, 0) = some ((L 31 0), .inr (0, [.int m1, .ref ar1, .int (nI (ySc y))])) := by rw [hG_7, gset_ne (by simp)]; exact ls_G_6
        have lk_G_7 : G_7 (5, 33, 0) = some ((L 33 0), .inr (0, [.int m2, .ref ar2, .int (nI (yKc y))])) := by rw [hG_7, gset_ne (by simp)]; exact lk_G_6
        have al_G_7 : G_7 (13, 0, 0) = some (q_72, .inl (K.2.1 0, 8, .inl (upd (upd (upd (upd (upd (upd (fun _ => 0) 0 (nI (ySc y))) 1 (nI (yThere y))) 2 (nI (yKc y))) 3 (nI ta)) 4 (nI (yPaid y))) 5 (yWaste y)))) := by rw [hG_7]; exact gset_eq _ _ _ _
        have hw : ∀ v : gTag, v.1 ≠ 13 → G_7 v = G v := fun v h9 => by rw [hG_7, gset_ne (fun z9 => h9 (by rw [z9]))]; exact hw v h9
        have hm := m13 hM.2.1 hw
        refine lv_dup hx hb dX8_count_134 rfl ?_
        refine lv_bipush (v := nI 6) hx hb dX8_count_135 (by decide) ?_
        refine lv_iload_n hx hb dX8_count_137 rfl (lv_at hl 3 rfl) ?_
        refine g_iast S hE hI (j := 6) (f := upd (upd (upd (upd (upd (upd (fun _ => 0) 0 (nI (ySc y))) 1 (nI (yThere y))) 2 (nI (yKc y))) 3 (nI ta)) 4 (nI (yPaid y))) 5 (yWaste y)) al_G_7 rfl (by omega) (Nat.le_of_ble_eq_true rfl) dX8_count_138 (fun H locs hI => ?_)
        have hI : gI K A s (gset G_7 (13, 0, 0) q_72 (.inl (K.2.1 0, 8, .inl (upd (upd (upd (upd (upd (upd (upd (fun _ => 0) 0 (nI (ySc y))) 1 (nI (yThere y))) 2 (nI (yKc y))) 3 (nI ta)) 4 (nI (yPaid y))) 5 (yWaste y)) 6 (nI wa))))) H locs := hI
        obtain ⟨G_8, hG_8⟩ : ∃ z, z = gset G_7 (13, 0, 0) q_72 (.inl (K.2.1 0, 8, .inl (upd (upd (upd (upd (upd (upd (upd (fun _ => 0) 0 (nI (ySc y))) 1 (nI (yThere y))) 2 (nI (yKc y))) 3 (nI ta)) 4 (nI (yPaid y))) 5 (yWaste y)) 6 (nI wa)))) := ⟨_, rfl⟩
        rw [← hG_8] at hI
        have o_G_8 : G_8 (9, 0, 0) = some (h0, .inr (9, [.int (nI th), .ref (L 30 0)])) := by rw [hG_8, gset_ne (by simp)]; exact o_G_7
        have yd_G_8 : G_8 (5, 30, 0) = some ((L 30 0), .inr (8, [.ref (L 31 0), .ref (L 33 0), .int (nI (yF y))])) := by rw [hG_8, gset_ne (by simp)]; exact yd_G_7
        have ls_G_8 : G_8 (5, 31, 0) = some ((L 31 0), .inr (0, [.int m1, .ref ar1, .int (nI (ySc y))])) := by rw [hG_8, gset_ne (by simp)]; exact ls_G_7
        have lk_G_8 : G_8 (5, 33, 0) = some ((L 33 0), .inr (0, [.int m2, .ref ar2, .int (nI (yKc y))])) := by rw [hG_8, gset_ne (by simp)]; exact lk_G_7
        have al_G_8 : G_8 (13, 0, 0) = some (q_72, .inl (K.2.1 0, 8, .inl (upd (upd (upd (upd (upd (upd (upd (fun _ => 0) 0 (nI (ySc y))) 1 (nI (yThere y))) 2 (nI (yKc y))) 3 (nI ta)) 4 (nI (yPaid y))) 5 (yWaste y)) 6 (nI wa)))) := by rw [hG_8]; exact gset_eq _ _ _ _
        have hw : ∀ v : gTag, v.1 ≠ 13 → G_8 v = G v := fun v h9 => by rw [hG_8, gset_ne (fun z9 => h9 (by rw [z9]))]; exact hw v h9
        have hm := m13 hM.2.1 hw
        refine lv_dup hx hb dX8_count_139 rfl ?_
        refine lv_bipush (v := nI 7) hx hb dX8_count_140 (by decide) ?_
        refine lv_aload_n hx hb dX8_count_142 rfl (lv_at hl 0 rfl) ?_
        refine g_get S hE hI (C := RX8) (T := TX8) (N := 2) (ref := "StonecutterYardModel") (fun w h => (List.mem_cons_of_mem _ (List.mem_append_left _ (List.mem_append_left _ (List.mem_append_left _ (List.mem_append_left _ (List.mem_append_right _ h))))))) o_G_8 rfl 1 (by decide) (List.mem_cons_of_mem _ (List.mem_append_left _ (List.mem_append_left _ (List.mem_append_left _ (List.mem_append_left _ (List.mem_append_left _ (List.mem_append_left _ (List.mem_of_getElem? (i := 0) rfl)))))))) (fun _ h9 => h9) (v := .ref (L 30 0)) rfl dX8_count_143 ?_
        refine g_callV (As := []) (rest := [.int (nI 7), .ref q_72, .ref q_72]) (b := (L 30 0)) (n := 0) S hE hI hA (c_X7_areaThere l K _ 5 L y N hm) gX8_count_X7_areaThere rfl (by decide +kernel) ⟨Nat.le_of_ble_eq_true rfl, Nat.le_of_ble_eq_true rfl⟩ (g_hro hE hI yd_G_8 rfl) rfl hl.1 rfl (Nat.le_of_ble_eq_true rfl) dX8_count_146 ⟨by show _ ≤ 1; omega, by show _ ≤ 8; omega⟩ (fun E ce q9 Gx H1 locs1 hx9 => hx9.elim) (fun rv Gc_146 H locs hp hI => ?_)
        obtain ⟨rfl, hq9⟩ := hp
        rw [hq9] at hI
        refine W.eq (g2 := F0 m 149 ls [.int (nI (yAreaT y)), .int (nI 7), .ref q_72, .ref q_72]) rfl ?_
        refine g_iast S hE hI (j := 7) (f := upd (upd (upd (upd (upd (upd (upd (fun _ => 0) 0 (nI (ySc y))) 1 (nI (yThere y))) 2 (nI (yKc y))) 3 (nI ta)) 4 (nI (yPaid y))) 5 (yWaste y)) 6 (nI wa)) al_G_8 rfl (by omega) (Nat.le_of_ble_eq_true rfl) dX8_count_149 (fun H locs hI => ?_)
        have hI : gI K A s (gset G_8 (13, 0, 0) q_72 (.inl (K.2.1 0, 8, .inl (upd (upd (upd (upd (upd (upd (upd (upd (fun _ => 0) 0 (nI (ySc y))) 1 (nI (yThere y))) 2 (nI (yKc y))) 3 (nI ta)) 4 (nI (yPaid y))) 5 (yWaste y)) 6 (nI wa)) 7 (nI (yAreaT y)))))) H locs := hI
        obtain ⟨G_9, hG_9⟩ : ∃ z, z = gset G_8 (13, 0, 0) q_72 (.inl (K.2.1 0, 8, .inl (upd (upd (upd (upd (upd (upd (upd (upd (fun _ => 0) 0 (nI (ySc y))) 1 (nI (yThere y))) 2 (nI (yKc y))) 3 (nI ta)) 4 (nI (yPaid y))) 5 (yWaste y)) 6 (nI wa)) 7 (nI (yAreaT y))))) := ⟨_, rfl⟩
        rw [← hG_9] at hI
        have o_G_9 : G_9 (9, 0, 0) = some (h0, .inr (9, [.int (nI th), .ref (L 30 0)])) := by rw [hG_9, gset_ne (by simp)]; exact o_G_8
        have yd_G_9 : G_9 (5, 30, 0) = some ((L 30 0), .inr (8, [.ref (L 31 0), .ref (L 33 0), .int (nI (yF y))])) := by rw [hG_9, gset_ne (by simp)]; exact yd_G_8
        have ls_G_9 : G_9 (5, 31, 0) = some ((L 31 0), .inr (0, [.int m1, .ref ar1, .int (nI (ySc y))])) := by rw [hG_9, gset_ne (by simp)]; exact ls_G_8
        have lk_G_9 : G_9 (5, 33, 0) = some ((L 33 0), .inr (0, [.int m2, .ref ar2, .int (nI (yKc y))])) := by rw [hG_9, gset_ne (by simp)]; exact lk_G_8
        have al_G_9 : G_9 (13, 0, 0) = some (q_72, .inl (K.2.1 0, 8, .inl (upd (upd (upd (upd (upd (upd (upd (upd (fun _ => 0) 0 (nI (ySc y))) 1 (nI (yThere y))) 2 (nI (yKc y))) 3 (nI ta)) 4 (nI (yPaid y))) 5 (yWaste y)) 6 (nI wa)) 7 (nI (yAreaT y))))) := by rw [hG_9]; exact gset_eq _ _ _ _
        have hw : ∀ v : gTag, v.1 ≠ 13 → G_9 v = G v := fun v h9 => by rw [hG_9, gset_ne (fun z9 => h9 (by rw [z9]))]; exact hw v h9
        have hm := m13 hM.2.1 hw
        refine lv_astore (lv' := [(4, .ref q_72), (0, .ref h0), (1, .int (nI j)), (2, .int (nI ta)), (3, .int (nI wa))]) hx hb dX8_count_150 hl (by decide) rfl (fun ls hl => ?_)
        refine lv_aload hx hb dX8_count_152 (lv_at hl 0 rfl) ?_
        refine lv_iload_n hx hb dX8_count_154 rfl (lv_at hl 2 rfl) ?_
        refine g_iald S hE hI (j := j) (f := upd (upd (upd (upd (upd (upd (upd (upd (fun _ => 0) 0 (nI (ySc y))) 1 (nI (yThere y))) 2 (nI (yKc y))) 3 (nI ta)) 4 (nI (yPaid y))) 5 (yWaste y)) 6 (nI wa)) 7 (nI (yAreaT y))) al_G_9 rfl (by omega) (by decide) dX8_count_155 ?_
        refine W.eq (g2 := F0 m 156 ls [.int (yMany y j)]) (congrArg (fun z => F0 m 156 ls [.int z]) (by rw [hta9, hwa9]; rcases (show j = 0 ∨ j = 1 ∨ j = 2 ∨ j = 3 ∨ j = 4 ∨ j = 5 ∨ j = 6 ∨ j = 7 by omega) with h9 | h9 | h9 | h9 | h9 | h9 | h9 | h9 <;> subst h9 <;> rfl)) ?_
        exact g_iret S hI hr hlocks (by omega) (by omega) dX8_count_156 ⟨rfl, hw⟩
      · skip
        have c_19 : i < (yKc y) := Nat.not_le.mp (fun z => c_19 ((nI_leI (a := (yKc y)) (b := i) (by omega) (by omega)).mpr z))
        refine lv_iload_n hx hb dX8_count_22 rfl (lv_at hl 2 rfl) ?_
        refine lv_aload_n hx hb dX8_count_23 rfl (lv_at hl 0 rfl) ?_
        refine g_get S hE hI (C := RX8) (T := TX8) (N := 2) (ref := "StonecutterYardModel") (fun w h => (List.mem_cons_of_mem _ (List.mem_append_left _ (List.mem_append_left _ (List.mem_append_left _ (List.mem_append_left _ (List.mem_append_right _ h))))))) hM.1 rfl 1 (by decide) (List.mem_cons_of_mem _ (List.mem_append_left _ (List.mem_append_left _ (List.mem_append_left _ (List.mem_append_left _ (List.mem_append_left _ (List.mem_append_left _ (List.mem_of_getElem? (i := 0) rfl)))))))) (fun _ h9 => h9) (v := .ref (L 30 0)) rfl dX8_count_24 ?_
        refine g_get S hE hI (C := RX7) (T := TX7) (N := 3) (ref := "StonecutterYardModel$Yard") (fun w h => (List.mem_cons_of_mem _ (List.mem_append_left _ (List.mem_append_left _ (List.mem_append_left _ (List.mem_append_right _ h)))))) hM.2.1.1.1 rfl 1 (by decide) (List.mem_cons_of_mem _ (List.mem_append_left _ (List.mem_append_left _ (List.mem_append_left _ (List.mem_append_left _ (List.mem_append_left _ (List.mem_append_left _ (List.mem_of_getElem? (i := 1) rfl)))))))) (fun _ h9 => h9) (v := .ref (L 33 0)) rfl dX8_count_27 ?_
        refine lv_iload hx hb dX8_count_30 (lv_at hl 4 rfl) ?_
        refine g_callV (As := [.int (nI i)]) (rest := [.int (nI ta)]) (b := (L 33 0)) (n := 1) S hE hI hA (l_get l K _ (5, 33, 0) (tbL 5 34) (L 33 0) (yKc y) (L 38) i hM.2.1.2.2.1 c_19) gX8_count_Jx4a65c_get_915e3 rfl (by decide +kernel) ⟨Nat.le_of_ble_eq_true rfl, Nat.le_of_ble_eq_true rfl⟩ (g_hro hE hI hl2 rfl) rfl hl.1 rfl (Nat.le_of_ble_eq_true rfl) dX8_count_32 ⟨Nat.le_of_ble_eq_true rfl, Nat.le_of_ble_eq_true rfl⟩ (fun E ce q9 Gx H1 locs1 hx9 => hx9.elim) (fun rv Gc_32 H locs hp hI => ?_)
        obtain ⟨rfl, hq9⟩ := hp
        rw [hq9] at hI
        obtain ⟨hkd, hkok⟩ := hM.2.1.2.2.2.2 i c_19
        obtain ⟨k1, k2, k3, k4, k5, k6, k7, k8, k9⟩ := id hkok
        refine W.eq (g2 := F0 m 35 ls [.ref (L 38 i), .int (nI ta)]) rfl ?_
        refine g_cast S (List.mem_cons_of_mem _ (List.mem_append_left _ (List.mem_append_left _ (List.mem_append_left _ (List.mem_append_left _ (List.mem_append_left _ (List.mem_append_left _ (List.mem_of_getElem? (i := 2) rfl)))))))) (g_hro hE hI hkd rfl) dX8_count_35 ?_
        refine g_get S hE hI (C := RX5) (T := TX5) (N := 8) (ref := "StonecutterYardModel$Kind") (fun w h => (List.mem_cons_of_mem _ (List.mem_append_left _ (List.mem_append_left _ (List.mem_append_right _ h))))) hkd rfl 6 (by decide) (List.mem_cons_of_mem _ (List.mem_append_left _ (List.mem_append_left _ (List.mem_append_left _ (List.mem_append_left _ (List.mem_append_left _ (List.mem_append_left _ (List.mem_of_getElem? (i := 3) rfl)))))))) (fun _ h9 => h9) (v := .int (nI (kT (yK y i)))) rfl dX8_count_38 ?_
        refine t_iadd hx hb dX8_count_41 (nI_add _ _) ?_
        refine lv_istore_n (lv' := [(2, .int (nI (ta + (kT (yK y i))))), (0, .ref h0), (1, .int (nI j)), (3, .int (nI wa)), (4, .int (nI i))]) hx hb dX8_count_42 rfl hl (by decide) rfl (fun ls hl => ?_)
        refine lv_iload_n hx hb dX8_count_43 rfl (lv_at hl 3 rfl) ?_
        refine lv_aload_n hx hb dX8_count_44 rfl (lv_at hl 1 rfl) ?_
        refine g_get S hE hI (C := RX8) (T := TX8) (N := 2) (ref := "StonecutterYardModel") (fun w h => (List.mem_cons_of_mem _ (List.mem_append_left _ (List.mem_append_left _ (List.mem_append_left _ (List.mem_append_left _ (List.mem_append_right _ h))))))) hM.1 rfl 1 (by decide) (List.mem_cons_of_mem _ (List.mem_append_left _ (List.mem_append_left _ (List.mem_append_left _ (List.mem_append_left _ (List.mem_append_left _ (List.mem_append_left _ (List.mem_of_getElem? (i := 0) rfl)))))))) (fun _ h9 => h9) (v := .ref (L 30 0)) rfl dX8_count_45 ?_
        refine g_get S hE hI (C := RX7) (T := TX7) (N := 3) (ref := "StonecutterYardModel$Yard") (fun w h => (List.mem_cons_of_mem _ (List.mem_append_left _ (List.mem_append_left _ (List.mem_append_left _ (List.mem_append_right _ h)))))) hM.2.1.1.1 rfl 1 (by decide) (List.mem_cons_of_mem _ (List.mem_append_left _ (List.mem_append_left _ (List.mem_append_left _ (List.mem_append_left _ (List.mem_append_left _ (List.mem_append_left _ (List.mem_of_getElem? (i := 1) rfl)))))))) (fun _ h9 => h9) (v := .ref (L 33 0)) rfl dX8_count_48 ?_
        refine lv_iload hx hb dX8_count_51 (lv_at hl 4 rfl) ?_
        refine g_callV (As := [.int (nI i)]) (rest := [.int (nI wa)]) (b := (L 33 0)) (n := 1) S hE hI hA (l_get l K _ (5, 33, 0) (tbL 5 34) (L 33 0) (yKc y) (L 38) i hM.2.1.2.2.1 c_19) gX8_count_Jx4a65c_get_915e3 rfl (by decide +kernel) ⟨Nat.le_of_ble_eq_true rfl, Nat.le_of_ble_eq_true rfl⟩ (g_hro hE hI hl2 rfl) rfl hl.1 rfl (Nat.le_of_ble_eq_true rfl) dX8_count_53 ⟨Nat.le_of_ble_eq_true rfl, Nat.le_of_ble_eq_true rfl⟩ (fun E ce q9 Gx H1 locs1 hx9 => hx9.elim) (fun rv Gc_53 H locs hp hI => ?_)
        obtain ⟨rfl, hq9⟩ := hp
        rw [hq9] at hI
        obtain ⟨hkd, hkok⟩ := hM.2.1.2.2.2.2 i c_19
        obtain ⟨k1, k2, k3, k4, k5, k6, k7, k8, k9⟩ := id hkok
        refine W.eq (g2 := F0 m 56 ls [.ref (L 38 i), .int (nI wa)]) rfl ?_
        refine g_cast S (List.mem_cons_of_mem _ (List.mem_append_left _ (List.mem_append_left _ (List.mem_append_left _ (List.mem_append_left _ (List.mem_append_left _ (List.mem_append_left _ (List.mem_of_getElem? (i := 2) rfl)))))))) (g_hro hE hI hkd rfl) dX8_count_56 ?_
        refine g_get S hE hI (C := RX5) (T := TX5) (N := 8) (ref := "StonecutterYardModel$Kind") (fun w h => (List.mem_cons_of_mem _ (List.mem_append_left _ (List.mem_append_left _ (List.mem_append_right _ h))))) hkd rfl 5 (by decide) (List.mem_cons_of_mem _ (List.mem_append_left _ (List.mem_append_left _ (List.mem_append_left _ (List.mem_append_left _ (List.mem_append_left _ (List.mem_append_left _ (List.mem_of_getElem? (i := 4) rfl)))))))) (fun _ h9 => h9) (v := .int (nI (kN (yK y i)))) rfl dX8_count_59 ?_
        refine t_iadd hx hb dX8_count_62 (nI_add _ _) ?_
        refine lv_istore_n (lv' := [(3, .int (nI (wa + (kN (yK y i))))), (2, .int (nI (ta + (kT (yK y i))))), (0, .ref h0), (1, .int (nI j)), (4, .int (nI i))]) hx hb dX8_count_63 rfl hl (by decide) rfl (fun ls hl => ?_)
        refine lv_iinc (v := nI (i + 1)) (lv' := [(4, .int (nI (i + 1))), (3, .int (nI (wa + (kN (yK y i))))), (2, .int (nI (ta + (kT (yK y i))))), (0, .ref h0), (1, .int (nI j))]) hx hb dX8_count_64 hl (k := 4) rfl (nI_add _ 1) (by decide) rfl (fun ls hl => ?_)
        refine lv_goto (tgt := 7) hx hb dX8_count_67 (by decide) ?_
        exact ih (i + 1) _ _ H locs ls (by omega) (by omega) (by rw [hta, sumN_s]) (by rw [hwa, sumN_s]) hI (lv_sub hl [3,4,2,1,0] rfl)
  exact L7 _ 0 0 0 H locs ls (Nat.lt_succ_self _) (Nat.zero_le _) rfl rfl hI (lv_sub hl [3,4,2,1,0] rfl)
set_option maxHeartbeats 4000000 in
set_option maxRecDepth 100000 in
/-- X8_ofSlab: ofSlabA -/
theorem m_ofSlabA (l : Launch) (K : gK) (G : gW) (L : Nat → Nat → Nat) (h0 th : Nat) (y : YV) (N : Nat) (x w : Int32) (hM : MdC K L h0 th G y N) (hxn : ∀ q, q < ySc y → x ≠ nI q) (hr9 : inR x (ySc y) = false) : gM l yX8_ofSlab wsX8_ofSlab 6 125 1 6 K [.ref h0, .int x, .int w] G (mPost K h0 G (oOfSlab y x w)) (gNo) := by
  refine gM.of (cc := cX8_ofSlab) (maxL := 3) (ret := (some .int)) (by decide) rfl (Nat.le_of_ble_eq_true rfl) ?_
  intro p e s m below meth c A S hr hlocks htab hname hE hA hI ls hl
  have hx := S.1
  have hb := S.2.1
  have hml := S.2.2.1
  have hl : lv_has ls 3 [(0, .ref h0), (1, .int x), (2, .int w)] := hl
  have h44 := hM.2.1.1.2.2.1
  have h6 := hM.2.1.1.2.2.2
  have hf2 := hM.2.1.1.2.1
  have h40 := hM.2.2.2
  have hth := hM.2.2.1
  have hag : AgM G G := AgM.rf
  obtain ⟨m1, ar1, hl1⟩ := hM.2.1.2.1.obj
  obtain ⟨m2, ar2, hl2⟩ := hM.2.1.2.2.1.obj
  have ho : oOfSlab y x w = (1, 0, y) := by unfold oOfSlab; rw [if_neg (by rw [hr9]; decide)]
  obtain ⟨H, hHe⟩ : ∃ z, z = s.heap := ⟨_, rfl⟩
  obtain ⟨locs, hLe⟩ : ∃ z : List Loc, z = [] := ⟨_, rfl⟩
  rw [← hHe, ← hLe]
  have hI : gI K A s G H locs := by rw [hHe, hLe]; exact hI
  clear hHe hLe
  refine lv_aload_n hx hb dX8_ofSlab_0 rfl (lv_at hl 0 rfl) ?_
  refine lv_iload_n hx hb dX8_ofSlab_1 rfl (lv_at hl 1 rfl) ?_
  refine g_callV (As := [.int x]) (rest := []) (b := h0) (n := 1) S hE hI hA (c_X8_isNoSlab l K _ L h0 th y N x hM) gX8_ofSlab_X8_isNoSlab rfl (by decide +kernel) ⟨Nat.le_of_ble_eq_true rfl, Nat.le_of_ble_eq_true rfl⟩ (g_hro hE hI hM.1 rfl) rfl hl.1 rfl (Nat.le_of_ble_eq_true rfl) dX8_ofSlab_2 ⟨Nat.le_of_ble_eq_true rfl, Nat.le_of_ble_eq_true rfl⟩ (fun E ce q9 Gx H1 locs1 hx9 => hx9.elim) (fun rv Gc_2 H locs hp hI => ?_)
  obtain ⟨rfl, hM, hg9⟩ := hp
  have hag := hag.tr hg9
  rw [hr9]
  rw [hr9] at hM
  have hM : MdC K L h0 1 Gc_2 y N := hM
  obtain ⟨m1, ar1, hl1⟩ := hM.2.1.2.1.obj
  obtain ⟨m2, ar2, hl2⟩ := hM.2.1.2.2.1.obj
  refine W.eq (g2 := F0 m 5 ls [.int (bI true)]) rfl ?_
  refine lv_if_ne (tgt := 30) hx hb dX8_ofSlab_5 (by decide) (fun c_5 => ?_) (fun c_5 => ?_)
  · skip
    have c_5 : true = true := bI_1.mp c_5
    refine lv_iconst (v := nI 0) hx hb dX8_ofSlab_30 (by decide) ?_
    refine lv_goto (tgt := 43) hx hb dX8_ofSlab_31 (by decide) ?_
    exact g_iret S hI hr hlocks (Nat.zero_le _) (Nat.zero_le _) dX8_ofSlab_43 (mThrow ho (by decide) hM hag)
  · skip
    have c_5 : true = false := bI_0.mp c_5
    cases c_5
set_option maxHeartbeats 4000000 in
set_option maxRecDepth 100000 in
/-- X8_ofSlab: ofSlabB -/
theorem m_ofSlabB (l : Launch) (K : gK) (G : gW) (L : Nat → Nat → Nat) (h0 th : Nat) (y : YV) (N : Nat) (i : Nat) (w : Int32) (hM : MdC K L h0 th G y N) (hi : i < ySc y) (hw9 : inR w 6 = false) : gM l yX8_ofSlab wsX8_ofSlab 6 125 1 6 K [.ref h0, .int (nI i), .int w] G (mPost K h0 G (oOfSlab y (nI i) w)) (gNo) := by
  refine gM.of (cc := cX8_ofSlab) (maxL := 3) (ret := (some .int)) (by decide) rfl (Nat.le_of_ble_eq_true rfl) ?_
  intro p e s m below meth c A S hr hlocks htab hname hE hA hI ls hl
  have hx := S.1
  have hb := S.2.1
  have hml := S.2.2.1
  have hl : lv_has ls 3 [(0, .ref h0), (1, .int (nI i)), (2, .int w)] := hl
  have h44 := hM.2.1.1.2.2.1
  have h6 := hM.2.1.1.2.2.2
  have hf2 := hM.2.1.1.2.1
  have h40 := hM.2.2.2
  have hth := hM.2.2.1
  have hag : AgM G G := AgM.rf
  have hri : inR (nI i) (ySc y) = true := inR_nI hi (by omega)
  have hiN : iN (nI i) = i := iN_nI (by omega)
  obtain ⟨m1, ar1, hl1⟩ := hM.2.1.2.1.obj
  obtain ⟨m2, ar2, hl2⟩ := hM.2.1.2.2.1.obj
  have hw8 : inB w 0 5 = false := (inB0 (n := 5)).trans hw9
  have ho : oOfSlab y (nI i) w = (2, 0, y) := by unfold oOfSlab; rw [if_pos hri, if_neg (by rw [hw9]; decide)]
  obtain ⟨H, hHe⟩ : ∃ z, z = s.heap := ⟨_, rfl⟩
  obtain ⟨locs, hLe⟩ : ∃ z : List Loc, z = [] := ⟨_, rfl⟩
  rw [← hHe, ← hLe]
  have hI : gI K A s G H locs := by rw [hHe, hLe]; exact hI
  clear hHe hLe
  refine lv_aload_n hx hb dX8_ofSlab_0 rfl (lv_at hl 0 rfl) ?_
  refine lv_iload_n hx hb dX8_ofSlab_1 rfl (lv_at hl 1 rfl) ?_
  refine g_callV (As := [.int (nI i)]) (rest := []) (b := h0) (n := 1) S hE hI hA (c_X8_isNoSlab l K _ L h0 th y N (nI i) hM) gX8_ofSlab_X8_isNoSlab rfl (by decide +kernel) ⟨Nat.le_of_ble_eq_true rfl, Nat.le_of_ble_eq_true rfl⟩ (g_hro hE hI hM.1 rfl) rfl hl.1 rfl (Nat.le_of_ble_eq_true rfl) dX8_ofSlab_2 ⟨Nat.le_of_ble_eq_true rfl, Nat.le_of_ble_eq_true rfl⟩ (fun E ce q9 Gx H1 locs1 hx9 => hx9.elim) (fun rv Gc_2 H locs hp hI => ?_)
  obtain ⟨rfl, hM, hg9⟩ := hp
  have hag := hag.tr hg9
  rw [hri]
  rw [hri] at hM
  have hM : MdC K L h0 0 Gc_2 y N := hM
  obtain ⟨m1, ar1, hl1⟩ := hM.2.1.2.1.obj
  obtain ⟨m2, ar2, hl2⟩ := hM.2.1.2.2.1.obj
  refine W.eq (g2 := F0 m 5 ls [.int (bI false)]) rfl ?_
  refine lv_if_ne (tgt := 30) hx hb dX8_ofSlab_5 (by decide) (fun c_5 => ?_) (fun c_5 => ?_)
  · skip
    have c_5 : false = true := bI_1.mp c_5
    cases c_5
  · skip
    have c_5 : false = false := bI_0.mp c_5
    refine lv_aload_n hx hb dX8_ofSlab_8 rfl (lv_at hl 0 rfl) ?_
    refine lv_iload_n hx hb dX8_ofSlab_9 rfl (lv_at hl 2 rfl) ?_
    refine lv_iconst (v := nI 0) hx hb dX8_ofSlab_10 (by decide) ?_
    refine lv_iconst (v := nI 5) hx hb dX8_ofSlab_11 (by decide) ?_
    refine g_callS (As := [.int w, .int (nI 0), .int (nI 5)]) (rest := [.ref h0]) (n := 3) S hE hI hA (c_X8_isIn l K _ w (nI 0) (nI 5)) gX8_ofSlab_X8_isIn rfl (by decide +kernel) ⟨Nat.le_of_ble_eq_true rfl, Nat.le_of_ble_eq_true rfl⟩ rfl hl.1 rfl (Nat.le_of_ble_eq_true rfl) dX8_ofSlab_12 ⟨Nat.le_of_ble_eq_true rfl, Nat.le_of_ble_eq_true rfl⟩ (fun E ce q9 Gx H1 locs1 hx9 => hx9.elim) (fun rv Gc_12 H locs hp hI => ?_)
    obtain ⟨rfl, hq9⟩ := hp
    rw [hq9] at hI
    rw [isI_inB (by decide) (by decide)]
    rw [hw8]
    refine W.eq (g2 := F0 m 15 ls [.int (bI false), .ref h0]) rfl ?_
    refine lv_if_ne (tgt := 22) hx hb dX8_ofSlab_15 (by decide) (fun c_15 => ?_) (fun c_15 => ?_)
    · skip
      have c_15 : false = true := bI_1.mp c_15
      cases c_15
    · skip
      have c_15 : false = false := bI_0.mp c_15
      refine lv_iconst (v := nI 1) hx hb dX8_ofSlab_18 (by decide) ?_
      refine lv_goto (tgt := 23) hx hb dX8_ofSlab_19 (by decide) ?_
      refine lv_iconst (v := nI 2) hx hb dX8_ofSlab_23 (by decide) ?_
      refine g_callV (As := [.int (nI 1), .int (nI 2)]) (rest := []) (b := h0) (n := 2) S hE hI hA (c_ref l K _ L h0 y N true 2 hM (by decide)) gX8_ofSlab_X8_refuse rfl (by decide +kernel) ⟨Nat.le_of_ble_eq_true rfl, Nat.le_of_ble_eq_true rfl⟩ (g_hro hE hI hM.1 rfl) rfl hl.1 rfl (Nat.le_of_ble_eq_true rfl) dX8_ofSlab_24 ⟨Nat.le_of_ble_eq_true rfl, Nat.le_of_ble_eq_true rfl⟩ (fun E ce q9 Gx H1 locs1 hx9 => hx9.elim) (fun rv Gc_24 H locs hp hI => ?_)
      obtain ⟨rfl, hM, hg9⟩ := hp
      have hag := hag.tr hg9
      have hM : MdC K L h0 2 Gc_24 y N := hM
      obtain ⟨m1, ar1, hl1⟩ := hM.2.1.2.1.obj
      obtain ⟨m2, ar2, hl2⟩ := hM.2.1.2.2.1.obj
      refine W.eq (g2 := F0 m 27 ls [.int (bI true)]) rfl ?_
      refine lv_if_eq (tgt := 34) hx hb dX8_ofSlab_27 (by decide) (fun c_27 => ?_) (fun c_27 => ?_)
      · skip
        have c_27 : true = false := bI_0.mp c_27
        cases c_27
      · skip
        have c_27 : true = true := bI_1.mp c_27
        refine lv_iconst (v := nI 0) hx hb dX8_ofSlab_30 (by decide) ?_
        refine lv_goto (tgt := 43) hx hb dX8_ofSlab_31 (by decide) ?_
        exact g_iret S hI hr hlocks (Nat.zero_le _) (Nat.zero_le _) dX8_ofSlab_43 (mThrow ho (by decide) hM hag)
set_option maxHeartbeats 4000000 in
set_option maxRecDepth 100000 in
/-- X8_ofSlab: ofSlabC -/
theorem m_ofSlabC (l : Launch) (K : gK) (G : gW) (L : Nat → Nat → Nat) (h0 th : Nat) (y : YV) (N : Nat) (i j : Nat) (hM : MdC K L h0 th G y N) (hi : i < ySc y) (hj : j < 6) : gM l yX8_ofSlab wsX8_ofSlab 6 125 1 6 K [.ref h0, .int (nI i), .int (nI j)] G (mPost K h0 G (oOfSlab y (nI i) (nI j))) (gNo) := by
  refine gM.of (cc := cX8_ofSlab) (maxL := 3) (ret := (some .int)) (by decide) rfl (Nat.le_of_ble_eq_true rfl) ?_
  intro p e s m below meth c A S hr hlocks htab hname hE hA hI ls hl
  have hx := S.1
  have hb := S.2.1
  have hml := S.2.2.1
  have hl : lv_has ls 3 [(0, .ref h0), (1, .int (nI i)), (2, .int (nI j))] := hl
  have h44 := hM.2.1.1.2.2.1
  have h6 := hM.2.1.1.2.2.2
  have hf2 := hM.2.1.1.2.1
  have h40 := hM.2.2.2
  have hth := hM.2.2.1
  have hag : AgM G G := AgM.rf
  obtain ⟨m1, ar1, hl1⟩ := hM.2.1.2.1.obj
  obtain ⟨m2, ar2, hl2⟩ := hM.2.1.2.2.1.obj
  obtain ⟨hsl, hfl, hsok⟩ := hM.2.1.2.2.2.1 i hi
  obtain ⟨s1, s2, s3, s4, s5, s6, s7, s8⟩ := id hsok
  have hri : inR (nI i) (ySc y) = true := inR_nI hi (by omega)
  have hiN : iN (nI i) = i := iN_nI (by omega)
  have hx9 : inB (nI j) 0 5 = true := by rw [inB_nI (by omega)]; exact decide_eq_true (by omega)
  have ho : oOfSlab y (nI i) (nI j) = (0, sOf (yS y i) j, y) := by unfold oOfSlab; rw [if_pos hri, if_pos (inR_nI hj (by decide)), hiN, iN_nI (by omega)]
  obtain ⟨H, hHe⟩ : ∃ z, z = s.heap := ⟨_, rfl⟩
  obtain ⟨locs, hLe⟩ : ∃ z : List Loc, z = [] := ⟨_, rfl⟩
  rw [← hHe, ← hLe]
  have hI : gI K A s G H locs := by rw [hHe, hLe]; exact hI
  clear hHe hLe
  refine lv_aload_n hx hb dX8_ofSlab_0 rfl (lv_at hl 0 rfl) ?_
  refine lv_iload_n hx hb dX8_ofSlab_1 rfl (lv_at hl 1 rfl) ?_
  refine g_callV (As := [.int (nI i)]) (rest := []) (b := h0) (n := 1) S hE hI hA (c_X8_isNoSlab l K _ L h0 th y N (nI i) hM) gX8_ofSlab_X8_isNoSlab rfl (by decide +kernel) ⟨Nat.le_of_ble_eq_true rfl, Nat.le_of_ble_eq_true rfl⟩ (g_hro hE hI hM.1 rfl) rfl hl.1 rfl (Nat.le_of_ble_eq_true rfl) dX8_ofSlab_2 ⟨Nat.le_of_ble_eq_true rfl, Nat.le_of_ble_eq_true rfl⟩ (fun E ce q9 Gx H1 locs1 hx9 => hx9.elim) (fun rv Gc_2 H locs hp hI => ?_)
  obtain ⟨rfl, hM, hg9⟩ := hp
  have hag := hag.tr hg9
  rw [hri]
  rw [hri] at hM
  have hM : MdC K L h0 0 Gc_2 y N := hM
  obtain ⟨m1, ar1, hl1⟩ := hM.2.1.2.1.obj
  obtain ⟨m2, ar2, hl2⟩ := hM.2.1.2.2.1.obj
  obtain ⟨hsl, hfl, hsok⟩ := hM.2.1.2.2.2.1 i hi
  obtain ⟨s1, s2, s3, s4, s5, s6, s7, s8⟩ := id hsok
  refine W.eq (g2 := F0 m 5 ls [.int (bI false)]) rfl ?_
  refine lv_if_ne (tgt := 30) hx hb dX8_ofSlab_5 (by decide) (fun c_5 => ?_) (fun c_5 => ?_)
  · skip
    have c_5 : false = true := bI_1.mp c_5
    cases c_5
  · skip
    have c_5 : false = false := bI_0.mp c_5
    refine lv_aload_n hx hb dX8_ofSlab_8 rfl (lv_at hl 0 rfl) ?_
    refine lv_iload_n hx hb dX8_ofSlab_9 rfl (lv_at hl 2 rfl) ?_
    refine lv_iconst (v := nI 0) hx hb dX8_ofSlab_10 (by decide) ?_
    refine lv_iconst (v := nI 5) hx hb dX8_ofSlab_11 (by decide) ?_
    refine g_callS (As := [.int (nI j), .int (nI 0), .int (nI 5)]) (rest := [.ref h0]) (n := 3) S hE hI hA (c_X8_isIn l K _ (nI j) (nI 0) (nI 5)) gX8_ofSlab_X8_isIn rfl (by decide +kernel) ⟨Nat.le_of_ble_eq_true rfl, Nat.le_of_ble_eq_true rfl⟩ rfl hl.1 rfl (Nat.le_of_ble_eq_true rfl) dX8_ofSlab_12 ⟨Nat.le_of_ble_eq_true rfl, Nat.le_of_ble_eq_true rfl⟩ (fun E ce q9 Gx H1 locs1 hx9 => hx9.elim) (fun rv Gc_12 H locs hp hI => ?_)
    obtain ⟨rfl, hq9⟩ := hp
    rw [hq9] at hI
    rw [isI_inB (by decide) (by decide)]
    rw [hx9]
    refine W.eq (g2 := F0 m 15 ls [.int (bI true), .ref h0]) rfl ?_
    refine lv_if_ne (tgt := 22) hx hb dX8_ofSlab_15 (by decide) (fun c_15 => ?_) (fun c_15 => ?_)
    · skip
      have c_15 : true = true := bI_1.mp c_15
      refine lv_iconst (v := nI 0) hx hb dX8_ofSlab_22 (by decide) ?_
      refine lv_iconst (v := nI 2) hx hb dX8_ofSlab_23 (by decide) ?_
      refine g_callV (As := [.int (nI 0), .int (nI 2)]) (rest := []) (b := h0) (n := 2) S hE hI hA (c_ref l K _ L h0 y N false 2 hM (by decide)) gX8_ofSlab_X8_refuse rfl (by decide +kernel) ⟨Nat.le_of_ble_eq_true rfl, Nat.le_of_ble_eq_true rfl⟩ (g_hro hE hI hM.1 rfl) rfl hl.1 rfl (Nat.le_of_ble_eq_true rfl) dX8_ofSlab_24 ⟨Nat.le_of_ble_eq_true rfl, Nat.le_of_ble_eq_true rfl⟩ (fun E ce q9 Gx H1 locs1 hx9 => hx9.elim) (fun rv Gc_24 H locs hp hI => ?_)
      obtain ⟨rfl, hM, hg9⟩ := hp
      have hag := hag.tr hg9
      have hM : MdC K L h0 0 Gc_24 y N := hM
      obtain ⟨m1, ar1, hl1⟩ := hM.2.1.2.1.obj
      obtain ⟨m2, ar2, hl2⟩ := hM.2.1.2.2.1.obj
      obtain ⟨hsl, hfl, hsok⟩ := hM.2.1.2.2.2.1 i hi
      obtain ⟨s1, s2, s3, s4, s5, s6, s7, s8⟩ := id hsok
      refine W.eq (g2 := F0 m 27 ls [.int (bI false)]) rfl ?_
      refine lv_if_eq (tgt := 34) hx hb dX8_ofSlab_27 (by decide) (fun c_27 => ?_) (fun c_27 => ?_)
      · skip
        have c_27 : false = false := bI_0.mp c_27
        refine lv_aload_n hx hb dX8_ofSlab_34 rfl (lv_at hl 0 rfl) ?_
        refine lv_iload_n hx hb dX8_ofSlab_35 rfl (lv_at hl 1 rfl) ?_
        refine g_callV (As := [.int (nI i)]) (rest := []) (b := h0) (n := 1) S hE hI hA (c_X8_of l K _ L h0 0 y N i hM hi) gX8_ofSlab_X8_of rfl (by decide +kernel) ⟨Nat.le_of_ble_eq_true rfl, Nat.le_of_ble_eq_true rfl⟩ (g_hro hE hI hM.1 rfl) rfl hl.1 rfl (Nat.le_of_ble_eq_true rfl) dX8_ofSlab_36 ⟨Nat.le_of_ble_eq_true rfl, Nat.le_of_ble_eq_true rfl⟩ (fun E ce q9 Gx H1 locs1 hx9 => hx9.elim) (fun rv Gc_36 H locs hp hI => ?_)
        obtain ⟨rfl, hq9⟩ := hp
        rw [hq9] at hI
        refine W.eq (g2 := F0 m 39 ls [.ref (L 35 i)]) rfl ?_
        refine lv_iload_n hx hb dX8_ofSlab_39 rfl (lv_at hl 2 rfl) ?_
        refine g_callS (As := [.ref (L 35 i), .int (nI j)]) (rest := []) (n := 2) S hE hI hA (c_X8_of_ l K _ L h0 0 y N i j hM hi hj) gX8_ofSlab_X8_of_ rfl (by decide +kernel) ⟨Nat.le_of_ble_eq_true rfl, Nat.le_of_ble_eq_true rfl⟩ rfl hl.1 rfl (Nat.le_of_ble_eq_true rfl) dX8_ofSlab_40 ⟨by show _ ≤ 1; omega, by show _ ≤ 6; omega⟩ (fun E ce q9 Gx H1 locs1 hx9 => hx9.elim) (fun rv Gc_40 H locs hp hI => ?_)
        obtain ⟨rfl, hw9⟩ := hp
        refine W.eq (g2 := F0 m 43 ls [.int (sOf (yS y i) j)]) rfl ?_
        exact g_iret S hI hr hlocks (by omega) (by omega) dX8_ofSlab_43 (mOk ho (hM.m13 hw9) (hag.tr (ag13 hw9)))
      · skip
        have c_27 : false = true := bI_1.mp c_27
        cases c_27
    · skip
      have c_15 : true = false := bI_0.mp c_15
      cases c_15
set_option maxHeartbeats 4000000 in
set_option maxRecDepth 100000 in
/-- X8_flawsAt: flawsAtA -/
theorem m_flawsAtA (l : Launch) (K : gK) (G : gW) (L : Nat → Nat → Nat) (h0 th : Nat) (y : YV) (N : Nat) (x px py : Int32) (hM : MdC K L h0 th G y N) (hxn : ∀ q, q < ySc y → x ≠ nI q) (hr9 : inR x (ySc y) = false) : gM l yX8_flawsAt wsX8_flawsAt 7 148 0 0 K [.ref h0, .int x, .int px, .int py] G (mPost K h0 G (oFlawsAt y x px py)) (gNo) := by
  refine gM.of (cc := cX8_flawsAt) (maxL := 4) (ret := (some .int)) (by decide) rfl (Nat.le_of_ble_eq_true rfl) ?_
  intro p e s m below meth c A S hr hlocks htab hname hE hA hI ls hl
  have hx := S.1
  have hb := S.2.1
  have hml := S.2.2.1
  have hl : lv_has ls 4 [(0, .ref h0), (1, .int x), (2, .int px), (3, .int py)] := hl
  have h44 := hM.2.1.1.2.2.1
  have h6 := hM.2.1.1.2.2.2
  have hf2 := hM.2.1.1.2.1
  have h40 := hM.2.2.2
  have hth := hM.2.2.1
  have hag : AgM G G := AgM.rf
  obtain ⟨m1, ar1, hl1⟩ := hM.2.1.2.1.obj
  obtain ⟨m2, ar2, hl2⟩ := hM.2.1.2.2.1.obj
  have ho : oFlawsAt y x px py = (1, 0, y) := by unfold oFlawsAt; rw [if_neg (by rw [hr9]; decide)]
  obtain ⟨H, hHe⟩ : ∃ z, z = s.heap := ⟨_, rfl⟩
  obtain ⟨locs, hLe⟩ : ∃ z : List Loc, z = [] := ⟨_, rfl⟩
  rw [← hHe, ← hLe]
  have hI : gI K A s G H locs := by rw [hHe, hLe]; exact hI
  clear hHe hLe
  refine lv_aload_n hx hb dX8_flawsAt_0 rfl (lv_at hl 0 rfl) ?_
  refine lv_iload_n hx hb dX8_flawsAt_1 rfl (lv_at hl 1 rfl) ?_
  refine lv_iload_n hx hb dX8_flawsAt_2 rfl (lv_at hl 2 rfl) ?_
  refine lv_iload_n hx hb dX8_flawsAt_3 rfl (lv_at hl 3 rfl) ?_
  refine g_callV (As := [.int x, .int px, .int py]) (rest := []) (b := h0) (n := 3) S hE hI hA (c_npA l K _ L h0 th y N x px py hM hr9) gX8_flawsAt_X8_isNoPoint rfl (by decide +kernel) ⟨Nat.le_of_ble_eq_true rfl, Nat.le_of_ble_eq_true rfl⟩ (g_hro hE hI hM.1 rfl) rfl hl.1 rfl (Nat.le_of_ble_eq_true rfl) dX8_flawsAt_4 ⟨Nat.le_of_ble_eq_true rfl, Nat.le_of_ble_eq_true rfl⟩ (fun E ce q9 Gx H1 locs1 hx9 => hx9.elim) (fun rv Gc_4 H locs hp hI => ?_)
  obtain ⟨rfl, hM, hg9⟩ := hp
  have hag := hag.tr hg9
  have hM : MdC K L h0 1 Gc_4 y N := hM
  obtain ⟨m1, ar1, hl1⟩ := hM.2.1.2.1.obj
  obtain ⟨m2, ar2, hl2⟩ := hM.2.1.2.2.1.obj
  refine W.eq (g2 := F0 m 7 ls [.int (bI true)]) rfl ?_
  refine lv_if_eq (tgt := 14) hx hb dX8_flawsAt_7 (by decide) (fun c_7 => ?_) (fun c_7 => ?_)
  · skip
    have c_7 : true = false := bI_0.mp c_7
    cases c_7
  · skip
    have c_7 : true = true := bI_1.mp c_7
    refine lv_iconst (v := nI 0) hx hb dX8_flawsAt_10 (by decide) ?_
    refine lv_goto (tgt := 24) hx hb dX8_flawsAt_11 (by decide) ?_
    exact g_iret S hI hr hlocks (Nat.zero_le _) (Nat.zero_le _) dX8_flawsAt_24 (mThrow ho (by decide) hM hag)
set_option maxHeartbeats 4000000 in
set_option maxRecDepth 100000 in
/-- X8_flawsAt: flawsAtB -/
theorem m_flawsAtB (l : Launch) (K : gK) (G : gW) (L : Nat → Nat → Nat) (h0 th : Nat) (y : YV) (N : Nat) (i : Nat) (px py : Int32) (hM : MdC K L h0 th G y N) (hi : i < ySc y) (hpt9 : inPt (yS y i) px py = false) : gM l yX8_flawsAt wsX8_flawsAt 7 148 0 0 K [.ref h0, .int (nI i), .int px, .int py] G (mPost K h0 G (oFlawsAt y (nI i) px py)) (gNo) := by
  refine gM.of (cc := cX8_flawsAt) (maxL := 4) (ret := (some .int)) (by decide) rfl (Nat.le_of_ble_eq_true rfl) ?_
  intro p e s m below meth c A S hr hlocks htab hname hE hA hI ls hl
  have hx := S.1
  have hb := S.2.1
  have hml := S.2.2.1
  have hl : lv_has ls 4 [(0, .ref h0), (1, .int (nI i)), (2, .int px), (3, .int py)] := hl
  have h44 := hM.2.1.1.2.2.1
  have h6 := hM.2.1.1.2.2.2
  have hf2 := hM.2.1.1.2.1
  have h40 := hM.2.2.2
  have hth := hM.2.2.1
  have hag : AgM G G := AgM.rf
  have hri : inR (nI i) (ySc y) = true := inR_nI hi (by omega)
  have hiN : iN (nI i) = i := iN_nI (by omega)
  obtain ⟨m1, ar1, hl1⟩ := hM.2.1.2.1.obj
  obtain ⟨m2, ar2, hl2⟩ := hM.2.1.2.2.1.obj
  obtain ⟨hsl, hfl, hsok⟩ := hM.2.1.2.2.2.1 i hi
  obtain ⟨s1, s2, s3, s4, s5, s6, s7, s8⟩ := id hsok
  have ho : oFlawsAt y (nI i) px py = (1, 0, y) := by unfold oFlawsAt; rw [if_pos hri, hiN, if_neg (by rw [hpt9]; decide)]
  obtain ⟨H, hHe⟩ : ∃ z, z = s.heap := ⟨_, rfl⟩
  obtain ⟨locs, hLe⟩ : ∃ z : List Loc, z = [] := ⟨_, rfl⟩
  rw [← hHe, ← hLe]
  have hI : gI K A s G H locs := by rw [hHe, hLe]; exact hI
  clear hHe hLe
  refine lv_aload_n hx hb dX8_flawsAt_0 rfl (lv_at hl 0 rfl) ?_
  refine lv_iload_n hx hb dX8_flawsAt_1 rfl (lv_at hl 1 rfl) ?_
  refine lv_iload_n hx hb dX8_flawsAt_2 rfl (lv_at hl 2 rfl) ?_
  refine lv_iload_n hx hb dX8_flawsAt_3 rfl (lv_at hl 3 rfl) ?_
  refine g_callV (As := [.int (nI i), .int px, .int py]) (rest := []) (b := h0) (n := 3) S hE hI hA (c_npB l K _ L h0 th y N i px py hM hi hpt9) gX8_flawsAt_X8_isNoPoint rfl (by decide +kernel) ⟨Nat.le_of_ble_eq_true rfl, Nat.le_of_ble_eq_true rfl⟩ (g_hro hE hI hM.1 rfl) rfl hl.1 rfl (Nat.le_of_ble_eq_true rfl) dX8_flawsAt_4 ⟨Nat.le_of_ble_eq_true rfl, Nat.le_of_ble_eq_true rfl⟩ (fun E ce q9 Gx H1 locs1 hx9 => hx9.elim) (fun rv Gc_4 H locs hp hI => ?_)
  obtain ⟨rfl, hM, hg9⟩ := hp
  have hag := hag.tr hg9
  have hM : MdC K L h0 1 Gc_4 y N := hM
  obtain ⟨m1, ar1, hl1⟩ := hM.2.1.2.1.obj
  obtain ⟨m2, ar2, hl2⟩ := hM.2.1.2.2.1.obj
  obtain ⟨hsl, hfl, hsok⟩ := hM.2.1.2.2.2.1 i hi
  obtain ⟨s1, s2, s3, s4, s5, s6, s7, s8⟩ := id hsok
  refine W.eq (g2 := F0 m 7 ls [.int (bI true)]) rfl ?_
  refine lv_if_eq (tgt := 14) hx hb dX8_flawsAt_7 (by decide) (fun c_7 => ?_) (fun c_7 => ?_)
  · skip
    have c_7 : true = false := bI_0.mp c_7
    cases c_7
  · skip
    have c_7 : true = true := bI_1.mp c_7
    refine lv_iconst (v := nI 0) hx hb dX8_flawsAt_10 (by decide) ?_
    refine lv_goto (tgt := 24) hx hb dX8_flawsAt_11 (by decide) ?_
    exact g_iret S hI hr hlocks (Nat.zero_le _) (Nat.zero_le _) dX8_flawsAt_24 (mThrow ho (by decide) hM hag)
set_option maxHeartbeats 4000000 in
set_option maxRecDepth 100000 in
/-- X8_flawsAt: flawsAtC -/
theorem m_flawsAtC (l : Launch) (K : gK) (G : gW) (L : Nat → Nat → Nat) (h0 th : Nat) (y : YV) (N : Nat) (i a b : Nat) (hM : MdC K L h0 th G y N) (hi : i < ySc y) (hab : a < sW (yS y i) ∧ b < sH (yS y i)) : gM l yX8_flawsAt wsX8_flawsAt 7 148 0 0 K [.ref h0, .int (nI i), .int (nI a), .int (nI b)] G (mPost K h0 G (oFlawsAt y (nI i) (nI a) (nI b))) (gNo) := by
  refine gM.of (cc := cX8_flawsAt) (maxL := 4) (ret := (some .int)) (by decide) rfl (Nat.le_of_ble_eq_true rfl) ?_
  intro p e s m below meth c A S hr hlocks htab hname hE hA hI ls hl
  have hx := S.1
  have hb := S.2.1
  have hml := S.2.2.1
  have hl : lv_has ls 4 [(0, .ref h0), (1, .int (nI i)), (2, .int (nI a)), (3, .int (nI b))] := hl
  have h44 := hM.2.1.1.2.2.1
  have h6 := hM.2.1.1.2.2.2
  have hf2 := hM.2.1.1.2.1
  have h40 := hM.2.2.2
  have hth := hM.2.2.1
  have hag : AgM G G := AgM.rf
  have hri : inR (nI i) (ySc y) = true := inR_nI hi (by omega)
  have hiN : iN (nI i) = i := iN_nI (by omega)
  obtain ⟨m1, ar1, hl1⟩ := hM.2.1.2.1.obj
  obtain ⟨m2, ar2, hl2⟩ := hM.2.1.2.2.1.obj
  obtain ⟨hsl, hfl, hsok⟩ := hM.2.1.2.2.2.1 i hi
  obtain ⟨s1, s2, s3, s4, s5, s6, s7, s8⟩ := id hsok
  have hpt9 := inPt_nI hsok hab.1 hab.2
  have haN : iN (nI a) = a := iN_nI (by omega)
  have hbN : iN (nI b) = b := iN_nI (by omega)
  have ho : oFlawsAt y (nI i) (nI a) (nI b) = (0, nI (cnt (sL (yS y i)) a b (a + 1) (b + 1)), y) := by unfold oFlawsAt; rw [if_pos hri, hiN, if_pos hpt9, haN, hbN]
  obtain ⟨H, hHe⟩ : ∃ z, z = s.heap := ⟨_, rfl⟩
  obtain ⟨locs, hLe⟩ : ∃ z : List Loc, z = [] := ⟨_, rfl⟩
  rw [← hHe, ← hLe]
  have hI : gI K A s G H locs := by rw [hHe, hLe]; exact hI
  clear hHe hLe
  refine lv_aload_n hx hb dX8_flawsAt_0 rfl (lv_at hl 0 rfl) ?_
  refine lv_iload_n hx hb dX8_flawsAt_1 rfl (lv_at hl 1 rfl) ?_
  refine lv_iload_n hx hb dX8_flawsAt_2 rfl (lv_at hl 2 rfl) ?_
  refine lv_iload_n hx hb dX8_flawsAt_3 rfl (lv_at hl 3 rfl) ?_
  refine g_callV (As := [.int (nI i), .int (nI a), .int (nI b)]) (rest := []) (b := h0) (n := 3) S hE hI hA (c_npC l K _ L h0 th y N i a b hM hi hab) gX8_flawsAt_X8_isNoPoint rfl (by decide +kernel) ⟨Nat.le_of_ble_eq_true rfl, Nat.le_of_ble_eq_true rfl⟩ (g_hro hE hI hM.1 rfl) rfl hl.1 rfl (Nat.le_of_ble_eq_true rfl) dX8_flawsAt_4 ⟨Nat.le_of_ble_eq_true rfl, Nat.le_of_ble_eq_true rfl⟩ (fun E ce q9 Gx H1 locs1 hx9 => hx9.elim) (fun rv Gc_4 H locs hp hI => ?_)
  obtain ⟨rfl, hM, hg9⟩ := hp
  have hag := hag.tr hg9
  have hM : MdC K L h0 0 Gc_4 y N := hM
  obtain ⟨m1, ar1, hl1⟩ := hM.2.1.2.1.obj
  obtain ⟨m2, ar2, hl2⟩ := hM.2.1.2.2.1.obj
  obtain ⟨hsl, hfl, hsok⟩ := hM.2.1.2.2.2.1 i hi
  obtain ⟨s1, s2, s3, s4, s5, s6, s7, s8⟩ := id hsok
  refine W.eq (g2 := F0 m 7 ls [.int (bI false)]) rfl ?_
  refine lv_if_eq (tgt := 14) hx hb dX8_flawsAt_7 (by decide) (fun c_7 => ?_) (fun c_7 => ?_)
  · skip
    have c_7 : false = false := bI_0.mp c_7
    refine lv_aload_n hx hb dX8_flawsAt_14 rfl (lv_at hl 0 rfl) ?_
    refine lv_iload_n hx hb dX8_flawsAt_15 rfl (lv_at hl 1 rfl) ?_
    refine g_callV (As := [.int (nI i)]) (rest := []) (b := h0) (n := 1) S hE hI hA (c_X8_of l K _ L h0 0 y N i hM hi) gX8_flawsAt_X8_of rfl (by decide +kernel) ⟨Nat.le_of_ble_eq_true rfl, Nat.le_of_ble_eq_true rfl⟩ (g_hro hE hI hM.1 rfl) rfl hl.1 rfl (Nat.le_of_ble_eq_true rfl) dX8_flawsAt_16 ⟨Nat.le_of_ble_eq_true rfl, Nat.le_of_ble_eq_true rfl⟩ (fun E ce q9 Gx H1 locs1 hx9 => hx9.elim) (fun rv Gc_16 H locs hp hI => ?_)
    obtain ⟨rfl, hq9⟩ := hp
    rw [hq9] at hI
    refine W.eq (g2 := F0 m 19 ls [.ref (L 35 i)]) rfl ?_
    refine lv_iload_n hx hb dX8_flawsAt_19 rfl (lv_at hl 2 rfl) ?_
    refine lv_iload_n hx hb dX8_flawsAt_20 rfl (lv_at hl 3 rfl) ?_
    refine g_callV (As := [.int (nI a), .int (nI b)]) (rest := []) (b := (L 35 i)) (n := 2) S hE hI hA (c_X6_at l K _ (5, 35, i) (5, 36, i) (tbF 5 i) (L 35 i) (yS y i) (L 36 i) N a b hsl hfl ⟨by omega, by omega⟩) gX8_flawsAt_X6_at rfl (by decide +kernel) ⟨Nat.le_of_ble_eq_true rfl, Nat.le_of_ble_eq_true rfl⟩ (g_hro hE hI hsl rfl) rfl hl.1 rfl (Nat.le_of_ble_eq_true rfl) dX8_flawsAt_21 ⟨Nat.le_of_ble_eq_true rfl, Nat.le_of_ble_eq_true rfl⟩ (fun E ce q9 Gx H1 locs1 hx9 => hx9.elim) (fun rv Gc_21 H locs hp hI => ?_)
    obtain ⟨rfl, hq9⟩ := hp
    rw [hq9] at hI
    refine W.eq (g2 := F0 m 24 ls [.int (nI (cnt (sL (yS y i)) a b (a + 1) (b + 1)))]) rfl ?_
    exact g_iret S hI hr hlocks (Nat.zero_le _) (Nat.zero_le _) dX8_flawsAt_24 (mOk ho hM hag)
  · skip
    have c_7 : false = true := bI_1.mp c_7
    cases c_7
set_option maxHeartbeats 4000000 in
set_option maxRecDepth 100000 in
/-- X8_root: rootA -/
theorem m_rootA (l : Launch) (K : gK) (G : gW) (L : Nat → Nat → Nat) (h0 th : Nat) (y : YV) (N : Nat) (x : Int32) (hM : MdC K L h0 th G y N) (hxn : ∀ q, q < ySc y → x ≠ nI q) (hr9 : inR x (ySc y) = false) : gM l yX8_root wsX8_root 6 125 0 0 K [.ref h0, .int x] G (mPost K h0 G (oRoot y x)) (gNo) := by
  refine gM.of (cc := cX8_root) (maxL := 3) (ret := (some .int)) (by decide) rfl (Nat.le_of_ble_eq_true rfl) ?_
  intro p e s m below meth c A S hr hlocks htab hname hE hA hI ls hl
  have hx := S.1
  have hb := S.2.1
  have hml := S.2.2.1
  have hl : lv_has ls 3 [(0, .ref h0), (1, .int x)] := hl
  have h44 := hM.2.1.1.2.2.1
  have h6 := hM.2.1.1.2.2.2
  have hf2 := hM.2.1.1.2.1
  have h40 := hM.2.2.2
  have hth := hM.2.2.1
  have hag : AgM G G := AgM.rf
  obtain ⟨m1, ar1, hl1⟩ := hM.2.1.2.1.obj
  obtain ⟨m2, ar2, hl2⟩ := hM.2.1.2.2.1.obj
  have ho : oRoot y x = (1, 0, y) := by unfold oRoot; rw [if_neg (by rw [hr9]; decide)]
  obtain ⟨H, hHe⟩ : ∃ z, z = s.heap := ⟨_, rfl⟩
  obtain ⟨locs, hLe⟩ : ∃ z : List Loc, z = [] := ⟨_, rfl⟩
  rw [← hHe, ← hLe]
  have hI : gI K A s G H locs := by rw [hHe, hLe]; exact hI
  clear hHe hLe
  refine lv_aload_n hx hb dX8_root_0 rfl (lv_at hl 0 rfl) ?_
  refine lv_iload_n hx hb dX8_root_1 rfl (lv_at hl 1 rfl) ?_
  refine g_callV (As := [.int x]) (rest := []) (b := h0) (n := 1) S hE hI hA (c_X8_isNoSlab l K _ L h0 th y N x hM) gX8_root_X8_isNoSlab rfl (by decide +kernel) ⟨Nat.le_of_ble_eq_true rfl, Nat.le_of_ble_eq_true rfl⟩ (g_hro hE hI hM.1 rfl) rfl hl.1 rfl (Nat.le_of_ble_eq_true rfl) dX8_root_2 ⟨Nat.le_of_ble_eq_true rfl, Nat.le_of_ble_eq_true rfl⟩ (fun E ce q9 Gx H1 locs1 hx9 => hx9.elim) (fun rv Gc_2 H locs hp hI => ?_)
  obtain ⟨rfl, hM, hg9⟩ := hp
  have hag := hag.tr hg9
  rw [hr9]
  rw [hr9] at hM
  have hM : MdC K L h0 1 Gc_2 y N := hM
  obtain ⟨m1, ar1, hl1⟩ := hM.2.1.2.1.obj
  obtain ⟨m2, ar2, hl2⟩ := hM.2.1.2.2.1.obj
  refine W.eq (g2 := F0 m 5 ls [.int (bI true)]) rfl ?_
  refine lv_if_eq (tgt := 10) hx hb dX8_root_5 (by decide) (fun c_5 => ?_) (fun c_5 => ?_)
  · skip
    have c_5 : true = false := bI_0.mp c_5
    cases c_5
  · skip
    have c_5 : true = true := bI_1.mp c_5
    refine lv_iconst (v := nI 0) hx hb dX8_root_8 (by decide) ?_
    exact g_iret S hI hr hlocks (Nat.zero_le _) (Nat.zero_le _) dX8_root_9 (mThrow ho (by decide) hM hag)
set_option maxHeartbeats 4000000 in
set_option maxRecDepth 100000 in
/-- X8_root: rootB -/
theorem m_rootB (l : Launch) (K : gK) (G : gW) (L : Nat → Nat → Nat) (h0 th : Nat) (y : YV) (N : Nat) (i : Nat) (hM : MdC K L h0 th G y N) (hi : i < ySc y) (hfr : yFr y) : gM l yX8_root wsX8_root 6 125 0 0 K [.ref h0, .int (nI i)] G (mPost K h0 G (oRoot y (nI i))) (gNo) := by
  refine gM.of (cc := cX8_root) (maxL := 3) (ret := (some .int)) (by decide) rfl (Nat.le_of_ble_eq_true rfl) ?_
  intro p e s m below meth c A S hr hlocks htab hname hE hA hI ls hl
  have hx := S.1
  have hb := S.2.1
  have hml := S.2.2.1
  have hl : lv_has ls 3 [(0, .ref h0), (1, .int (nI i))] := hl
  have h44 := hM.2.1.1.2.2.1
  have h6 := hM.2.1.1.2.2.2
  have hf2 := hM.2.1.1.2.1
  have h40 := hM.2.2.2
  have hth := hM.2.2.1
  have hag : AgM G G := AgM.rf
  have hri : inR (nI i) (ySc y) = true := inR_nI hi (by omega)
  have hiN : iN (nI i) = i := iN_nI (by omega)
  obtain ⟨m1, ar1, hl1⟩ := hM.2.1.2.1.obj
  obtain ⟨m2, ar2, hl2⟩ := hM.2.1.2.2.1.obj
  obtain ⟨hsl, hfl, hsok⟩ := hM.2.1.2.2.2.1 i hi
  obtain ⟨s1, s2, s3, s4, s5, s6, s7, s8⟩ := id hsok
  have ho : oRoot y (nI i) = (0, nI (yRoot y 40 i), y) := by unfold oRoot; rw [if_pos hri, hiN]
  obtain ⟨H, hHe⟩ : ∃ z, z = s.heap := ⟨_, rfl⟩
  obtain ⟨locs, hLe⟩ : ∃ z : List Loc, z = [] := ⟨_, rfl⟩
  rw [← hHe, ← hLe]
  have hI : gI K A s G H locs := by rw [hHe, hLe]; exact hI
  clear hHe hLe
  refine lv_aload_n hx hb dX8_root_0 rfl (lv_at hl 0 rfl) ?_
  refine lv_iload_n hx hb dX8_root_1 rfl (lv_at hl 1 rfl) ?_
  refine g_callV (As := [.int (nI i)]) (rest := []) (b := h0) (n := 1) S hE hI hA (c_X8_isNoSlab l K _ L h0 th y N (nI i) hM) gX8_root_X8_isNoSlab rfl (by decide +kernel) ⟨Nat.le_of_ble_eq_true rfl, Nat.le_of_ble_eq_true rfl⟩ (g_hro hE hI hM.1 rfl) rfl hl.1 rfl (Nat.le_of_ble_eq_true rfl) dX8_root_2 ⟨Nat.le_of_ble_eq_true rfl, Nat.le_of_ble_eq_true rfl⟩ (fun E ce q9 Gx H1 locs1 hx9 => hx9.elim) (fun rv Gc_2 H locs hp hI => ?_)
  obtain ⟨rfl, hM, hg9⟩ := hp
  have hag := hag.tr hg9
  rw [hri]
  rw [hri] at hM
  have hM : MdC K L h0 0 Gc_2 y N := hM
  obtain ⟨m1, ar1, hl1⟩ := hM.2.1.2.1.obj
  obtain ⟨m2, ar2, hl2⟩ := hM.2.1.2.2.1.obj
  obtain ⟨hsl, hfl, hsok⟩ := hM.2.1.2.2.2.1 i hi
  obtain ⟨s1, s2, s3, s4, s5, s6, s7, s8⟩ := id hsok
  refine W.eq (g2 := F0 m 5 ls [.int (bI false)]) rfl ?_
  refine lv_if_eq (tgt := 10) hx hb dX8_root_5 (by decide) (fun c_5 => ?_) (fun c_5 => ?_)
  · skip
    have c_5 : false = false := bI_0.mp c_5
    refine lv_iload_n hx hb dX8_root_10 rfl (lv_at hl 1 rfl) ?_
    refine lv_istore_n (lv' := [(2, .int (nI i)), (0, .ref h0), (1, .int (nI i))]) hx hb dX8_root_11 rfl hl (by decide) rfl (fun ls hl => ?_)
    have L12 : ∀ (n : Nat) (q m9 : Nat) (H : Heap) (locs : List Loc) (ls : Array Slot) (hn : q < n) (hq : q < ySc y) (hqm : q < m9) (hrt : yRoot y 40 i = yRoot y m9 q), gI K A s Gc_2 H locs → lv_has ls 3 [(0, .ref h0), (2, .int (nI q))] → W p l e (gRoom 6 125 0 0) s m ([.ref h0, .int (nI i)] : List Value).toArray below meth c H locs 0 0 (gEnd K below (mPost K h0 G (oRoot y (nI i))) (gNo) A ([.ref h0, .int (nI i)] : List Value).toArray s 0 0) (F0 m 12 ls []) := by
      clear hI hl
      intro n
      induction n with
      | zero =>
        intro q m9 H locs ls hn hq hqm hrt hI hl
        exact absurd hn (Nat.not_lt_zero _)
      | succ n ih =>
        intro q m9 H locs ls hn hq hqm hrt hI hl
        refine lv_aload_n hx hb dX8_root_12 rfl (lv_at hl 0 rfl) ?_
        refine lv_iload_n hx hb dX8_root_13 rfl (lv_at hl 1 rfl) ?_
        refine g_callV (As := [.int (nI q)]) (rest := []) (b := h0) (n := 1) S hE hI hA (c_X8_of l K _ L h0 0 y N q hM hq) gX8_root_X8_of rfl (by decide +kernel) ⟨Nat.le_of_ble_eq_true rfl, Nat.le_of_ble_eq_true rfl⟩ (g_hro hE hI hM.1 rfl) rfl hl.1 rfl (Nat.le_of_ble_eq_true rfl) dX8_root_14 ⟨Nat.le_of_ble_eq_true rfl, Nat.le_of_ble_eq_true rfl⟩ (fun E ce q9 Gx H1 locs1 hx9 => hx9.elim) (fun rv Gc_14 H locs hp hI => ?_)
        obtain ⟨rfl, hq9⟩ := hp
        rw [hq9] at hI
        obtain ⟨hslq, -, -⟩ := hM.2.1.2.2.2.1 q hq
        refine W.eq (g2 := F0 m 17 ls [.ref (L 35 q)]) rfl ?_
        refine g_get S hE hI (C := RX6) (T := TX6) (N := 6) (ref := "StonecutterYardModel$Slab") (fun w h => (List.mem_cons_of_mem _ (List.mem_append_left _ (List.mem_append_left _ (List.mem_append_left _ (List.mem_append_right _ h)))))) hslq rfl 3 (by decide) (List.mem_cons_of_mem _ (List.mem_append_left _ (List.mem_append_left _ (List.mem_append_left _ (List.mem_append_left _ (List.mem_append_left _ (List.mem_of_getElem? (i := 0) rfl))))))) (fun _ h9 => h9) (v := .int (sF (yS y q))) rfl dX8_root_17 ?_
        refine lv_iconst (v := (-1)) hx hb dX8_root_20 (by decide) ?_
        refine lv_icmp_eq (tgt := 36) hx hb dX8_root_21 (by decide) (fun c_21 => ?_) (fun c_21 => ?_)
        · skip
          obtain ⟨m8, rfl⟩ : ∃ m8, m9 = m8 + 1 := ⟨m9 - 1, by omega⟩
          have hfin : yRoot y 40 i = q := by rw [hrt, yRoot, if_pos c_21]
          refine lv_iload_n hx hb dX8_root_36 rfl (lv_at hl 1 rfl) ?_
          exact g_iret S hI hr hlocks (Nat.zero_le _) (Nat.zero_le _) dX8_root_37 (mOk (by rw [ho, hfin]) hM hag)
        · skip
          obtain ⟨m8, rfl⟩ : ∃ m8, m9 = m8 + 1 := ⟨m9 - 1, by omega⟩
          obtain ⟨jq, hjq, hje⟩ : ∃ jq, jq < q ∧ sF (yS y q) = nI jq := (hfr q hq).resolve_left c_21
          refine lv_aload_n hx hb dX8_root_24 rfl (lv_at hl 0 rfl) ?_
          refine lv_iload_n hx hb dX8_root_25 rfl (lv_at hl 1 rfl) ?_
          refine g_callV (As := [.int (nI q)]) (rest := []) (b := h0) (n := 1) S hE hI hA (c_X8_of l K _ L h0 0 y N q hM hq) gX8_root_X8_of rfl (by decide +kernel) ⟨Nat.le_of_ble_eq_true rfl, Nat.le_of_ble_eq_true rfl⟩ (g_hro hE hI hM.1 rfl) rfl hl.1 rfl (Nat.le_of_ble_eq_true rfl) dX8_root_26 ⟨Nat.le_of_ble_eq_true rfl, Nat.le_of_ble_eq_true rfl⟩ (fun E ce q9 Gx H1 locs1 hx9 => hx9.elim) (fun rv Gc_26 H locs hp hI => ?_)
          obtain ⟨rfl, hq9⟩ := hp
          rw [hq9] at hI
          obtain ⟨hslq, -, -⟩ := hM.2.1.2.2.2.1 q hq
          refine W.eq (g2 := F0 m 29 ls [.ref (L 35 q)]) rfl ?_
          refine g_get S hE hI (C := RX6) (T := TX6) (N := 6) (ref := "StonecutterYardModel$Slab") (fun w h => (List.mem_cons_of_mem _ (List.mem_append_left _ (List.mem_append_left _ (List.mem_append_left _ (List.mem_append_right _ h)))))) hslq rfl 3 (by decide) (List.mem_cons_of_mem _ (List.mem_append_left _ (List.mem_append_left _ (List.mem_append_left _ (List.mem_append_left _ (List.mem_append_left _ (List.mem_of_getElem? (i := 0) rfl))))))) (fun _ h9 => h9) (v := .int (sF (yS y q))) rfl dX8_root_29 ?_
          refine lv_istore_n (lv' := [(2, .int (sF (yS y q))), (0, .ref h0)]) hx hb dX8_root_32 rfl hl (by decide) rfl (fun ls hl => ?_)
          rw [hje] at hl
          refine lv_goto (tgt := 12) hx hb dX8_root_33 (by decide) ?_
          exact ih jq m8 H locs ls (by omega) (by omega) (by omega) (by rw [hrt, yRoot, if_neg c_21, hje, iN_nI (by omega)]) hI (lv_sub hl [1,0] rfl)
    exact L12 _ i 40 H locs ls (Nat.lt_succ_self _) hi (by omega) rfl hI (lv_sub hl [1,0] rfl)
  · skip
    have c_5 : false = true := bI_1.mp c_5
    cases c_5
set_option maxHeartbeats 4000000 in
set_option maxRecDepth 100000 in
/-- X8_kind: kindA -/
theorem m_kindA (l : Launch) (K : gK) (G : gW) (L : Nat → Nat → Nat) (h0 th : Nat) (y : YV) (N : Nat) (a b q : Int32) (hM : MdC K L h0 th G y N) (hb9 : (inB a 1 24 && inB b 1 24 && inB q 1 999) = false) : gM l yX8_kind wsX8_kind 8 171 2 18 K [.ref h0, .int a, .int b, .int q] G (mPost K h0 G (oKind y a b q)) (gNo) := by
  refine gM.of (cc := cX8_kind) (maxL := 4) (ret := (some .int)) (by decide) rfl (Nat.le_of_ble_eq_true rfl) ?_
  intro p e s m below meth c A S hr hlocks htab hname hE hA hI ls hl
  have hx := S.1
  have hb := S.2.1
  have hml := S.2.2.1
  have hl : lv_has ls 4 [(0, .ref h0), (1, .int a), (2, .int b), (3, .int q)] := hl
  have h44 := hM.2.1.1.2.2.1
  have h6 := hM.2.1.1.2.2.2
  have hf2 := hM.2.1.1.2.1
  have h40 := hM.2.2.2
  have hth := hM.2.2.1
  have hag : AgM G G := AgM.rf
  obtain ⟨m1, ar1, hl1⟩ := hM.2.1.2.1.obj
  obtain ⟨m2, ar2, hl2⟩ := hM.2.1.2.2.1.obj
  have ho : oKind y a b q = (1, 0, y) := by unfold oKind; rw [if_neg (by rw [hb9]; decide)]
  obtain ⟨H, hHe⟩ : ∃ z, z = s.heap := ⟨_, rfl⟩
  obtain ⟨locs, hLe⟩ : ∃ z : List Loc, z = [] := ⟨_, rfl⟩
  rw [← hHe, ← hLe]
  have hI : gI K A s G H locs := by rw [hHe, hLe]; exact hI
  clear hHe hLe
  refine lv_aload_n hx hb dX8_kind_0 rfl (lv_at hl 0 rfl) ?_
  refine lv_iload_n hx hb dX8_kind_1 rfl (lv_at hl 1 rfl) ?_
  refine lv_iconst (v := nI 1) hx hb dX8_kind_2 (by decide) ?_
  refine lv_bipush (v := nI 24) hx hb dX8_kind_3 (by decide) ?_
  refine g_callS (As := [.int a, .int (nI 1), .int (nI 24)]) (rest := [.ref h0]) (n := 3) S hE hI hA (c_X8_isIn l K _ a (nI 1) (nI 24)) gX8_kind_X8_isIn rfl (by decide +kernel) ⟨Nat.le_of_ble_eq_true rfl, Nat.le_of_ble_eq_true rfl⟩ rfl hl.1 rfl (Nat.le_of_ble_eq_true rfl) dX8_kind_5 ⟨Nat.le_of_ble_eq_true rfl, Nat.le_of_ble_eq_true rfl⟩ (fun E ce q9 Gx H1 locs1 hx9 => hx9.elim) (fun rv Gc_5 H locs hp hI => ?_)
  obtain ⟨rfl, hq9⟩ := hp
  rw [hq9] at hI
  rw [isI_inB (by decide) (by decide)]
  refine W.eq (g2 := F0 m 8 ls [.int (bI (inB a 1 24)), .ref h0]) rfl ?_
  refine lv_if_eq (tgt := 32) hx hb dX8_kind_8 (by decide) (fun c_8 => ?_) (fun c_8 => ?_)
  · skip
    have c_8 : (inB a 1 24) = false := bI_0.mp c_8
    refine lv_iconst (v := nI 1) hx hb dX8_kind_32 (by decide) ?_
    refine lv_goto (tgt := 37) hx hb dX8_kind_33 (by decide) ?_
    refine lv_iconst (v := nI 1) hx hb dX8_kind_37 (by decide) ?_
    refine g_callV (As := [.int (nI 1), .int (nI 1)]) (rest := []) (b := h0) (n := 2) S hE hI hA (c_start l K _ L h0 th y N true 1 hM (by decide)) gX8_kind_X8_start rfl (by decide +kernel) ⟨Nat.le_of_ble_eq_true rfl, Nat.le_of_ble_eq_true rfl⟩ (g_hro hE hI hM.1 rfl) rfl hl.1 rfl (Nat.le_of_ble_eq_true rfl) dX8_kind_38 ⟨Nat.le_of_ble_eq_true rfl, Nat.le_of_ble_eq_true rfl⟩ (fun E ce q9 Gx H1 locs1 hx9 => hx9.elim) (fun rv Gc_38 H locs hp hI => ?_)
    obtain ⟨rfl, hM, hg9⟩ := hp
    have hag := hag.tr hg9
    have hM : MdC K L h0 1 Gc_38 y N := hM
    obtain ⟨m1, ar1, hl1⟩ := hM.2.1.2.1.obj
    obtain ⟨m2, ar2, hl2⟩ := hM.2.1.2.2.1.obj
    refine W.eq (g2 := F0 m 41 ls [.int (bI true)]) rfl ?_
    refine lv_if_ne (tgt := 72) hx hb dX8_kind_41 (by decide) (fun c_41 => ?_) (fun c_41 => ?_)
    · skip
      have c_41 : true = true := bI_1.mp c_41
      refine lv_iconst (v := nI 0) hx hb dX8_kind_72 (by decide) ?_
      exact g_iret S hI hr hlocks (Nat.zero_le _) (Nat.zero_le _) dX8_kind_73 (mThrow ho (by decide) hM hag)
    · skip
      have c_41 : true = false := bI_0.mp c_41
      cases c_41
  · skip
    have c_8 : (inB a 1 24) = true := bI_1.mp c_8
    refine lv_iload_n hx hb dX8_kind_11 rfl (lv_at hl 2 rfl) ?_
    refine lv_iconst (v := nI 1) hx hb dX8_kind_12 (by decide) ?_
    refine lv_bipush (v := nI 24) hx hb dX8_kind_13 (by decide) ?_
    refine g_callS (As := [.int b, .int (nI 1), .int (nI 24)]) (rest := [.ref h0]) (n := 3) S hE hI hA (c_X8_isIn l K _ b (nI 1) (nI 24)) gX8_kind_X8_isIn rfl (by decide +kernel) ⟨Nat.le_of_ble_eq_true rfl, Nat.le_of_ble_eq_true rfl⟩ rfl hl.1 rfl (Nat.le_of_ble_eq_true rfl) dX8_kind_15 ⟨Nat.le_of_ble_eq_true rfl, Nat.le_of_ble_eq_true rfl⟩ (fun E ce q9 Gx H1 locs1 hx9 => hx9.elim) (fun rv Gc_15 H locs hp hI => ?_)
    obtain ⟨rfl, hq9⟩ := hp
    rw [hq9] at hI
    rw [isI_inB (by decide) (by decide)]
    refine W.eq (g2 := F0 m 18 ls [.int (bI (inB b 1 24)), .ref h0]) rfl ?_
    refine lv_if_eq (tgt := 32) hx hb dX8_kind_18 (by decide) (fun c_18 => ?_) (fun c_18 => ?_)
    · skip
      have c_18 : (inB b 1 24) = false := bI_0.mp c_18
      refine lv_iconst (v := nI 1) hx hb dX8_kind_32 (by decide) ?_
      refine lv_goto (tgt := 37) hx hb dX8_kind_33 (by decide) ?_
      refine lv_iconst (v := nI 1) hx hb dX8_kind_37 (by decide) ?_
      refine g_callV (As := [.int (nI 1), .int (nI 1)]) (rest := []) (b := h0) (n := 2) S hE hI hA (c_start l K _ L h0 th y N true 1 hM (by decide)) gX8_kind_X8_start rfl (by decide +kernel) ⟨Nat.le_of_ble_eq_true rfl, Nat.le_of_ble_eq_true rfl⟩ (g_hro hE hI hM.1 rfl) rfl hl.1 rfl (Nat.le_of_ble_eq_true rfl) dX8_kind_38 ⟨Nat.le_of_ble_eq_true rfl, Nat.le_of_ble_eq_true rfl⟩ (fun E ce q9 Gx H1 locs1 hx9 => hx9.elim) (fun rv Gc_38 H locs hp hI => ?_)
      obtain ⟨rfl, hM, hg9⟩ := hp
      have hag := hag.tr hg9
      have hM : MdC K L h0 1 Gc_38 y N := hM
      obtain ⟨m1, ar1, hl1⟩ := hM.2.1.2.1.obj
      obtain ⟨m2, ar2, hl2⟩ := hM.2.1.2.2.1.obj
      refine W.eq (g2 := F0 m 41 ls [.int (bI true)]) rfl ?_
      refine lv_if_ne (tgt := 72) hx hb dX8_kind_41 (by decide) (fun c_41 => ?_) (fun c_41 => ?_)
      · skip
        have c_41 : true = true := bI_1.mp c_41
        refine lv_iconst (v := nI 0) hx hb dX8_kind_72 (by decide) ?_
        exact g_iret S hI hr hlocks (Nat.zero_le _) (Nat.zero_le _) dX8_kind_73 (mThrow ho (by decide) hM hag)
      · skip
        have c_41 : true = false := bI_0.mp c_41
        cases c_41
    · skip
      have c_18 : (inB b 1 24) = true := bI_1.mp c_18
      refine lv_iload_n hx hb dX8_kind_21 rfl (lv_at hl 3 rfl) ?_
      refine lv_iconst (v := nI 1) hx hb dX8_kind_22 (by decide) ?_
      refine lv_sipush (v := nI 999) hx hb dX8_kind_23 (by decide) ?_
      refine g_callS (As := [.int q, .int (nI 1), .int (nI 999)]) (rest := [.ref h0]) (n := 3) S hE hI hA (c_X8_isIn l K _ q (nI 1) (nI 999)) gX8_kind_X8_isIn rfl (by decide +kernel) ⟨Nat.le_of_ble_eq_true rfl, Nat.le_of_ble_eq_true rfl⟩ rfl hl.1 rfl (Nat.le_of_ble_eq_true rfl) dX8_kind_26 ⟨Nat.le_of_ble_eq_true rfl, Nat.le_of_ble_eq_true rfl⟩ (fun E ce q9 Gx H1 locs1 hx9 => hx9.elim) (fun rv Gc_26 H locs hp hI => ?_)
      obtain ⟨rfl, hq9⟩ := hp
      rw [hq9] at hI
      rw [isI_inB (by decide) (by decide)]
      refine W.eq (g2 := F0 m 29 ls [.int (bI (inB q 1 999)), .ref h0]) rfl ?_
      refine lv_if_ne (tgt := 36) hx hb dX8_kind_29 (by decide) (fun c_29 => ?_) (fun c_29 => ?_)
      · skip
        have c_29 : (inB q 1 999) = true := bI_1.mp c_29
        exact absurd hb9 (by rw [c_8, c_18, c_29]; decide)
      · skip
        have c_29 : (inB q 1 999) = false := bI_0.mp c_29
        refine lv_iconst (v := nI 1) hx hb dX8_kind_32 (by decide) ?_
        refine lv_goto (tgt := 37) hx hb dX8_kind_33 (by decide) ?_
        refine lv_iconst (v := nI 1) hx hb dX8_kind_37 (by decide) ?_
        refine g_callV (As := [.int (nI 1), .int (nI 1)]) (rest := []) (b := h0) (n := 2) S hE hI hA (c_start l K _ L h0 th y N true 1 hM (by decide)) gX8_kind_X8_start rfl (by decide +kernel) ⟨Nat.le_of_ble_eq_true rfl, Nat.le_of_ble_eq_true rfl⟩ (g_hro hE hI hM.1 rfl) rfl hl.1 rfl (Nat.le_of_ble_eq_true rfl) dX8_kind_38 ⟨Nat.le_of_ble_eq_true rfl, Nat.le_of_ble_eq_true rfl⟩ (fun E ce q9 Gx H1 locs1 hx9 => hx9.elim) (fun rv Gc_38 H locs hp hI => ?_)
        obtain ⟨rfl, hM, hg9⟩ := hp
        have hag := hag.tr hg9
        have hM : MdC K L h0 1 Gc_38 y N := hM
        obtain ⟨m1, ar1, hl1⟩ := hM.2.1.2.1.obj
        obtain ⟨m2, ar2, hl2⟩ := hM.2.1.2.2.1.obj
        refine W.eq (g2 := F0 m 41 ls [.int (bI true)]) rfl ?_
        refine lv_if_ne (tgt := 72) hx hb dX8_kind_41 (by decide) (fun c_41 => ?_) (fun c_41 => ?_)
        · skip
          have c_41 : true = true := bI_1.mp c_41
          refine lv_iconst (v := nI 0) hx hb dX8_kind_72 (by decide) ?_
          exact g_iret S hI hr hlocks (Nat.zero_le _) (Nat.zero_le _) dX8_kind_73 (mThrow ho (by decide) hM hag)
        · skip
          have c_41 : true = false := bI_0.mp c_41
          cases c_41
set_option maxHeartbeats 4000000 in
set_option maxRecDepth 100000 in
/-- X8_kind: kindB -/
theorem m_kindB (l : Launch) (K : gK) (G : gW) (L : Nat → Nat → Nat) (h0 th : Nat) (y : YV) (N : Nat) (a b q : Nat) (hM : MdC K L h0 th G y N) (hb9 : (1 ≤ a ∧ a ≤ 24) ∧ (1 ≤ b ∧ b ≤ 24) ∧ 1 ≤ q ∧ q ≤ 999) (hroom : ¬ yKc y < 6) : gM l yX8_kind wsX8_kind 8 171 2 18 K [.ref h0, .int (nI a), .int (nI b), .int (nI q)] G (mPost K h0 G (oKind y (nI a) (nI b) (nI q))) (gNo) := by
  refine gM.of (cc := cX8_kind) (maxL := 4) (ret := (some .int)) (by decide) rfl (Nat.le_of_ble_eq_true rfl) ?_
  intro p e s m below meth c A S hr hlocks htab hname hE hA hI ls hl
  have hx := S.1
  have hb := S.2.1
  have hml := S.2.2.1
  have hl : lv_has ls 4 [(0, .ref h0), (1, .int (nI a)), (2, .int (nI b)), (3, .int (nI q))] := hl
  have h44 := hM.2.1.1.2.2.1
  have h6 := hM.2.1.1.2.2.2
  have hf2 := hM.2.1.1.2.1
  have h40 := hM.2.2.2
  have hth := hM.2.2.1
  have hag : AgM G G := AgM.rf
  obtain ⟨⟨b1, b2⟩, ⟨b3, b4⟩, b5, b6⟩ := hb9
  obtain ⟨m1, ar1, hl1⟩ := hM.2.1.2.1.obj
  obtain ⟨m2, ar2, hl2⟩ := hM.2.1.2.2.1.obj
  have hx1 : inB (nI a) 1 24 = true := by rw [inB_nI (by omega)]; exact decide_eq_true (by omega)
  have hx2 : inB (nI b) 1 24 = true := by rw [inB_nI (by omega)]; exact decide_eq_true (by omega)
  have hx3 : inB (nI q) 1 999 = true := by rw [inB_nI (by omega)]; exact decide_eq_true (by omega)
  have ho : oKind y (nI a) (nI b) (nI q) = (2, 0, y) := by unfold oKind; rw [hx1, hx2, hx3]; exact if_neg hroom
  obtain ⟨H, hHe⟩ : ∃ z, z = s.heap := ⟨_, rfl⟩
  obtain ⟨locs, hLe⟩ : ∃ z : List Loc, z = [] := ⟨_, rfl⟩
  rw [← hHe, ← hLe]
  have hI : gI K A s G H locs := by rw [hHe, hLe]; exact hI
  clear hHe hLe
  refine lv_aload_n hx hb dX8_kind_0 rfl (lv_at hl 0 rfl) ?_
  refine lv_iload_n hx hb dX8_kind_1 rfl (lv_at hl 1 rfl) ?_
  refine lv_iconst (v := nI 1) hx hb dX8_kind_2 (by decide) ?_
  refine lv_bipush (v := nI 24) hx hb dX8_kind_3 (by decide) ?_
  refine g_callS (As := [.int (nI a), .int (nI 1), .int (nI 24)]) (rest := [.ref h0]) (n := 3) S hE hI hA (c_X8_isIn l K _ (nI a) (nI 1) (nI 24)) gX8_kind_X8_isIn rfl (by decide +kernel) ⟨Nat.le_of_ble_eq_true rfl, Nat.le_of_ble_eq_true rfl⟩ rfl hl.1 rfl (Nat.le_of_ble_eq_true rfl) dX8_kind_5 ⟨Nat.le_of_ble_eq_true rfl, Nat.le_of_ble_eq_true rfl⟩ (fun E ce q9 Gx H1 locs1 hx9 => hx9.elim) (fun rv Gc_5 H locs hp hI => ?_)
  obtain ⟨rfl, hq9⟩ := hp
  rw [hq9] at hI
  rw [isI_inB (by decide) (by decide)]
  rw [hx1]
  refine W.eq (g2 := F0 m 8 ls [.int (bI true), .ref h0]) rfl ?_
  refine lv_if_eq (tgt := 32) hx hb dX8_kind_8 (by decide) (fun c_8 => ?_) (fun c_8 => ?_)
  · skip
    have c_8 : true = false := bI_0.mp c_8
    cases c_8
  · skip
    have c_8 : true = true := bI_1.mp c_8
    refine lv_iload_n hx hb dX8_kind_11 rfl (lv_at hl 2 rfl) ?_
    refine lv_iconst (v := nI 1) hx hb dX8_kind_12 (by decide) ?_
    refine lv_bipush (v := nI 24) hx hb dX8_kind_13 (by decide) ?_
    refine g_callS (As := [.int (nI b), .int (nI 1), .int (nI 24)]) (rest := [.ref h0]) (n := 3) S hE hI hA (c_X8_isIn l K _ (nI b) (nI 1) (nI 24)) gX8_kind_X8_isIn rfl (by decide +kernel) ⟨Nat.le_of_ble_eq_true rfl, Nat.le_of_ble_eq_true rfl⟩ rfl hl.1 rfl (Nat.le_of_ble_eq_true rfl) dX8_kind_15 ⟨Nat.le_of_ble_eq_true rfl, Nat.le_of_ble_eq_true rfl⟩ (fun E ce q9 Gx H1 locs1 hx9 => hx9.elim) (fun rv Gc_15 H locs hp hI => ?_)
    obtain ⟨rfl, hq9⟩ := hp
    rw [hq9] at hI
    rw [isI_inB (by decide) (by decide)]
    rw [hx2]
    refine W.eq (g2 := F0 m 18 ls [.int (bI true), .ref h0]) rfl ?_
    refine lv_if_eq (tgt := 32) hx hb dX8_kind_18 (by decide) (fun c_18 => ?_) (fun c_18 => ?_)
    · skip
      have c_18 : true = false := bI_0.mp c_18
      cases c_18
    · skip
      have c_18 : true = true := bI_1.mp c_18
      refine lv_iload_n hx hb dX8_kind_21 rfl (lv_at hl 3 rfl) ?_
      refine lv_iconst (v := nI 1) hx hb dX8_kind_22 (by decide) ?_
      refine lv_sipush (v := nI 999) hx hb dX8_kind_23 (by decide) ?_
      refine g_callS (As := [.int (nI q), .int (nI 1), .int (nI 999)]) (rest := [.ref h0]) (n := 3) S hE hI hA (c_X8_isIn l K _ (nI q) (nI 1) (nI 999)) gX8_kind_X8_isIn rfl (by decide +kernel) ⟨Nat.le_of_ble_eq_true rfl, Nat.le_of_ble_eq_true rfl⟩ rfl hl.1 rfl (Nat.le_of_ble_eq_true rfl) dX8_kind_26 ⟨Nat.le_of_ble_eq_true rfl, Nat.le_of_ble_eq_true rfl⟩ (fun E ce q9 Gx H1 locs1 hx9 => hx9.elim) (fun rv Gc_26 H locs hp hI => ?_)
      obtain ⟨rfl, hq9⟩ := hp
      rw [hq9] at hI
      rw [isI_inB (by decide) (by decide)]
      rw [hx3]
      refine W.eq (g2 := F0 m 29 ls [.int (bI true), .ref h0]) rfl ?_
      refine lv_if_ne (tgt := 36) hx hb dX8_kind_29 (by decide) (fun c_29 => ?_) (fun c_29 => ?_)
      · skip
        have c_29 : true = true := bI_1.mp c_29
        refine lv_iconst (v := nI 0) hx hb dX8_kind_36 (by decide) ?_
        refine lv_iconst (v := nI 1) hx hb dX8_kind_37 (by decide) ?_
        refine g_callV (As := [.int (nI 0), .int (nI 1)]) (rest := []) (b := h0) (n := 2) S hE hI hA (c_start l K _ L h0 th y N false 1 hM (by decide)) gX8_kind_X8_start rfl (by decide +kernel) ⟨Nat.le_of_ble_eq_true rfl, Nat.le_of_ble_eq_true rfl⟩ (g_hro hE hI hM.1 rfl) rfl hl.1 rfl (Nat.le_of_ble_eq_true rfl) dX8_kind_38 ⟨Nat.le_of_ble_eq_true rfl, Nat.le_of_ble_eq_true rfl⟩ (fun E ce q9 Gx H1 locs1 hx9 => hx9.elim) (fun rv Gc_38 H locs hp hI => ?_)
        obtain ⟨rfl, hM, hg9⟩ := hp
        have hag := hag.tr hg9
        have hM : MdC K L h0 0 Gc_38 y N := hM
        obtain ⟨m1, ar1, hl1⟩ := hM.2.1.2.1.obj
        obtain ⟨m2, ar2, hl2⟩ := hM.2.1.2.2.1.obj
        refine W.eq (g2 := F0 m 41 ls [.int (bI false)]) rfl ?_
        refine lv_if_ne (tgt := 72) hx hb dX8_kind_41 (by decide) (fun c_41 => ?_) (fun c_41 => ?_)
        · skip
          have c_41 : false = true := bI_1.mp c_41
          cases c_41
        · skip
          have c_41 : false = false := bI_0.mp c_41
          refine lv_aload_n hx hb dX8_kind_44 rfl (lv_at hl 0 rfl) ?_
          refine lv_aload_n hx hb dX8_kind_45 rfl (lv_at hl 0 rfl) ?_
          refine g_get S hE hI (C := RX8) (T := TX8) (N := 2) (ref := "StonecutterYardModel") (fun w h => (List.mem_cons_of_mem _ (List.mem_append_left _ (List.mem_append_left _ (List.mem_append_left _ (List.mem_append_right _ h)))))) hM.1 rfl 1 (by decide) (List.mem_cons_of_mem _ (List.mem_append_left _ (List.mem_append_left _ (List.mem_append_left _ (List.mem_append_left _ (List.mem_append_left _ (List.mem_of_getElem? (i := 0) rfl))))))) (fun _ h9 => h9) (v := .ref (L 30 0)) rfl dX8_kind_46 ?_
          refine g_get S hE hI (C := RX7) (T := TX7) (N := 3) (ref := "StonecutterYardModel$Yard") (fun w h => (List.mem_cons_of_mem _ (List.mem_append_left _ (List.mem_append_left _ (List.mem_append_right _ h))))) hM.2.1.1.1 rfl 1 (by decide) (List.mem_cons_of_mem _ (List.mem_append_left _ (List.mem_append_left _ (List.mem_append_left _ (List.mem_append_left _ (List.mem_append_left _ (List.mem_of_getElem? (i := 1) rfl))))))) (fun _ h9 => h9) (v := .ref (L 33 0)) rfl dX8_kind_49 ?_
          refine g_callV (As := []) (rest := [.ref h0]) (b := (L 33 0)) (n := 0) S hE hI hA (l_size l K _ (5, 33, 0) (tbL 5 34) (L 33 0) (yKc y) (L 38) hM.2.1.2.2.1) gX8_kind_Jx4a65c_size_8abf5 rfl (by decide +kernel) ⟨Nat.le_of_ble_eq_true rfl, Nat.le_of_ble_eq_true rfl⟩ (g_hro hE hI hl2 rfl) rfl hl.1 rfl (Nat.le_of_ble_eq_true rfl) dX8_kind_52 ⟨Nat.le_of_ble_eq_true rfl, Nat.le_of_ble_eq_true rfl⟩ (fun E ce q9 Gx H1 locs1 hx9 => hx9.elim) (fun rv Gc_52 H locs hp hI => ?_)
          obtain ⟨rfl, hq9⟩ := hp
          rw [hq9] at hI
          refine W.eq (g2 := F0 m 55 ls [.int (nI (yKc y)), .ref h0]) rfl ?_
          refine lv_bipush (v := nI 6) hx hb dX8_kind_55 (by decide) ?_
          refine lv_icmp_ne (tgt := 64) hx hb dX8_kind_57 (by decide) (fun c_57 => ?_) (fun c_57 => ?_)
          · skip
            have c_57 : (yKc y) ≠ 6 := fun z => c_57 ((nI_eq (a := (yKc y)) (b := 6) (by omega) (by omega)).mpr z)
            exact absurd (show yKc y = 6 by omega) c_57
          · skip
            have c_57 : (yKc y) = 6 := (nI_eq (a := (yKc y)) (b := 6) (by omega) (by omega)).mp c_57
            refine lv_iconst (v := nI 1) hx hb dX8_kind_60 (by decide) ?_
            refine lv_goto (tgt := 65) hx hb dX8_kind_61 (by decide) ?_
            refine lv_iconst (v := nI 2) hx hb dX8_kind_65 (by decide) ?_
            refine g_callV (As := [.int (nI 1), .int (nI 2)]) (rest := []) (b := h0) (n := 2) S hE hI hA (c_ref l K _ L h0 y N true 2 hM (by decide)) gX8_kind_X8_refuse rfl (by decide +kernel) ⟨Nat.le_of_ble_eq_true rfl, Nat.le_of_ble_eq_true rfl⟩ (g_hro hE hI hM.1 rfl) rfl hl.1 rfl (Nat.le_of_ble_eq_true rfl) dX8_kind_66 ⟨Nat.le_of_ble_eq_true rfl, Nat.le_of_ble_eq_true rfl⟩ (fun E ce q9 Gx H1 locs1 hx9 => hx9.elim) (fun rv Gc_66 H locs hp hI => ?_)
            obtain ⟨rfl, hM, hg9⟩ := hp
            have hag := hag.tr hg9
            have hM : MdC K L h0 2 Gc_66 y N := hM
            obtain ⟨m1, ar1, hl1⟩ := hM.2.1.2.1.obj
            obtain ⟨m2, ar2, hl2⟩ := hM.2.1.2.2.1.obj
            refine W.eq (g2 := F0 m 69 ls [.int (bI true)]) rfl ?_
            refine lv_if_eq (tgt := 74) hx hb dX8_kind_69 (by decide) (fun c_69 => ?_) (fun c_69 => ?_)
            · skip
              have c_69 : true = false := bI_0.mp c_69
              cases c_69
            · skip
              have c_69 : true = true := bI_1.mp c_69
              refine lv_iconst (v := nI 0) hx hb dX8_kind_72 (by decide) ?_
              exact g_iret S hI hr hlocks (Nat.zero_le _) (Nat.zero_le _) dX8_kind_73 (mThrow ho (by decide) hM hag)
      · skip
        have c_29 : true = false := bI_0.mp c_29
        cases c_29
set_option maxHeartbeats 4000000 in
set_option maxRecDepth 100000 in
/-- X8_kind: kindC -/
theorem m_kindC (l : Launch) (K : gK) (G : gW) (L : Nat → Nat → Nat) (h0 th : Nat) (y : YV) (N : Nat) (a b q : Nat) (hM : MdC K L h0 th G y N) (hb9 : (1 ≤ a ∧ a ≤ 24) ∧ (1 ≤ b ∧ b ≤ 24) ∧ 1 ≤ q ∧ q ≤ 999) (hroom : yKc y < 6) : gM l yX8_kind wsX8_kind 8 171 2 18 K [.ref h0, .int (nI a), .int (nI b), .int (nI q)] G (mPost K h0 G (oKind y (nI a) (nI b) (nI q))) (gNo) := by
  refine gM.of (cc := cX8_kind) (maxL := 4) (ret := (some .int)) (by decide) rfl (Nat.le_of_ble_eq_true rfl) ?_
  intro p e s m below meth c A S hr hlocks htab hname hE hA hI ls hl
  have hx := S.1
  have hb := S.2.1
  have hml := S.2.2.1
  have hl : lv_has ls 4 [(0, .ref h0), (1, .int (nI a)), (2, .int (nI b)), (3, .int (nI q))] := hl
  have h44 := hM.2.1.1.2.2.1
  have h6 := hM.2.1.1.2.2.2
  have hf2 := hM.2.1.1.2.1
  have h40 := hM.2.2.2
  have hth := hM.2.2.1
  have hag : AgM G G := AgM.rf
  obtain ⟨⟨b1, b2⟩, ⟨b3, b4⟩, b5, b6⟩ := hb9
  obtain ⟨m1, ar1, hl1⟩ := hM.2.1.2.1.obj
  obtain ⟨m2, ar2, hl2⟩ := hM.2.1.2.2.1.obj
  have hx1 : inB (nI a) 1 24 = true := by rw [inB_nI (by omega)]; exact decide_eq_true (by omega)
  have hx2 : inB (nI b) 1 24 = true := by rw [inB_nI (by omega)]; exact decide_eq_true (by omega)
  have hx3 : inB (nI q) 1 999 = true := by rw [inB_nI (by omega)]; exact decide_eq_true (by omega)
  have ho : oKind y (nI a) (nI b) (nI q) = (0, nI (yKc y), yAddK y (a, b, 0, 0, q, 0, 0, 0)) := by unfold oKind; rw [hx1, hx2, hx3, iN_nI (by omega), iN_nI (by omega), iN_nI (by omega)]; exact if_pos hroom
  obtain ⟨H, hHe⟩ : ∃ z, z = s.heap := ⟨_, rfl⟩
  obtain ⟨locs, hLe⟩ : ∃ z : List Loc, z = [] := ⟨_, rfl⟩
  rw [← hHe, ← hLe]
  have hI : gI K A s G H locs := by rw [hHe, hLe]; exact hI
  clear hHe hLe
  refine lv_aload_n hx hb dX8_kind_0 rfl (lv_at hl 0 rfl) ?_
  refine lv_iload_n hx hb dX8_kind_1 rfl (lv_at hl 1 rfl) ?_
  refine lv_iconst (v := nI 1) hx hb dX8_kind_2 (by decide) ?_
  refine lv_bipush (v := nI 24) hx hb dX8_kind_3 (by decide) ?_
  refine g_callS (As := [.int (nI a), .int (nI 1), .int (nI 24)]) (rest := [.ref h0]) (n := 3) S hE hI hA (c_X8_isIn l K _ (nI a) (nI 1) (nI 24)) gX8_kind_X8_isIn rfl (by decide +kernel) ⟨Nat.le_of_ble_eq_true rfl, Nat.le_of_ble_eq_true rfl⟩ rfl hl.1 rfl (Nat.le_of_ble_eq_true rfl) dX8_kind_5 ⟨Nat.le_of_ble_eq_true rfl, Nat.le_of_ble_eq_true rfl⟩ (fun E ce q9 Gx H1 locs1 hx9 => hx9.elim) (fun rv Gc_5 H locs hp hI => ?_)
  obtain ⟨rfl, hq9⟩ := hp
  rw [hq9] at hI
  rw [isI_inB (by decide) (by decide)]
  rw [hx1]
  refine W.eq (g2 := F0 m 8 ls [.int (bI true), .ref h0]) rfl ?_
  refine lv_if_eq (tgt := 32) hx hb dX8_kind_8 (by decide) (fun c_8 => ?_) (fun c_8 => ?_)
  · skip
    have c_8 : true = false := bI_0.mp c_8
    cases c_8
  · skip
    have c_8 : true = true := bI_1.mp c_8
    refine lv_iload_n hx hb dX8_kind_11 rfl (lv_at hl 2 rfl) ?_
    refine lv_iconst (v := nI 1) hx hb dX8_kind_12 (by decide) ?_
    refine lv_bipush (v := nI 24) hx hb dX8_kind_13 (by decide) ?_
    refine g_callS (As := [.int (nI b), .int (nI 1), .int (nI 24)]) (rest := [.ref h0]) (n := 3) S hE hI hA (c_X8_isIn l K _ (nI b) (nI 1) (nI 24)) gX8_kind_X8_isIn rfl (by decide +kernel) ⟨Nat.le_of_ble_eq_true rfl, Nat.le_of_ble_eq_true rfl⟩ rfl hl.1 rfl (Nat.le_of_ble_eq_true rfl) dX8_kind_15 ⟨Nat.le_of_ble_eq_true rfl, Nat.le_of_ble_eq_true rfl⟩ (fun E ce q9 Gx H1 locs1 hx9 => hx9.elim) (fun rv Gc_15 H locs hp hI => ?_)
    obtain ⟨rfl, hq9⟩ := hp
    rw [hq9] at hI
    rw [isI_inB (by decide) (by decide)]
    rw [hx2]
    refine W.eq (g2 := F0 m 18 ls [.int (bI true), .ref h0]) rfl ?_
    refine lv_if_eq (tgt := 32) hx hb dX8_kind_18 (by decide) (fun c_18 => ?_) (fun c_18 => ?_)
    · skip
      have c_18 : true = false := bI_0.mp c_18
      cases c_18
    · skip
      have c_18 : true = true := bI_1.mp c_18
      refine lv_iload_n hx hb dX8_kind_21 rfl (lv_at hl 3 rfl) ?_
      refine lv_iconst (v := nI 1) hx hb dX8_kind_22 (by decide) ?_
      refine lv_sipush (v := nI 999) hx hb dX8_kind_23 (by decide) ?_
      refine g_callS (As := [.int (nI q), .int (nI 1), .int (nI 999)]) (rest := [.ref h0]) (n := 3) S hE hI hA (c_X8_isIn l K _ (nI q) (nI 1) (nI 999)) gX8_kind_X8_isIn rfl (by decide +kernel) ⟨Nat.le_of_ble_eq_true rfl, Nat.le_of_ble_eq_true rfl⟩ rfl hl.1 rfl (Nat.le_of_ble_eq_true rfl) dX8_kind_26 ⟨Nat.le_of_ble_eq_true rfl, Nat.le_of_ble_eq_true rfl⟩ (fun E ce q9 Gx H1 locs1 hx9 => hx9.elim) (fun rv Gc_26 H locs hp hI => ?_)
      obtain ⟨rfl, hq9⟩ := hp
      rw [hq9] at hI
      rw [isI_inB (by decide) (by decide)]
      rw [hx3]
      refine W.eq (g2 := F0 m 29 ls [.int (bI true), .ref h0]) rfl ?_
      refine lv_if_ne (tgt := 36) hx hb dX8_kind_29 (by decide) (fun c_29 => ?_) (fun c_29 => ?_)
      · skip
        have c_29 : true = true := bI_1.mp c_29
        refine lv_iconst (v := nI 0) hx hb dX8_kind_36 (by decide) ?_
        refine lv_iconst (v := nI 1) hx hb dX8_kind_37 (by decide) ?_
        refine g_callV (As := [.int (nI 0), .int (nI 1)]) (rest := []) (b := h0) (n := 2) S hE hI hA (c_start l K _ L h0 th y N false 1 hM (by decide)) gX8_kind_X8_start rfl (by decide +kernel) ⟨Nat.le_of_ble_eq_true rfl, Nat.le_of_ble_eq_true rfl⟩ (g_hro hE hI hM.1 rfl) rfl hl.1 rfl (Nat.le_of_ble_eq_true rfl) dX8_kind_38 ⟨Nat.le_of_ble_eq_true rfl, Nat.le_of_ble_eq_true rfl⟩ (fun E ce q9 Gx H1 locs1 hx9 => hx9.elim) (fun rv Gc_38 H locs hp hI => ?_)
        obtain ⟨rfl, hM, hg9⟩ := hp
        have hag := hag.tr hg9
        have hM : MdC K L h0 0 Gc_38 y N := hM
        obtain ⟨m1, ar1, hl1⟩ := hM.2.1.2.1.obj
        obtain ⟨m2, ar2, hl2⟩ := hM.2.1.2.2.1.obj
        refine W.eq (g2 := F0 m 41 ls [.int (bI false)]) rfl ?_
        refine lv_if_ne (tgt := 72) hx hb dX8_kind_41 (by decide) (fun c_41 => ?_) (fun c_41 => ?_)
        · skip
          have c_41 : false = true := bI_1.mp c_41
          cases c_41
        · skip
          have c_41 : false = false := bI_0.mp c_41
          refine lv_aload_n hx hb dX8_kind_44 rfl (lv_at hl 0 rfl) ?_
          refine lv_aload_n hx hb dX8_kind_45 rfl (lv_at hl 0 rfl) ?_
          refine g_get S hE hI (C := RX8) (T := TX8) (N := 2) (ref := "StonecutterYardModel") (fun w h => (List.mem_cons_of_mem _ (List.mem_append_left _ (List.mem_append_left _ (List.mem_append_left _ (List.mem_append_right _ h)))))) hM.1 rfl 1 (by decide) (List.mem_cons_of_mem _ (List.mem_append_left _ (List.mem_append_left _ (List.mem_append_left _ (List.mem_append_left _ (List.mem_append_left _ (List.mem_of_getElem? (i := 0) rfl))))))) (fun _ h9 => h9) (v := .ref (L 30 0)) rfl dX8_kind_46 ?_
          refine g_get S hE hI (C := RX7) (T := TX7) (N := 3) (ref := "StonecutterYardModel$Yard") (fun w h => (List.mem_cons_of_mem _ (List.mem_append_left _ (List.mem_append_left _ (List.mem_append_right _ h))))) hM.2.1.1.1 rfl 1 (by decide) (List.mem_cons_of_mem _ (List.mem_append_left _ (List.mem_append_left _ (List.mem_append_left _ (List.mem_append_left _ (List.mem_append_left _ (List.mem_of_getElem? (i := 1) rfl))))))) (fun _ h9 => h9) (v := .ref (L 33 0)) rfl dX8_kind_49 ?_
          refine g_callV (As := []) (rest := [.ref h0]) (b := (L 33 0)) (n := 0) S hE hI hA (l_size l K _ (5, 33, 0) (tbL 5 34) (L 33 0) (yKc y) (L 38) hM.2.1.2.2.1) gX8_kind_Jx4a65c_size_8abf5 rfl (by decide +kernel) ⟨Nat.le_of_ble_eq_true rfl, Nat.le_of_ble_eq_true rfl⟩ (g_hro hE hI hl2 rfl) rfl hl.1 rfl (Nat.le_of_ble_eq_true rfl) dX8_kind_52 ⟨Nat.le_of_ble_eq_true rfl, Nat.le_of_ble_eq_true rfl⟩ (fun E ce q9 Gx H1 locs1 hx9 => hx9.elim) (fun rv Gc_52 H locs hp hI => ?_)
          obtain ⟨rfl, hq9⟩ := hp
          rw [hq9] at hI
          refine W.eq (g2 := F0 m 55 ls [.int (nI (yKc y)), .ref h0]) rfl ?_
          refine lv_bipush (v := nI 6) hx hb dX8_kind_55 (by decide) ?_
          refine lv_icmp_ne (tgt := 64) hx hb dX8_kind_57 (by decide) (fun c_57 => ?_) (fun c_57 => ?_)
          · skip
            have c_57 : (yKc y) ≠ 6 := fun z => c_57 ((nI_eq (a := (yKc y)) (b := 6) (by omega) (by omega)).mpr z)
            refine lv_iconst (v := nI 0) hx hb dX8_kind_64 (by decide) ?_
            refine lv_iconst (v := nI 2) hx hb dX8_kind_65 (by decide) ?_
            refine g_callV (As := [.int (nI 0), .int (nI 2)]) (rest := []) (b := h0) (n := 2) S hE hI hA (c_ref l K _ L h0 y N false 2 hM (by decide)) gX8_kind_X8_refuse rfl (by decide +kernel) ⟨Nat.le_of_ble_eq_true rfl, Nat.le_of_ble_eq_true rfl⟩ (g_hro hE hI hM.1 rfl) rfl hl.1 rfl (Nat.le_of_ble_eq_true rfl) dX8_kind_66 ⟨Nat.le_of_ble_eq_true rfl, Nat.le_of_ble_eq_true rfl⟩ (fun E ce q9 Gx H1 locs1 hx9 => hx9.elim) (fun rv Gc_66 H locs hp hI => ?_)
            obtain ⟨rfl, hM, hg9⟩ := hp
            have hag := hag.tr hg9
            have hM : MdC K L h0 0 Gc_66 y N := hM
            obtain ⟨m1, ar1, hl1⟩ := hM.2.1.2.1.obj
            obtain ⟨m2, ar2, hl2⟩ := hM.2.1.2.2.1.obj
            refine W.eq (g2 := F0 m 69 ls [.int (bI false)]) rfl ?_
            refine lv_if_eq (tgt := 74) hx hb dX8_kind_69 (by decide) (fun c_69 => ?_) (fun c_69 => ?_)
            · skip
              have c_69 : false = false := bI_0.mp c_69
              refine lv_aload_n hx hb dX8_kind_74 rfl (lv_at hl 0 rfl) ?_
              refine g_get S hE hI (C := RX8) (T := TX8) (N := 2) (ref := "StonecutterYardModel") (fun w h => (List.mem_cons_of_mem _ (List.mem_append_left _ (List.mem_append_left _ (List.mem_append_left _ (List.mem_append_right _ h)))))) hM.1 rfl 1 (by decide) (List.mem_cons_of_mem _ (List.mem_append_left _ (List.mem_append_left _ (List.mem_append_left _ (List.mem_append_left _ (List.mem_append_left _ (List.mem_of_getElem? (i := 0) rfl))))))) (fun _ h9 => h9) (v := .ref (L 30 0)) rfl dX8_kind_75 ?_
              refine g_get S hE hI (C := RX7) (T := TX7) (N := 3) (ref := "StonecutterYardModel$Yard") (fun w h => (List.mem_cons_of_mem _ (List.mem_append_left _ (List.mem_append_left _ (List.mem_append_right _ h))))) hM.2.1.1.1 rfl 1 (by decide) (List.mem_cons_of_mem _ (List.mem_append_left _ (List.mem_append_left _ (List.mem_append_left _ (List.mem_append_left _ (List.mem_append_left _ (List.mem_of_getElem? (i := 1) rfl))))))) (fun _ h9 => h9) (v := .ref (L 33 0)) rfl dX8_kind_78 ?_
              refine g_new S hE hI hA (C := RX5) (T := TX5) (N := 8) (ci := 6) (fun w h => (List.mem_cons_of_mem _ (List.mem_append_left _ (List.mem_append_right _ h)))) tyX5 tyX5_ok (List.mem_cons_of_mem _ (List.mem_append_left _ (List.mem_append_left _ (List.mem_append_left _ (List.mem_append_left _ (List.mem_append_left _ (List.mem_of_getElem? (i := 2) rfl))))))) (List.mem_cons_of_mem _ (List.mem_append_left _ (List.mem_append_left _ (List.mem_append_left _ (List.mem_append_left _ (List.mem_append_left _ (List.mem_of_getElem? (i := 3) rfl))))))) (List.mem_cons_of_mem _ (List.mem_append_left _ (List.mem_append_left _ (List.mem_append_left _ (List.mem_append_left _ (List.mem_append_left _ (List.mem_of_getElem? (i := 4) rfl))))))) rfl (fs := [.int (nI 0), .int (nI 0), .int (nI 0), .int (nI 0), .int (nI 0), .int (nI 0), .int (nI 0), .int (nI 0)]) (fun j hj => by rcases (show j = 0 ∨ j = 1 ∨ j = 2 ∨ j = 3 ∨ j = 4 ∨ j = 5 ∨ j = 6 ∨ j = 7 by omega) with rfl | rfl | rfl | rfl | rfl | rfl | rfl | rfl <;> rfl) (5, 38, yKc y) (by show _ ≤ 2; omega) (by show _ ≤ 18; omega) dX8_kind_81 (fun q_81 H hq_81 hI => ?_)
              obtain ⟨G_1, hG_1⟩ : ∃ z, z = gset Gc_66 (5, 38, yKc y) q_81 (.inr (6, [.int (nI 0), .int (nI 0), .int (nI 0), .int (nI 0), .int (nI 0), .int (nI 0), .int (nI 0), .int (nI 0)])) := ⟨_, rfl⟩
              have hI : gI K A s G_1 H locs := by rw [hG_1]; exact hI
              have o_G_1 : G_1 (9, 0, 0) = some (h0, .inr (9, [.int (nI 0), .ref (L 30 0)])) := by rw [hG_1, gset_ne (by simp)]; exact hM.1
              have yd_G_1 : G_1 (5, 30, 0) = some ((L 30 0), .inr (8, [.ref (L 31 0), .ref (L 33 0), .int (nI (yF y))])) := by rw [hG_1, gset_ne (by simp)]; exact hM.2.1.1.1
              have ls_G_1 : G_1 (5, 31, 0) = some ((L 31 0), .inr (0, [.int m1, .ref ar1, .int (nI (ySc y))])) := by rw [hG_1, gset_ne (by simp)]; exact hl1
              have lk_G_1 : G_1 (5, 33, 0) = some ((L 33 0), .inr (0, [.int m2, .ref ar2, .int (nI (yKc y))])) := by rw [hG_1, gset_ne (by simp)]; exact hl2
              have v5_G_1 : G_1 (5, 38, yKc y) = some (q_81, .inr (6, [.int (nI 0), .int (nI 0), .int (nI 0), .int (nI 0), .int (nI 0), .int (nI 0), .int (nI 0), .int (nI 0)])) := by rw [hG_1]; exact gset_eq _ _ _ _
              refine lv_dup hx hb dX8_kind_84 rfl ?_
              refine lv_iload_n hx hb dX8_kind_85 rfl (lv_at hl 1 rfl) ?_
              refine lv_iload_n hx hb dX8_kind_86 rfl (lv_at hl 2 rfl) ?_
              refine lv_iload_n hx hb dX8_kind_87 rfl (lv_at hl 3 rfl) ?_
              refine g_callI (As := [.int (nI a), .int (nI b), .int (nI q)]) (rest := [.ref q_81, .ref (L 33 0)]) (b := q_81) (n := 3) S hE hI hA (c_X5_init l K _ (5, 38, yKc y) q_81 a b q v5_G_1) gX8_kind_X5_init rfl (List.mem_cons_of_mem _ (List.mem_append_left _ (List.mem_append_left _ (List.mem_append_left _ (List.mem_append_left _ (List.mem_append_left _ (List.mem_of_getElem? (i := 4) rfl))))))) (List.mem_cons_of_mem _ (List.mem_append_left _ (List.mem_append_left _ (List.mem_append_left _ (List.mem_append_left _ (List.mem_append_right _ (List.mem_append_left _ (List.mem_of_getElem? (i := 0) rfl)))))))) (List.mem_cons_of_mem _ (List.mem_append_left _ (List.mem_append_left _ (List.mem_append_left _ (List.mem_append_left _ (List.mem_append_right _ (List.mem_append_left _ (List.mem_of_getElem? (i := 1) rfl)))))))) rfl (by decide +kernel) ⟨Nat.le_of_ble_eq_true rfl, Nat.le_of_ble_eq_true rfl⟩ rfl hl.1 rfl (Nat.le_of_ble_eq_true rfl) dX8_kind_88 ⟨by show _ ≤ 2; omega, by show _ ≤ 18; omega⟩ (fun E ce q9 Gx H1 locs1 hx9 => hx9.elim) (fun rv Gc_88 H locs hp hI => ?_)
              obtain ⟨rfl, hGc88⟩ := hp
              have hw : ∀ v : gTag, v ≠ (5, 38, yKc y) → Gc_88 v = Gc_66 v := fun v h1 => by rw [hGc88, gset_ne h1, hG_1, gset_ne h1]
              have hq8 : Gc_88 (5, 38, yKc y) = some (q_81, cMK (a, b, 0, 0, q, 0, 0, 0)) := by rw [hGc88]; exact gset_eq _ _ _ _
              have hALw : ALg K (5, 33, 0) (tbL 5 34) Gc_88 (L 33 0) (yKc y) (L 38) := hM.2.1.2.2.1.moved (hw _ (by simp)) (fun b => hw _ (by unfold tbL; simp))
              have hlk88 := (hw (5, 33, 0) (by simp)).trans hl2
              refine W.eq (g2 := F0 m 91 ls [.ref q_81, .ref (L 33 0)]) rfl ?_
              refine g_callV (As := [.ref q_81]) (rest := []) (b := (L 33 0)) (n := 1) S hE hI hA (l_addS l K _ (5, 33, 0) (tbL 5 34) (L 33 0) (yKc y) (L 38) "StonecutterYardModel$Kind" q_81 (5, 38, yKc y) _ hALw (apL3 5) (by omega) hq8 isC_K (by simp) (ne38L (by decide))) gX8_kind_Jx4a65c_add_9ea2d rfl (by decide +kernel) ⟨Nat.le_of_ble_eq_true rfl, Nat.le_of_ble_eq_true rfl⟩ (g_hro hE hI hlk88 rfl) rfl hl.1 rfl (Nat.le_of_ble_eq_true rfl) dX8_kind_91 ⟨by show _ ≤ 2; omega, by show _ ≤ 18; omega⟩ (fun E ce q9 Gx H1 locs1 hx9 => hx9.elim) (fun rv Gc_91 H locs hp hI => ?_)
              obtain ⟨rfl, hALa, hoa⟩ := hp
              obtain ⟨mA, arA, hls9⟩ := hALa.obj
              have ho9 := (hoa (9, 0, 0) (by simp) (fun b => by unfold tbL; simp)).trans ((hw _ (by simp)).trans hM.1)
              have hy9 := (hoa (5, 30, 0) (by simp) (fun b => by unfold tbL; simp)).trans ((hw _ (by simp)).trans hM.2.1.1.1)
              refine W.eq (g2 := F0 m 94 ls [.int (nI 1)]) rfl ?_
              refine lv_pop hx hb dX8_kind_94 rfl ?_
              refine lv_aload_n hx hb dX8_kind_95 rfl (lv_at hl 0 rfl) ?_
              refine g_get S hE hI (C := RX8) (T := TX8) (N := 2) (ref := "StonecutterYardModel") (fun w h => (List.mem_cons_of_mem _ (List.mem_append_left _ (List.mem_append_left _ (List.mem_append_left _ (List.mem_append_right _ h)))))) ho9 rfl 1 (by decide) (List.mem_cons_of_mem _ (List.mem_append_left _ (List.mem_append_left _ (List.mem_append_left _ (List.mem_append_left _ (List.mem_append_left _ (List.mem_of_getElem? (i := 0) rfl))))))) (fun _ h9 => h9) (v := .ref (L 30 0)) rfl dX8_kind_96 ?_
              refine g_get S hE hI (C := RX7) (T := TX7) (N := 3) (ref := "StonecutterYardModel$Yard") (fun w h => (List.mem_cons_of_mem _ (List.mem_append_left _ (List.mem_append_left _ (List.mem_append_right _ h))))) hy9 rfl 1 (by decide) (List.mem_cons_of_mem _ (List.mem_append_left _ (List.mem_append_left _ (List.mem_append_left _ (List.mem_append_left _ (List.mem_append_left _ (List.mem_of_getElem? (i := 1) rfl))))))) (fun _ h9 => h9) (v := .ref (L 33 0)) rfl dX8_kind_99 ?_
              refine g_callV (As := []) (rest := []) (b := (L 33 0)) (n := 0) S hE hI hA (l_size l K _ (5, 33, 0) (tbL 5 34) (L 33 0) (yKc y + 1) (fU (L 38) (yKc y) q_81) hALa) gX8_kind_Jx4a65c_size_8abf5 rfl (by decide +kernel) ⟨Nat.le_of_ble_eq_true rfl, Nat.le_of_ble_eq_true rfl⟩ (g_hro hE hI hls9 rfl) rfl hl.1 rfl (Nat.le_of_ble_eq_true rfl) dX8_kind_102 ⟨by show _ ≤ 2; omega, by show _ ≤ 18; omega⟩ (fun E ce q9 Gx H1 locs1 hx9 => hx9.elim) (fun rv Gc_102 H locs hp hI => ?_)
              obtain ⟨rfl, hq9⟩ := hp
              rw [hq9] at hI
              refine W.eq (g2 := F0 m 105 ls [.int (nI (yKc y + 1))]) rfl ?_
              refine lv_iconst (v := nI 1) hx hb dX8_kind_105 (by decide) ?_
              refine t_isub hx hb dX8_kind_106 (v := nI (yKc y)) (pk_sub (a := yKc y + 1) (b := 1) (by omega)) ?_
              obtain ⟨L2, hL2⟩ : ∃ z : Nat → Nat → Nat, z = (fun a b => if a = 38 ∧ b = yKc y then q_81 else L a b) := ⟨_, rfl⟩
              have hl30 : L2 30 0 = L 30 0 := by rw [hL2]; simp
              have hMY : MY K 5 L2 Gc_91 (yAddK y (a, b, 0, 0, q, 0, 0, 0)) N := MY.addK hM.2.1 (by decide) (by omega) ⟨b1, b2, b3, b4, Nat.zero_le _, Nat.zero_le _, b5, b6, Nat.zero_le _⟩ hL2 (fun v c1 c2 c3 => (hoa v c1 c2).trans (hw v c3)) hALa ((hoa _ (by simp) (ne38L (by decide))).trans hq8)
              exact g_iret S hI hr hlocks (by omega) (by omega) dX8_kind_107 (mOk ho ⟨by rw [hl30]; exact ho9, hMY, by decide, h40⟩ (hag.tr (fun t ht => (hoa t (fun z9 => (agOff ht).1 (by rw [z9])) (fun b z9 => (agOff ht).1 (by rw [z9]; rfl))).trans (hw t (fun z9 => (agOff ht).1 (by rw [z9]))))))
            · skip
              have c_69 : false = true := bI_1.mp c_69
              cases c_69
          · skip
            have c_57 : (yKc y) = 6 := (nI_eq (a := (yKc y)) (b := 6) (by omega) (by omega)).mp c_57
            exact absurd c_57 (by omega)
      · skip
        have c_29 : true = false := bI_0.mp c_29
        cases c_29
set_option maxHeartbeats 4000000 in
set_option maxRecDepth 100000 in
/-- X8_let: letA -/
theorem m_letA (l : Launch) (K : gK) (G : gW) (L : Nat → Nat → Nat) (h0 th : Nat) (y : YV) (N : Nat) (x w q : Int32) (hM : MdC K L h0 th G y N) (hxn : ∀ q, q < yKc y → x ≠ nI q) (hr9 : inR x (yKc y) = false) : gM l yX8_let wsX8_let 5 105 0 0 K [.ref h0, .int x, .int w, .int q] G (mPost K h0 G (oLet y x w q)) (gNo) := by
  refine gM.of (cc := cX8_let) (maxL := 6) (ret := (some .int)) (by decide) rfl (Nat.le_of_ble_eq_true rfl) ?_
  intro p e s m below meth c A S hr hlocks htab hname hE hA hI ls hl
  have hx := S.1
  have hb := S.2.1
  have hml := S.2.2.1
  have hl : lv_has ls 6 [(0, .ref h0), (1, .int x), (2, .int w), (3, .int q)] := hl
  have h44 := hM.2.1.1.2.2.1
  have h6 := hM.2.1.1.2.2.2
  have hf2 := hM.2.1.1.2.1
  have h40 := hM.2.2.2
  have hth := hM.2.2.1
  have hag : AgM G G := AgM.rf
  obtain ⟨m1, ar1, hl1⟩ := hM.2.1.2.1.obj
  obtain ⟨m2, ar2, hl2⟩ := hM.2.1.2.2.1.obj
  have ho : oLet y x w q = (1, 0, y) := by unfold oLet; rw [if_neg (by rw [hr9]; decide)]
  obtain ⟨H, hHe⟩ : ∃ z, z = s.heap := ⟨_, rfl⟩
  obtain ⟨locs, hLe⟩ : ∃ z : List Loc, z = [] := ⟨_, rfl⟩
  rw [← hHe, ← hLe]
  have hI : gI K A s G H locs := by rw [hHe, hLe]; exact hI
  clear hHe hLe
  refine lv_aload_n hx hb dX8_let_0 rfl (lv_at hl 0 rfl) ?_
  refine lv_iload_n hx hb dX8_let_1 rfl (lv_at hl 1 rfl) ?_
  refine g_callV (As := [.int x]) (rest := []) (b := h0) (n := 1) S hE hI hA (c_X8_isNoKind l K _ L h0 th y N x hM) gX8_let_X8_isNoKind rfl (by decide +kernel) ⟨Nat.le_of_ble_eq_true rfl, Nat.le_of_ble_eq_true rfl⟩ (g_hro hE hI hM.1 rfl) rfl hl.1 rfl (Nat.le_of_ble_eq_true rfl) dX8_let_2 ⟨Nat.le_of_ble_eq_true rfl, Nat.le_of_ble_eq_true rfl⟩ (fun E ce q9 Gx H1 locs1 hx9 => hx9.elim) (fun rv Gc_2 H locs hp hI => ?_)
  obtain ⟨rfl, hM, hg9⟩ := hp
  have hag := hag.tr hg9
  rw [hr9]
  rw [hr9] at hM
  have hM : MdC K L h0 1 Gc_2 y N := hM
  obtain ⟨m1, ar1, hl1⟩ := hM.2.1.2.1.obj
  obtain ⟨m2, ar2, hl2⟩ := hM.2.1.2.2.1.obj
  refine W.eq (g2 := F0 m 5 ls [.int (bI true)]) rfl ?_
  refine lv_if_ne (tgt := 39) hx hb dX8_let_5 (by decide) (fun c_5 => ?_) (fun c_5 => ?_)
  · skip
    have c_5 : true = true := bI_1.mp c_5
    refine lv_iconst (v := nI 0) hx hb dX8_let_39 (by decide) ?_
    exact g_iret S hI hr hlocks (Nat.zero_le _) (Nat.zero_le _) dX8_let_40 (mThrow ho (by decide) hM hag)
  · skip
    have c_5 : true = false := bI_0.mp c_5
    cases c_5
set_option maxHeartbeats 4000000 in
set_option maxRecDepth 100000 in
/-- X8_let: letB -/
theorem m_letB (l : Launch) (K : gK) (G : gW) (L : Nat → Nat → Nat) (h0 th : Nat) (y : YV) (N : Nat) (i : Nat) (w q : Int32) (hM : MdC K L h0 th G y N) (hi : i < yKc y) (hb9 : (inB w 0 2 && inB q 0 3) = false) : gM l yX8_let wsX8_let 5 105 0 0 K [.ref h0, .int (nI i), .int w, .int q] G (mPost K h0 G (oLet y (nI i) w q)) (gNo) := by
  refine gM.of (cc := cX8_let) (maxL := 6) (ret := (some .int)) (by decide) rfl (Nat.le_of_ble_eq_true rfl) ?_
  intro p e s m below meth c A S hr hlocks htab hname hE hA hI ls hl
  have hx := S.1
  have hb := S.2.1
  have hml := S.2.2.1
  have hl : lv_has ls 6 [(0, .ref h0), (1, .int (nI i)), (2, .int w), (3, .int q)] := hl
  have h44 := hM.2.1.1.2.2.1
  have h6 := hM.2.1.1.2.2.2
  have hf2 := hM.2.1.1.2.1
  have h40 := hM.2.2.2
  have hth := hM.2.2.1
  have hag : AgM G G := AgM.rf
  have hri : inR (nI i) (yKc y) = true := inR_nI hi (by omega)
  have hiN : iN (nI i) = i := iN_nI (by omega)
  obtain ⟨m1, ar1, hl1⟩ := hM.2.1.2.1.obj
  obtain ⟨m2, ar2, hl2⟩ := hM.2.1.2.2.1.obj
  obtain ⟨hkd, hkok⟩ := hM.2.1.2.2.2.2 i hi
  obtain ⟨k1, k2, k3, k4, k5, k6, k7, k8, k9⟩ := id hkok
  have ho : oLet y (nI i) w q = (2, 0, y) := by unfold oLet; rw [if_pos hri, if_neg (by rw [hb9]; decide)]
  obtain ⟨H, hHe⟩ : ∃ z, z = s.heap := ⟨_, rfl⟩
  obtain ⟨locs, hLe⟩ : ∃ z : List Loc, z = [] := ⟨_, rfl⟩
  rw [← hHe, ← hLe]
  have hI : gI K A s G H locs := by rw [hHe, hLe]; exact hI
  clear hHe hLe
  refine lv_aload_n hx hb dX8_let_0 rfl (lv_at hl 0 rfl) ?_
  refine lv_iload_n hx hb dX8_let_1 rfl (lv_at hl 1 rfl) ?_
  refine g_callV (As := [.int (nI i)]) (rest := []) (b := h0) (n := 1) S hE hI hA (c_X8_isNoKind l K _ L h0 th y N (nI i) hM) gX8_let_X8_isNoKind rfl (by decide +kernel) ⟨Nat.le_of_ble_eq_true rfl, Nat.le_of_ble_eq_true rfl⟩ (g_hro hE hI hM.1 rfl) rfl hl.1 rfl (Nat.le_of_ble_eq_true rfl) dX8_let_2 ⟨Nat.le_of_ble_eq_true rfl, Nat.le_of_ble_eq_true rfl⟩ (fun E ce q9 Gx H1 locs1 hx9 => hx9.elim) (fun rv Gc_2 H locs hp hI => ?_)
  obtain ⟨rfl, hM, hg9⟩ := hp
  have hag := hag.tr hg9
  rw [hri]
  rw [hri] at hM
  have hM : MdC K L h0 0 Gc_2 y N := hM
  obtain ⟨m1, ar1, hl1⟩ := hM.2.1.2.1.obj
  obtain ⟨m2, ar2, hl2⟩ := hM.2.1.2.2.1.obj
  obtain ⟨hkd, hkok⟩ := hM.2.1.2.2.2.2 i hi
  obtain ⟨k1, k2, k3, k4, k5, k6, k7, k8, k9⟩ := id hkok
  refine W.eq (g2 := F0 m 5 ls [.int (bI false)]) rfl ?_
  refine lv_if_ne (tgt := 39) hx hb dX8_let_5 (by decide) (fun c_5 => ?_) (fun c_5 => ?_)
  · skip
    have c_5 : false = true := bI_1.mp c_5
    cases c_5
  · skip
    have c_5 : false = false := bI_0.mp c_5
    refine lv_aload_n hx hb dX8_let_8 rfl (lv_at hl 0 rfl) ?_
    refine lv_iload_n hx hb dX8_let_9 rfl (lv_at hl 2 rfl) ?_
    refine lv_iconst (v := nI 0) hx hb dX8_let_10 (by decide) ?_
    refine lv_iconst (v := nI 2) hx hb dX8_let_11 (by decide) ?_
    refine g_callS (As := [.int w, .int (nI 0), .int (nI 2)]) (rest := [.ref h0]) (n := 3) S hE hI hA (c_X8_isIn l K _ w (nI 0) (nI 2)) gX8_let_X8_isIn rfl (by decide +kernel) ⟨Nat.le_of_ble_eq_true rfl, Nat.le_of_ble_eq_true rfl⟩ rfl hl.1 rfl (Nat.le_of_ble_eq_true rfl) dX8_let_12 ⟨Nat.le_of_ble_eq_true rfl, Nat.le_of_ble_eq_true rfl⟩ (fun E ce q9 Gx H1 locs1 hx9 => hx9.elim) (fun rv Gc_12 H locs hp hI => ?_)
    obtain ⟨rfl, hq9⟩ := hp
    rw [hq9] at hI
    rw [isI_inB (by decide) (by decide)]
    refine W.eq (g2 := F0 m 15 ls [.int (bI (inB w 0 2)), .ref h0]) rfl ?_
    refine lv_if_eq (tgt := 27) hx hb dX8_let_15 (by decide) (fun c_15 => ?_) (fun c_15 => ?_)
    · skip
      have c_15 : (inB w 0 2) = false := bI_0.mp c_15
      refine lv_iconst (v := nI 1) hx hb dX8_let_27 (by decide) ?_
      refine lv_goto (tgt := 32) hx hb dX8_let_28 (by decide) ?_
      refine lv_iconst (v := nI 2) hx hb dX8_let_32 (by decide) ?_
      refine g_callV (As := [.int (nI 1), .int (nI 2)]) (rest := []) (b := h0) (n := 2) S hE hI hA (c_ref l K _ L h0 y N true 2 hM (by decide)) gX8_let_X8_refuse rfl (by decide +kernel) ⟨Nat.le_of_ble_eq_true rfl, Nat.le_of_ble_eq_true rfl⟩ (g_hro hE hI hM.1 rfl) rfl hl.1 rfl (Nat.le_of_ble_eq_true rfl) dX8_let_33 ⟨Nat.le_of_ble_eq_true rfl, Nat.le_of_ble_eq_true rfl⟩ (fun E ce q9 Gx H1 locs1 hx9 => hx9.elim) (fun rv Gc_33 H locs hp hI => ?_)
      obtain ⟨rfl, hM, hg9⟩ := hp
      have hag := hag.tr hg9
      have hM : MdC K L h0 2 Gc_33 y N := hM
      obtain ⟨m1, ar1, hl1⟩ := hM.2.1.2.1.obj
      obtain ⟨m2, ar2, hl2⟩ := hM.2.1.2.2.1.obj
      obtain ⟨hkd, hkok⟩ := hM.2.1.2.2.2.2 i hi
      obtain ⟨k1, k2, k3, k4, k5, k6, k7, k8, k9⟩ := id hkok
      refine W.eq (g2 := F0 m 36 ls [.int (bI true)]) rfl ?_
      refine lv_if_eq (tgt := 41) hx hb dX8_let_36 (by decide) (fun c_36 => ?_) (fun c_36 => ?_)
      · skip
        have c_36 : true = false := bI_0.mp c_36
        cases c_36
      · skip
        have c_36 : true = true := bI_1.mp c_36
        refine lv_iconst (v := nI 0) hx hb dX8_let_39 (by decide) ?_
        exact g_iret S hI hr hlocks (Nat.zero_le _) (Nat.zero_le _) dX8_let_40 (mThrow ho (by decide) hM hag)
    · skip
      have c_15 : (inB w 0 2) = true := bI_1.mp c_15
      refine lv_iload_n hx hb dX8_let_18 rfl (lv_at hl 3 rfl) ?_
      refine lv_iconst (v := nI 0) hx hb dX8_let_19 (by decide) ?_
      refine lv_iconst (v := nI 3) hx hb dX8_let_20 (by decide) ?_
      refine g_callS (As := [.int q, .int (nI 0), .int (nI 3)]) (rest := [.ref h0]) (n := 3) S hE hI hA (c_X8_isIn l K _ q (nI 0) (nI 3)) gX8_let_X8_isIn rfl (by decide +kernel) ⟨Nat.le_of_ble_eq_true rfl, Nat.le_of_ble_eq_true rfl⟩ rfl hl.1 rfl (Nat.le_of_ble_eq_true rfl) dX8_let_21 ⟨Nat.le_of_ble_eq_true rfl, Nat.le_of_ble_eq_true rfl⟩ (fun E ce q9 Gx H1 locs1 hx9 => hx9.elim) (fun rv Gc_21 H locs hp hI => ?_)
      obtain ⟨rfl, hq9⟩ := hp
      rw [hq9] at hI
      rw [isI_inB (by decide) (by decide)]
      refine W.eq (g2 := F0 m 24 ls [.int (bI (inB q 0 3)), .ref h0]) rfl ?_
      refine lv_if_ne (tgt := 31) hx hb dX8_let_24 (by decide) (fun c_24 => ?_) (fun c_24 => ?_)
      · skip
        have c_24 : (inB q 0 3) = true := bI_1.mp c_24
        exact absurd hb9 (by rw [c_15, c_24]; decide)
      · skip
        have c_24 : (inB q 0 3) = false := bI_0.mp c_24
        refine lv_iconst (v := nI 1) hx hb dX8_let_27 (by decide) ?_
        refine lv_goto (tgt := 32) hx hb dX8_let_28 (by decide) ?_
        refine lv_iconst (v := nI 2) hx hb dX8_let_32 (by decide) ?_
        refine g_callV (As := [.int (nI 1), .int (nI 2)]) (rest := []) (b := h0) (n := 2) S hE hI hA (c_ref l K _ L h0 y N true 2 hM (by decide)) gX8_let_X8_refuse rfl (by decide +kernel) ⟨Nat.le_of_ble_eq_true rfl, Nat.le_of_ble_eq_true rfl⟩ (g_hro hE hI hM.1 rfl) rfl hl.1 rfl (Nat.le_of_ble_eq_true rfl) dX8_let_33 ⟨Nat.le_of_ble_eq_true rfl, Nat.le_of_ble_eq_true rfl⟩ (fun E ce q9 Gx H1 locs1 hx9 => hx9.elim) (fun rv Gc_33 H locs hp hI => ?_)
        obtain ⟨rfl, hM, hg9⟩ := hp
        have hag := hag.tr hg9
        have hM : MdC K L h0 2 Gc_33 y N := hM
        obtain ⟨m1, ar1, hl1⟩ := hM.2.1.2.1.obj
        obtain ⟨m2, ar2, hl2⟩ := hM.2.1.2.2.1.obj
        obtain ⟨hkd, hkok⟩ := hM.2.1.2.2.2.2 i hi
        obtain ⟨k1, k2, k3, k4, k5, k6, k7, k8, k9⟩ := id hkok
        refine W.eq (g2 := F0 m 36 ls [.int (bI true)]) rfl ?_
        refine lv_if_eq (tgt := 41) hx hb dX8_let_36 (by decide) (fun c_36 => ?_) (fun c_36 => ?_)
        · skip
          have c_36 : true = false := bI_0.mp c_36
          cases c_36
        · skip
          have c_36 : true = true := bI_1.mp c_36
          refine lv_iconst (v := nI 0) hx hb dX8_let_39 (by decide) ?_
          exact g_iret S hI hr hlocks (Nat.zero_le _) (Nat.zero_le _) dX8_let_40 (mThrow ho (by decide) hM hag)
set_option maxHeartbeats 4000000 in
set_option maxRecDepth 100000 in
/-- X8_let: letC -/
theorem m_letC (l : Launch) (K : gK) (G : gW) (L : Nat → Nat → Nat) (h0 th : Nat) (y : YV) (N : Nat) (i w q : Nat) (hM : MdC K L h0 th G y N) (hi : i < yKc y) (hb9 : w ≤ 2 ∧ q ≤ 3) : gM l yX8_let wsX8_let 5 105 0 0 K [.ref h0, .int (nI i), .int (nI w), .int (nI q)] G (mPost K h0 G (oLet y (nI i) (nI w) (nI q))) (gNo) := by
  refine gM.of (cc := cX8_let) (maxL := 6) (ret := (some .int)) (by decide) rfl (Nat.le_of_ble_eq_true rfl) ?_
  intro p e s m below meth c A S hr hlocks htab hname hE hA hI ls hl
  have hx := S.1
  have hb := S.2.1
  have hml := S.2.2.1
  have hl : lv_has ls 6 [(0, .ref h0), (1, .int (nI i)), (2, .int (nI w)), (3, .int (nI q))] := hl
  have h44 := hM.2.1.1.2.2.1
  have h6 := hM.2.1.1.2.2.2
  have hf2 := hM.2.1.1.2.1
  have h40 := hM.2.2.2
  have hth := hM.2.2.1
  have hag : AgM G G := AgM.rf
  have hri : inR (nI i) (yKc y) = true := inR_nI hi (by omega)
  have hiN : iN (nI i) = i := iN_nI (by omega)
  obtain ⟨m1, ar1, hl1⟩ := hM.2.1.2.1.obj
  obtain ⟨m2, ar2, hl2⟩ := hM.2.1.2.2.1.obj
  obtain ⟨hkd, hkok⟩ := hM.2.1.2.2.2.2 i hi
  obtain ⟨k1, k2, k3, k4, k5, k6, k7, k8, k9⟩ := id hkok
  have hx1 : inB (nI w) 0 2 = true := by rw [inB_nI (by omega)]; exact decide_eq_true (by omega)
  have hx2 : inB (nI q) 0 3 = true := by rw [inB_nI (by omega)]; exact decide_eq_true (by omega)
  have ho : oLet y (nI i) (nI w) (nI q) = (0, nI (kW (yK y i)), ySetK y i (kLet (yK y i) w q)) := by unfold oLet; rw [if_pos hri, hiN, if_pos (by rw [inB_nI (by omega), inB_nI (by omega), decide_eq_true (by omega), decide_eq_true (by omega)]; rfl), iN_nI (by omega), iN_nI (by omega)]
  obtain ⟨H, hHe⟩ : ∃ z, z = s.heap := ⟨_, rfl⟩
  obtain ⟨locs, hLe⟩ : ∃ z : List Loc, z = [] := ⟨_, rfl⟩
  rw [← hHe, ← hLe]
  have hI : gI K A s G H locs := by rw [hHe, hLe]; exact hI
  clear hHe hLe
  refine lv_aload_n hx hb dX8_let_0 rfl (lv_at hl 0 rfl) ?_
  refine lv_iload_n hx hb dX8_let_1 rfl (lv_at hl 1 rfl) ?_
  refine g_callV (As := [.int (nI i)]) (rest := []) (b := h0) (n := 1) S hE hI hA (c_X8_isNoKind l K _ L h0 th y N (nI i) hM) gX8_let_X8_isNoKind rfl (by decide +kernel) ⟨Nat.le_of_ble_eq_true rfl, Nat.le_of_ble_eq_true rfl⟩ (g_hro hE hI hM.1 rfl) rfl hl.1 rfl (Nat.le_of_ble_eq_true rfl) dX8_let_2 ⟨Nat.le_of_ble_eq_true rfl, Nat.le_of_ble_eq_true rfl⟩ (fun E ce q9 Gx H1 locs1 hx9 => hx9.elim) (fun rv Gc_2 H locs hp hI => ?_)
  obtain ⟨rfl, hM, hg9⟩ := hp
  have hag := hag.tr hg9
  rw [hri]
  rw [hri] at hM
  have hM : MdC K L h0 0 Gc_2 y N := hM
  obtain ⟨m1, ar1, hl1⟩ := hM.2.1.2.1.obj
  obtain ⟨m2, ar2, hl2⟩ := hM.2.1.2.2.1.obj
  obtain ⟨hkd, hkok⟩ := hM.2.1.2.2.2.2 i hi
  obtain ⟨k1, k2, k3, k4, k5, k6, k7, k8, k9⟩ := id hkok
  refine W.eq (g2 := F0 m 5 ls [.int (bI false)]) rfl ?_
  refine lv_if_ne (tgt := 39) hx hb dX8_let_5 (by decide) (fun c_5 => ?_) (fun c_5 => ?_)
  · skip
    have c_5 : false = true := bI_1.mp c_5
    cases c_5
  · skip
    have c_5 : false = false := bI_0.mp c_5
    refine lv_aload_n hx hb dX8_let_8 rfl (lv_at hl 0 rfl) ?_
    refine lv_iload_n hx hb dX8_let_9 rfl (lv_at hl 2 rfl) ?_
    refine lv_iconst (v := nI 0) hx hb dX8_let_10 (by decide) ?_
    refine lv_iconst (v := nI 2) hx hb dX8_let_11 (by decide) ?_
    refine g_callS (As := [.int (nI w), .int (nI 0), .int (nI 2)]) (rest := [.ref h0]) (n := 3) S hE hI hA (c_X8_isIn l K _ (nI w) (nI 0) (nI 2)) gX8_let_X8_isIn rfl (by decide +kernel) ⟨Nat.le_of_ble_eq_true rfl, Nat.le_of_ble_eq_true rfl⟩ rfl hl.1 rfl (Nat.le_of_ble_eq_true rfl) dX8_let_12 ⟨Nat.le_of_ble_eq_true rfl, Nat.le_of_ble_eq_true rfl⟩ (fun E ce q9 Gx H1 locs1 hx9 => hx9.elim) (fun rv Gc_12 H locs hp hI => ?_)
    obtain ⟨rfl, hq9⟩ := hp
    rw [hq9] at hI
    rw [isI_inB (by decide) (by decide)]
    rw [hx1]
    refine W.eq (g2 := F0 m 15 ls [.int (bI true), .ref h0]) rfl ?_
    refine lv_if_eq (tgt := 27) hx hb dX8_let_15 (by decide) (fun c_15 => ?_) (fun c_15 => ?_)
    · skip
      have c_15 : true = false := bI_0.mp c_15
      cases c_15
    · skip
      have c_15 : true = true := bI_1.mp c_15
      refine lv_iload_n hx hb dX8_let_18 rfl (lv_at hl 3 rfl) ?_
      refine lv_iconst (v := nI 0) hx hb dX8_let_19 (by decide) ?_
      refine lv_iconst (v := nI 3) hx hb dX8_let_20 (by decide) ?_
      refine g_callS (As := [.int (nI q), .int (nI 0), .int (nI 3)]) (rest := [.ref h0]) (n := 3) S hE hI hA (c_X8_isIn l K _ (nI q) (nI 0) (nI 3)) gX8_let_X8_isIn rfl (by decide +kernel) ⟨Nat.le_of_ble_eq_true rfl, Nat.le_of_ble_eq_true rfl⟩ rfl hl.1 rfl (Nat.le_of_ble_eq_true rfl) dX8_let_21 ⟨Nat.le_of_ble_eq_true rfl, Nat.le_of_ble_eq_true rfl⟩ (fun E ce q9 Gx H1 locs1 hx9 => hx9.elim) (fun rv Gc_21 H locs hp hI => ?_)
      obtain ⟨rfl, hq9⟩ := hp
      rw [hq9] at hI
      rw [isI_inB (by decide) (by decide)]
      rw [hx2]
      refine W.eq (g2 := F0 m 24 ls [.int (bI true), .ref h0]) rfl ?_
      refine lv_if_ne (tgt := 31) hx hb dX8_let_24 (by decide) (fun c_24 => ?_) (fun c_24 => ?_)
      · skip
        have c_24 : true = true := bI_1.mp c_24
        refine lv_iconst (v := nI 0) hx hb dX8_let_31 (by decide) ?_
        refine lv_iconst (v := nI 2) hx hb dX8_let_32 (by decide) ?_
        refine g_callV (As := [.int (nI 0), .int (nI 2)]) (rest := []) (b := h0) (n := 2) S hE hI hA (c_ref l K _ L h0 y N false 2 hM (by decide)) gX8_let_X8_refuse rfl (by decide +kernel) ⟨Nat.le_of_ble_eq_true rfl, Nat.le_of_ble_eq_true rfl⟩ (g_hro hE hI hM.1 rfl) rfl hl.1 rfl (Nat.le_of_ble_eq_true rfl) dX8_let_33 ⟨Nat.le_of_ble_eq_true rfl, Nat.le_of_ble_eq_true rfl⟩ (fun E ce q9 Gx H1 locs1 hx9 => hx9.elim) (fun rv Gc_33 H locs hp hI => ?_)
        obtain ⟨rfl, hM, hg9⟩ := hp
        have hag := hag.tr hg9
        have hM : MdC K L h0 0 Gc_33 y N := hM
        obtain ⟨m1, ar1, hl1⟩ := hM.2.1.2.1.obj
        obtain ⟨m2, ar2, hl2⟩ := hM.2.1.2.2.1.obj
        obtain ⟨hkd, hkok⟩ := hM.2.1.2.2.2.2 i hi
        obtain ⟨k1, k2, k3, k4, k5, k6, k7, k8, k9⟩ := id hkok
        refine W.eq (g2 := F0 m 36 ls [.int (bI false)]) rfl ?_
        refine lv_if_eq (tgt := 41) hx hb dX8_let_36 (by decide) (fun c_36 => ?_) (fun c_36 => ?_)
        · skip
          have c_36 : false = false := bI_0.mp c_36
          refine lv_aload_n hx hb dX8_let_41 rfl (lv_at hl 0 rfl) ?_
          refine g_get S hE hI (C := RX8) (T := TX8) (N := 2) (ref := "StonecutterYardModel") (fun w h => (List.mem_cons_of_mem _ (List.mem_append_left _ (List.mem_append_left _ (List.mem_append_left _ (List.mem_append_right _ h)))))) hM.1 rfl 1 (by decide) (List.mem_cons_of_mem _ (List.mem_append_left _ (List.mem_append_left _ (List.mem_append_left _ (List.mem_append_left _ (List.mem_append_left _ (List.mem_of_getElem? (i := 0) rfl))))))) (fun _ h9 => h9) (v := .ref (L 30 0)) rfl dX8_let_42 ?_
          refine g_get S hE hI (C := RX7) (T := TX7) (N := 3) (ref := "StonecutterYardModel$Yard") (fun w h => (List.mem_cons_of_mem _ (List.mem_append_left _ (List.mem_append_left _ (List.mem_append_right _ h))))) hM.2.1.1.1 rfl 1 (by decide) (List.mem_cons_of_mem _ (List.mem_append_left _ (List.mem_append_left _ (List.mem_append_left _ (List.mem_append_left _ (List.mem_append_left _ (List.mem_of_getElem? (i := 1) rfl))))))) (fun _ h9 => h9) (v := .ref (L 33 0)) rfl dX8_let_45 ?_
          refine lv_iload_n hx hb dX8_let_48 rfl (lv_at hl 1 rfl) ?_
          refine g_callV (As := [.int (nI i)]) (rest := []) (b := (L 33 0)) (n := 1) S hE hI hA (l_get l K _ (5, 33, 0) (tbL 5 34) (L 33 0) (yKc y) (L 38) i hM.2.1.2.2.1 hi) gX8_let_Jx4a65c_get_915e3 rfl (by decide +kernel) ⟨Nat.le_of_ble_eq_true rfl, Nat.le_of_ble_eq_true rfl⟩ (g_hro hE hI hl2 rfl) rfl hl.1 rfl (Nat.le_of_ble_eq_true rfl) dX8_let_49 ⟨Nat.le_of_ble_eq_true rfl, Nat.le_of_ble_eq_true rfl⟩ (fun E ce q9 Gx H1 locs1 hx9 => hx9.elim) (fun rv Gc_49 H locs hp hI => ?_)
          obtain ⟨rfl, hq9⟩ := hp
          rw [hq9] at hI
          refine W.eq (g2 := F0 m 52 ls [.ref (L 38 i)]) rfl ?_
          refine g_cast S (List.mem_cons_of_mem _ (List.mem_append_left _ (List.mem_append_left _ (List.mem_append_left _ (List.mem_append_left _ (List.mem_append_left _ (List.mem_of_getElem? (i := 2) rfl))))))) (g_hro hE hI hkd rfl) dX8_let_52 ?_
          refine lv_astore (lv' := [(4, .ref (L 38 i)), (0, .ref h0), (1, .int (nI i)), (2, .int (nI w)), (3, .int (nI q))]) hx hb dX8_let_55 hl (by decide) rfl (fun ls hl => ?_)
          refine lv_aload hx hb dX8_let_57 (lv_at hl 0 rfl) ?_
          refine g_get S hE hI (C := RX5) (T := TX5) (N := 8) (ref := "StonecutterYardModel$Kind") (fun w h => (List.mem_cons_of_mem _ (List.mem_append_left _ (List.mem_append_right _ h)))) hkd rfl 2 (by decide) (List.mem_cons_of_mem _ (List.mem_append_left _ (List.mem_append_left _ (List.mem_append_left _ (List.mem_append_left _ (List.mem_append_left _ (List.mem_of_getElem? (i := 3) rfl))))))) (fun _ h9 => h9) (v := .int (nI (kW (yK y i)))) rfl dX8_let_59 ?_
          refine lv_istore (lv' := [(5, .int (nI (kW (yK y i)))), (4, .ref (L 38 i)), (0, .ref h0), (1, .int (nI i)), (2, .int (nI w)), (3, .int (nI q))]) hx hb dX8_let_62 hl (by decide) rfl (fun ls hl => ?_)
          refine lv_aload hx hb dX8_let_64 (lv_at hl 1 rfl) ?_
          refine lv_iload_n hx hb dX8_let_66 rfl (lv_at hl 4 rfl) ?_
          refine g_put S hE hI (C := RX5) (T := TX5) (N := 8) (ref := "StonecutterYardModel$Kind") (fun w h => (List.mem_cons_of_mem _ (List.mem_append_left _ (List.mem_append_right _ h)))) tyX5 tyX5_ok nmX5 hkd rfl 2 (by decide) (List.mem_cons_of_mem _ (List.mem_append_left _ (List.mem_append_left _ (List.mem_append_left _ (List.mem_append_left _ (List.mem_append_left _ (List.mem_of_getElem? (i := 3) rfl))))))) (fun _ h9 => h9) rfl rfl rfl (Nat.le_of_ble_eq_true rfl) dX8_let_67 (fun H locs hI => ?_)
          have hI : gI K A s (gset Gc_33 (5, 38, i) (L 38 i) (.inr (6, [.int (nI (kL (yK y i))), .int (nI (kB (yK y i))), .int (nI w), .int (nI (kF (yK y i))), .int (nI (kP (yK y i))), .int (nI (kN (yK y i))), .int (nI (kT (yK y i))), .int (nI (kD (yK y i)))]))) H locs := hI
          obtain ⟨G_1, hG_1⟩ : ∃ z, z = gset Gc_33 (5, 38, i) (L 38 i) (.inr (6, [.int (nI (kL (yK y i))), .int (nI (kB (yK y i))), .int (nI w), .int (nI (kF (yK y i))), .int (nI (kP (yK y i))), .int (nI (kN (yK y i))), .int (nI (kT (yK y i))), .int (nI (kD (yK y i)))])) := ⟨_, rfl⟩
          rw [← hG_1] at hI
          have o_G_1 : G_1 (9, 0, 0) = some (h0, .inr (9, [.int (nI 0), .ref (L 30 0)])) := by rw [hG_1, gset_ne (by simp)]; exact hM.1
          have yd_G_1 : G_1 (5, 30, 0) = some ((L 30 0), .inr (8, [.ref (L 31 0), .ref (L 33 0), .int (nI (yF y))])) := by rw [hG_1, gset_ne (by simp)]; exact hM.2.1.1.1
          have ls_G_1 : G_1 (5, 31, 0) = some ((L 31 0), .inr (0, [.int m1, .ref ar1, .int (nI (ySc y))])) := by rw [hG_1, gset_ne (by simp)]; exact hl1
          have lk_G_1 : G_1 (5, 33, 0) = some ((L 33 0), .inr (0, [.int m2, .ref ar2, .int (nI (yKc y))])) := by rw [hG_1, gset_ne (by simp)]; exact hl2
          have k_G_1 : G_1 (5, 38, i) = some ((L 38 i), .inr (6, [.int (nI (kL (yK y i))), .int (nI (kB (yK y i))), .int (nI w), .int (nI (kF (yK y i))), .int (nI (kP (yK y i))), .int (nI (kN (yK y i))), .int (nI (kT (yK y i))), .int (nI (kD (yK y i)))])) := by rw [hG_1]; exact gset_eq _ _ _ _
          refine lv_aload hx hb dX8_let_70 (lv_at hl 1 rfl) ?_
          refine lv_iload_n hx hb dX8_let_72 rfl (lv_at hl 5 rfl) ?_
          refine g_put S hE hI (C := RX5) (T := TX5) (N := 8) (ref := "StonecutterYardModel$Kind") (fun w h => (List.mem_cons_of_mem _ (List.mem_append_left _ (List.mem_append_right _ h)))) tyX5 tyX5_ok nmX5 k_G_1 rfl 3 (by decide) (List.mem_cons_of_mem _ (List.mem_append_left _ (List.mem_append_left _ (List.mem_append_left _ (List.mem_append_left _ (List.mem_append_left _ (List.mem_of_getElem? (i := 4) rfl))))))) (fun _ h9 => h9) rfl rfl rfl (Nat.le_of_ble_eq_true rfl) dX8_let_73 (fun H locs hI => ?_)
          have hI : gI K A s (gset G_1 (5, 38, i) (L 38 i) (.inr (6, [.int (nI (kL (yK y i))), .int (nI (kB (yK y i))), .int (nI w), .int (nI q), .int (nI (kP (yK y i))), .int (nI (kN (yK y i))), .int (nI (kT (yK y i))), .int (nI (kD (yK y i)))]))) H locs := hI
          obtain ⟨G_2, hG_2⟩ : ∃ z, z = gset G_1 (5, 38, i) (L 38 i) (.inr (6, [.int (nI (kL (yK y i))), .int (nI (kB (yK y i))), .int (nI w), .int (nI q), .int (nI (kP (yK y i))), .int (nI (kN (yK y i))), .int (nI (kT (yK y i))), .int (nI (kD (yK y i)))])) := ⟨_, rfl⟩
          rw [← hG_2] at hI
          have o_G_2 : G_2 (9, 0, 0) = some (h0, .inr (9, [.int (nI 0), .ref (L 30 0)])) := by rw [hG_2, gset_ne (by simp)]; exact o_G_1
          have yd_G_2 : G_2 (5, 30, 0) = some ((L 30 0), .inr (8, [.ref (L 31 0), .ref (L 33 0), .int (nI (yF y))])) := by rw [hG_2, gset_ne (by simp)]; exact yd_G_1
          have ls_G_2 : G_2 (5, 31, 0) = some ((L 31 0), .inr (0, [.int m1, .ref ar1, .int (nI (ySc y))])) := by rw [hG_2, gset_ne (by simp)]; exact ls_G_1
          have lk_G_2 : G_2 (5, 33, 0) = some ((L 33 0), .inr (0, [.int m2, .ref ar2, .int (nI (yKc y))])) := by rw [hG_2, gset_ne (by simp)]; exact lk_G_1
          have k_G_2 : G_2 (5, 38, i) = some ((L 38 i), .inr (6, [.int (nI (kL (yK y i))), .int (nI (kB (yK y i))), .int (nI w), .int (nI q), .int (nI (kP (yK y i))), .int (nI (kN (yK y i))), .int (nI (kT (yK y i))), .int (nI (kD (yK y i)))])) := by rw [hG_2]; exact gset_eq _ _ _ _
          refine lv_iload hx hb dX8_let_76 (lv_at hl 0 rfl) ?_
          have hgw : G_2 = gset Gc_33 (5, 38, i) (L 38 i) (cMK (kLet (yK y i) w q)) := by rw [hG_2, hG_1, gset_gset]
          have hMY : MY K 5 L G_2 (ySetK y i (kLet (yK y i) w q)) N := by rw [hgw]; exact hM.2.1.setK (by decide) ⟨k1, k2, k3, k4, hb9.1, hb9.2, k7, k8, k9⟩
          exact g_iret S hI hr hlocks (Nat.zero_le _) (Nat.zero_le _) dX8_let_78 (mOk ho ⟨o_G_2, hMY, by decide, h40⟩ (hag.tr (by rw [hgw]; exact AgM.rf.st (by decide))))
        · skip
          have c_36 : false = true := bI_1.mp c_36
          cases c_36
      · skip
        have c_24 : true = false := bI_0.mp c_24
        cases c_24
set_option maxHeartbeats 4000000 in
set_option maxRecDepth 100000 in
/-- X8_order: orderA -/
theorem m_orderA (l : Launch) (K : gK) (G : gW) (L : Nat → Nat → Nat) (h0 th : Nat) (y : YV) (N : Nat) (x q : Int32) (hM : MdC K L h0 th G y N) (hxn : ∀ q, q < yKc y → x ≠ nI q) (hr9 : inR x (yKc y) = false) : gM l yX8_order wsX8_order 5 105 0 0 K [.ref h0, .int x, .int q] G (mPost K h0 G (oOrder y x q)) (gNo) := by
  refine gM.of (cc := cX8_order) (maxL := 3) (ret := (some .int)) (by decide) rfl (Nat.le_of_ble_eq_true rfl) ?_
  intro p e s m below meth c A S hr hlocks htab hname hE hA hI ls hl
  have hx := S.1
  have hb := S.2.1
  have hml := S.2.2.1
  have hl : lv_has ls 3 [(0, .ref h0), (1, .int x), (2, .int q)] := hl
  have h44 := hM.2.1.1.2.2.1
  have h6 := hM.2.1.1.2.2.2
  have hf2 := hM.2.1.1.2.1
  have h40 := hM.2.2.2
  have hth := hM.2.2.1
  have hag : AgM G G := AgM.rf
  obtain ⟨m1, ar1, hl1⟩ := hM.2.1.2.1.obj
  obtain ⟨m2, ar2, hl2⟩ := hM.2.1.2.2.1.obj
  have ho : oOrder y x q = (1, 0, y) := by unfold oOrder; rw [if_neg (by rw [hr9]; decide)]
  obtain ⟨H, hHe⟩ : ∃ z, z = s.heap := ⟨_, rfl⟩
  obtain ⟨locs, hLe⟩ : ∃ z : List Loc, z = [] := ⟨_, rfl⟩
  rw [← hHe, ← hLe]
  have hI : gI K A s G H locs := by rw [hHe, hLe]; exact hI
  clear hHe hLe
  refine lv_aload_n hx hb dX8_order_0 rfl (lv_at hl 0 rfl) ?_
  refine lv_iload_n hx hb dX8_order_1 rfl (lv_at hl 1 rfl) ?_
  refine g_callV (As := [.int x]) (rest := []) (b := h0) (n := 1) S hE hI hA (c_X8_isNoKind l K _ L h0 th y N x hM) gX8_order_X8_isNoKind rfl (by decide +kernel) ⟨Nat.le_of_ble_eq_true rfl, Nat.le_of_ble_eq_true rfl⟩ (g_hro hE hI hM.1 rfl) rfl hl.1 rfl (Nat.le_of_ble_eq_true rfl) dX8_order_2 ⟨Nat.le_of_ble_eq_true rfl, Nat.le_of_ble_eq_true rfl⟩ (fun E ce q9 Gx H1 locs1 hx9 => hx9.elim) (fun rv Gc_2 H locs hp hI => ?_)
  obtain ⟨rfl, hM, hg9⟩ := hp
  have hag := hag.tr hg9
  rw [hr9]
  rw [hr9] at hM
  have hM : MdC K L h0 1 Gc_2 y N := hM
  obtain ⟨m1, ar1, hl1⟩ := hM.2.1.2.1.obj
  obtain ⟨m2, ar2, hl2⟩ := hM.2.1.2.2.1.obj
  refine W.eq (g2 := F0 m 5 ls [.int (bI true)]) rfl ?_
  refine lv_if_ne (tgt := 49) hx hb dX8_order_5 (by decide) (fun c_5 => ?_) (fun c_5 => ?_)
  · skip
    have c_5 : true = true := bI_1.mp c_5
    refine lv_iconst (v := nI 0) hx hb dX8_order_49 (by decide) ?_
    exact g_iret S hI hr hlocks (Nat.zero_le _) (Nat.zero_le _) dX8_order_50 (mThrow ho (by decide) hM hag)
  · skip
    have c_5 : true = false := bI_0.mp c_5
    cases c_5
set_option maxHeartbeats 4000000 in
set_option maxRecDepth 100000 in
/-- X8_order: orderB -/
theorem m_orderB (l : Launch) (K : gK) (G : gW) (L : Nat → Nat → Nat) (h0 th : Nat) (y : YV) (N : Nat) (i : Nat) (q : Int32) (hM : MdC K L h0 th G y N) (hi : i < yKc y) (hb9 : inB q 1 (20 - kN (yK y i)) = false) : gM l yX8_order wsX8_order 5 105 0 0 K [.ref h0, .int (nI i), .int q] G (mPost K h0 G (oOrder y (nI i) q)) (gNo) := by
  refine gM.of (cc := cX8_order) (maxL := 3) (ret := (some .int)) (by decide) rfl (Nat.le_of_ble_eq_true rfl) ?_
  intro p e s m below meth c A S hr hlocks htab hname hE hA hI ls hl
  have hx := S.1
  have hb := S.2.1
  have hml := S.2.2.1
  have hl : lv_has ls 3 [(0, .ref h0), (1, .int (nI i)), (2, .int q)] := hl
  have h44 := hM.2.1.1.2.2.1
  have h6 := hM.2.1.1.2.2.2
  have hf2 := hM.2.1.1.2.1
  have h40 := hM.2.2.2
  have hth := hM.2.2.1
  have hag : AgM G G := AgM.rf
  have hri : inR (nI i) (yKc y) = true := inR_nI hi (by omega)
  have hiN : iN (nI i) = i := iN_nI (by omega)
  obtain ⟨m1, ar1, hl1⟩ := hM.2.1.2.1.obj
  obtain ⟨m2, ar2, hl2⟩ := hM.2.1.2.2.1.obj
  obtain ⟨hkd, hkok⟩ := hM.2.1.2.2.2.2 i hi
  obtain ⟨k1, k2, k3, k4, k5, k6, k7, k8, k9⟩ := id hkok
  have ho : oOrder y (nI i) q = (2, 0, y) := by unfold oOrder; rw [if_pos hri, hiN, if_neg (by rw [hb9]; decide)]
  obtain ⟨H, hHe⟩ : ∃ z, z = s.heap := ⟨_, rfl⟩
  obtain ⟨locs, hLe⟩ : ∃ z : List Loc, z = [] := ⟨_, rfl⟩
  rw [← hHe, ← hLe]
  have hI : gI K A s G H locs := by rw [hHe, hLe]; exact hI
  clear hHe hLe
  refine lv_aload_n hx hb dX8_order_0 rfl (lv_at hl 0 rfl) ?_
  refine lv_iload_n hx hb dX8_order_1 rfl (lv_at hl 1 rfl) ?_
  refine g_callV (As := [.int (nI i)]) (rest := []) (b := h0) (n := 1) S hE hI hA (c_X8_isNoKind l K _ L h0 th y N (nI i) hM) gX8_order_X8_isNoKind rfl (by decide +kernel) ⟨Nat.le_of_ble_eq_true rfl, Nat.le_of_ble_eq_true rfl⟩ (g_hro hE hI hM.1 rfl) rfl hl.1 rfl (Nat.le_of_ble_eq_true rfl) dX8_order_2 ⟨Nat.le_of_ble_eq_true rfl, Nat.le_of_ble_eq_true rfl⟩ (fun E ce q9 Gx H1 locs1 hx9 => hx9.elim) (fun rv Gc_2 H locs hp hI => ?_)
  obtain ⟨rfl, hM, hg9⟩ := hp
  have hag := hag.tr hg9
  rw [hri]
  rw [hri] at hM
  have hM : MdC K L h0 0 Gc_2 y N := hM
  obtain ⟨m1, ar1, hl1⟩ := hM.2.1.2.1.obj
  obtain ⟨m2, ar2, hl2⟩ := hM.2.1.2.2.1.obj
  obtain ⟨hkd, hkok⟩ := hM.2.1.2.2.2.2 i hi
  obtain ⟨k1, k2, k3, k4, k5, k6, k7, k8, k9⟩ := id hkok
  refine W.eq (g2 := F0 m 5 ls [.int (bI false)]) rfl ?_
  refine lv_if_ne (tgt := 49) hx hb dX8_order_5 (by decide) (fun c_5 => ?_) (fun c_5 => ?_)
  · skip
    have c_5 : false = true := bI_1.mp c_5
    cases c_5
  · skip
    have c_5 : false = false := bI_0.mp c_5
    refine lv_aload_n hx hb dX8_order_8 rfl (lv_at hl 0 rfl) ?_
    refine lv_iload_n hx hb dX8_order_9 rfl (lv_at hl 2 rfl) ?_
    refine lv_iconst (v := nI 1) hx hb dX8_order_10 (by decide) ?_
    refine lv_bipush (v := nI 20) hx hb dX8_order_11 (by decide) ?_
    refine lv_aload_n hx hb dX8_order_13 rfl (lv_at hl 0 rfl) ?_
    refine g_get S hE hI (C := RX8) (T := TX8) (N := 2) (ref := "StonecutterYardModel") (fun w h => (List.mem_cons_of_mem _ (List.mem_append_left _ (List.mem_append_left _ (List.mem_append_left _ (List.mem_append_right _ h)))))) hM.1 rfl 1 (by decide) (List.mem_cons_of_mem _ (List.mem_append_left _ (List.mem_append_left _ (List.mem_append_left _ (List.mem_append_left _ (List.mem_append_left _ (List.mem_of_getElem? (i := 0) rfl))))))) (fun _ h9 => h9) (v := .ref (L 30 0)) rfl dX8_order_14 ?_
    refine g_get S hE hI (C := RX7) (T := TX7) (N := 3) (ref := "StonecutterYardModel$Yard") (fun w h => (List.mem_cons_of_mem _ (List.mem_append_left _ (List.mem_append_left _ (List.mem_append_right _ h))))) hM.2.1.1.1 rfl 1 (by decide) (List.mem_cons_of_mem _ (List.mem_append_left _ (List.mem_append_left _ (List.mem_append_left _ (List.mem_append_left _ (List.mem_append_left _ (List.mem_of_getElem? (i := 1) rfl))))))) (fun _ h9 => h9) (v := .ref (L 33 0)) rfl dX8_order_17 ?_
    refine lv_iload_n hx hb dX8_order_20 rfl (lv_at hl 1 rfl) ?_
    refine g_callV (As := [.int (nI i)]) (rest := [.int (nI 20), .int (nI 1), .int q, .ref h0]) (b := (L 33 0)) (n := 1) S hE hI hA (l_get l K _ (5, 33, 0) (tbL 5 34) (L 33 0) (yKc y) (L 38) i hM.2.1.2.2.1 hi) gX8_order_Jx4a65c_get_915e3 rfl (by decide +kernel) ⟨Nat.le_of_ble_eq_true rfl, Nat.le_of_ble_eq_true rfl⟩ (g_hro hE hI hl2 rfl) rfl hl.1 rfl (Nat.le_of_ble_eq_true rfl) dX8_order_21 ⟨Nat.le_of_ble_eq_true rfl, Nat.le_of_ble_eq_true rfl⟩ (fun E ce q9 Gx H1 locs1 hx9 => hx9.elim) (fun rv Gc_21 H locs hp hI => ?_)
    obtain ⟨rfl, hq9⟩ := hp
    rw [hq9] at hI
    refine W.eq (g2 := F0 m 24 ls [.ref (L 38 i), .int (nI 20), .int (nI 1), .int q, .ref h0]) rfl ?_
    refine g_cast S (List.mem_cons_of_mem _ (List.mem_append_left _ (List.mem_append_left _ (List.mem_append_left _ (List.mem_append_left _ (List.mem_append_left _ (List.mem_of_getElem? (i := 2) rfl))))))) (g_hro hE hI hkd rfl) dX8_order_24 ?_
    refine g_get S hE hI (C := RX5) (T := TX5) (N := 8) (ref := "StonecutterYardModel$Kind") (fun w h => (List.mem_cons_of_mem _ (List.mem_append_left _ (List.mem_append_right _ h)))) hkd rfl 5 (by decide) (List.mem_cons_of_mem _ (List.mem_append_left _ (List.mem_append_left _ (List.mem_append_left _ (List.mem_append_left _ (List.mem_append_left _ (List.mem_of_getElem? (i := 3) rfl))))))) (fun _ h9 => h9) (v := .int (nI (kN (yK y i)))) rfl dX8_order_27 ?_
    refine t_isub hx hb dX8_order_30 (v := nI (20 - kN (yK y i))) (pk_sub (by omega)) ?_
    refine g_callS (As := [.int q, .int (nI 1), .int (nI (20 - kN (yK y i)))]) (rest := [.ref h0]) (n := 3) S hE hI hA (c_X8_isIn l K _ q (nI 1) (nI (20 - kN (yK y i)))) gX8_order_X8_isIn rfl (by decide +kernel) ⟨Nat.le_of_ble_eq_true rfl, Nat.le_of_ble_eq_true rfl⟩ rfl hl.1 rfl (Nat.le_of_ble_eq_true rfl) dX8_order_31 ⟨Nat.le_of_ble_eq_true rfl, Nat.le_of_ble_eq_true rfl⟩ (fun E ce q9 Gx H1 locs1 hx9 => hx9.elim) (fun rv Gc_31 H locs hp hI => ?_)
    obtain ⟨rfl, hq9⟩ := hp
    rw [hq9] at hI
    rw [isI_inB (by decide) (by omega)]
    rw [hb9]
    refine W.eq (g2 := F0 m 34 ls [.int (bI false), .ref h0]) rfl ?_
    refine lv_if_ne (tgt := 41) hx hb dX8_order_34 (by decide) (fun c_34 => ?_) (fun c_34 => ?_)
    · skip
      have c_34 : false = true := bI_1.mp c_34
      cases c_34
    · skip
      have c_34 : false = false := bI_0.mp c_34
      refine lv_iconst (v := nI 1) hx hb dX8_order_37 (by decide) ?_
      refine lv_goto (tgt := 42) hx hb dX8_order_38 (by decide) ?_
      refine lv_iconst (v := nI 2) hx hb dX8_order_42 (by decide) ?_
      refine g_callV (As := [.int (nI 1), .int (nI 2)]) (rest := []) (b := h0) (n := 2) S hE hI hA (c_ref l K _ L h0 y N true 2 hM (by decide)) gX8_order_X8_refuse rfl (by decide +kernel) ⟨Nat.le_of_ble_eq_true rfl, Nat.le_of_ble_eq_true rfl⟩ (g_hro hE hI hM.1 rfl) rfl hl.1 rfl (Nat.le_of_ble_eq_true rfl) dX8_order_43 ⟨Nat.le_of_ble_eq_true rfl, Nat.le_of_ble_eq_true rfl⟩ (fun E ce q9 Gx H1 locs1 hx9 => hx9.elim) (fun rv Gc_43 H locs hp hI => ?_)
      obtain ⟨rfl, hM, hg9⟩ := hp
      have hag := hag.tr hg9
      have hM : MdC K L h0 2 Gc_43 y N := hM
      obtain ⟨m1, ar1, hl1⟩ := hM.2.1.2.1.obj
      obtain ⟨m2, ar2, hl2⟩ := hM.2.1.2.2.1.obj
      obtain ⟨hkd, hkok⟩ := hM.2.1.2.2.2.2 i hi
      obtain ⟨k1, k2, k3, k4, k5, k6, k7, k8, k9⟩ := id hkok
      refine W.eq (g2 := F0 m 46 ls [.int (bI true)]) rfl ?_
      refine lv_if_eq (tgt := 51) hx hb dX8_order_46 (by decide) (fun c_46 => ?_) (fun c_46 => ?_)
      · skip
        have c_46 : true = false := bI_0.mp c_46
        cases c_46
      · skip
        have c_46 : true = true := bI_1.mp c_46
        refine lv_iconst (v := nI 0) hx hb dX8_order_49 (by decide) ?_
        exact g_iret S hI hr hlocks (Nat.zero_le _) (Nat.zero_le _) dX8_order_50 (mThrow ho (by decide) hM hag)
set_option maxHeartbeats 4000000 in
set_option maxRecDepth 100000 in
/-- X8_order: orderC -/
theorem m_orderC (l : Launch) (K : gK) (G : gW) (L : Nat → Nat → Nat) (h0 th : Nat) (y : YV) (N : Nat) (i q : Nat) (hM : MdC K L h0 th G y N) (hi : i < yKc y) (hb9 : 1 ≤ q ∧ q + kN (yK y i) ≤ 20) : gM l yX8_order wsX8_order 5 105 0 0 K [.ref h0, .int (nI i), .int (nI q)] G (mPost K h0 G (oOrder y (nI i) (nI q))) (gNo) := by
  refine gM.of (cc := cX8_order) (maxL := 3) (ret := (some .int)) (by decide) rfl (Nat.le_of_ble_eq_true rfl) ?_
  intro p e s m below meth c A S hr hlocks htab hname hE hA hI ls hl
  have hx := S.1
  have hb := S.2.1
  have hml := S.2.2.1
  have hl : lv_has ls 3 [(0, .ref h0), (1, .int (nI i)), (2, .int (nI q))] := hl
  have h44 := hM.2.1.1.2.2.1
  have h6 := hM.2.1.1.2.2.2
  have hf2 := hM.2.1.1.2.1
  have h40 := hM.2.2.2
  have hth := hM.2.2.1
  have hag : AgM G G := AgM.rf
  have hri : inR (nI i) (yKc y) = true := inR_nI hi (by omega)
  have hiN : iN (nI i) = i := iN_nI (by omega)
  obtain ⟨m1, ar1, hl1⟩ := hM.2.1.2.1.obj
  obtain ⟨m2, ar2, hl2⟩ := hM.2.1.2.2.1.obj
  obtain ⟨hkd, hkok⟩ := hM.2.1.2.2.2.2 i hi
  obtain ⟨k1, k2, k3, k4, k5, k6, k7, k8, k9⟩ := id hkok
  have hx1 : inB (nI q) 1 (20 - kN (yK y i)) = true := by rw [inB_nI (by omega)]; exact decide_eq_true (by omega)
  have ho : oOrder y (nI i) (nI q) = (0, nI (kN (yK y i) + q), ySetK y i (kOrd (yK y i) q)) := by unfold oOrder; rw [if_pos hri, hiN, if_pos (by rw [inB_nI (by omega)]; exact decide_eq_true (by omega)), iN_nI (by omega)]
  obtain ⟨H, hHe⟩ : ∃ z, z = s.heap := ⟨_, rfl⟩
  obtain ⟨locs, hLe⟩ : ∃ z : List Loc, z = [] := ⟨_, rfl⟩
  rw [← hHe, ← hLe]
  have hI : gI K A s G H locs := by rw [hHe, hLe]; exact hI
  clear hHe hLe
  refine lv_aload_n hx hb dX8_order_0 rfl (lv_at hl 0 rfl) ?_
  refine lv_iload_n hx hb dX8_order_1 rfl (lv_at hl 1 rfl) ?_
  refine g_callV (As := [.int (nI i)]) (rest := []) (b := h0) (n := 1) S hE hI hA (c_X8_isNoKind l K _ L h0 th y N (nI i) hM) gX8_order_X8_isNoKind rfl (by decide +kernel) ⟨Nat.le_of_ble_eq_true rfl, Nat.le_of_ble_eq_true rfl⟩ (g_hro hE hI hM.1 rfl) rfl hl.1 rfl (Nat.le_of_ble_eq_true rfl) dX8_order_2 ⟨Nat.le_of_ble_eq_true rfl, Nat.le_of_ble_eq_true rfl⟩ (fun E ce q9 Gx H1 locs1 hx9 => hx9.elim) (fun rv Gc_2 H locs hp hI => ?_)
  obtain ⟨rfl, hM, hg9⟩ := hp
  have hag := hag.tr hg9
  rw [hri]
  rw [hri] at hM
  have hM : MdC K L h0 0 Gc_2 y N := hM
  obtain ⟨m1, ar1, hl1⟩ := hM.2.1.2.1.obj
  obtain ⟨m2, ar2, hl2⟩ := hM.2.1.2.2.1.obj
  obtain ⟨hkd, hkok⟩ := hM.2.1.2.2.2.2 i hi
  obtain ⟨k1, k2, k3, k4, k5, k6, k7, k8, k9⟩ := id hkok
  have hx1 : inB (nI q) 1 (20 - kN (yK y i)) = true := by rw [inB_nI (by omega)]; exact decide_eq_true (by omega)
  refine W.eq (g2 := F0 m 5 ls [.int (bI false)]) rfl ?_
  refine lv_if_ne (tgt := 49) hx hb dX8_order_5 (by decide) (fun c_5 => ?_) (fun c_5 => ?_)
  · skip
    have c_5 : false = true := bI_1.mp c_5
    cases c_5
  · skip
    have c_5 : false = false := bI_0.mp c_5
    refine lv_aload_n hx hb dX8_order_8 rfl (lv_at hl 0 rfl) ?_
    refine lv_iload_n hx hb dX8_order_9 rfl (lv_at hl 2 rfl) ?_
    refine lv_iconst (v := nI 1) hx hb dX8_order_10 (by decide) ?_
    refine lv_bipush (v := nI 20) hx hb dX8_order_11 (by decide) ?_
    refine lv_aload_n hx hb dX8_order_13 rfl (lv_at hl 0 rfl) ?_
    refine g_get S hE hI (C := RX8) (T := TX8) (N := 2) (ref := "StonecutterYardModel") (fun w h => (List.mem_cons_of_mem _ (List.mem_append_left _ (List.mem_append_left _ (List.mem_append_left _ (List.mem_append_right _ h)))))) hM.1 rfl 1 (by decide) (List.mem_cons_of_mem _ (List.mem_append_left _ (List.mem_append_left _ (List.mem_append_left _ (List.mem_append_left _ (List.mem_append_left _ (List.mem_of_getElem? (i := 0) rfl))))))) (fun _ h9 => h9) (v := .ref (L 30 0)) rfl dX8_order_14 ?_
    refine g_get S hE hI (C := RX7) (T := TX7) (N := 3) (ref := "StonecutterYardModel$Yard") (fun w h => (List.mem_cons_of_mem _ (List.mem_append_left _ (List.mem_append_left _ (List.mem_append_right _ h))))) hM.2.1.1.1 rfl 1 (by decide) (List.mem_cons_of_mem _ (List.mem_append_left _ (List.mem_append_left _ (List.mem_append_left _ (List.mem_append_left _ (List.mem_append_left _ (List.mem_of_getElem? (i := 1) rfl))))))) (fun _ h9 => h9) (v := .ref (L 33 0)) rfl dX8_order_17 ?_
    refine lv_iload_n hx hb dX8_order_20 rfl (lv_at hl 1 rfl) ?_
    refine g_callV (As := [.int (nI i)]) (rest := [.int (nI 20), .int (nI 1), .int (nI q), .ref h0]) (b := (L 33 0)) (n := 1) S hE hI hA (l_get l K _ (5, 33, 0) (tbL 5 34) (L 33 0) (yKc y) (L 38) i hM.2.1.2.2.1 hi) gX8_order_Jx4a65c_get_915e3 rfl (by decide +kernel) ⟨Nat.le_of_ble_eq_true rfl, Nat.le_of_ble_eq_true rfl⟩ (g_hro hE hI hl2 rfl) rfl hl.1 rfl (Nat.le_of_ble_eq_true rfl) dX8_order_21 ⟨Nat.le_of_ble_eq_true rfl, Nat.le_of_ble_eq_true rfl⟩ (fun E ce q9 Gx H1 locs1 hx9 => hx9.elim) (fun rv Gc_21 H locs hp hI => ?_)
    obtain ⟨rfl, hq9⟩ := hp
    rw [hq9] at hI
    refine W.eq (g2 := F0 m 24 ls [.ref (L 38 i), .int (nI 20), .int (nI 1), .int (nI q), .ref h0]) rfl ?_
    refine g_cast S (List.mem_cons_of_mem _ (List.mem_append_left _ (List.mem_append_left _ (List.mem_append_left _ (List.mem_append_left _ (List.mem_append_left _ (List.mem_of_getElem? (i := 2) rfl))))))) (g_hro hE hI hkd rfl) dX8_order_24 ?_
    refine g_get S hE hI (C := RX5) (T := TX5) (N := 8) (ref := "StonecutterYardModel$Kind") (fun w h => (List.mem_cons_of_mem _ (List.mem_append_left _ (List.mem_append_right _ h)))) hkd rfl 5 (by decide) (List.mem_cons_of_mem _ (List.mem_append_left _ (List.mem_append_left _ (List.mem_append_left _ (List.mem_append_left _ (List.mem_append_left _ (List.mem_of_getElem? (i := 3) rfl))))))) (fun _ h9 => h9) (v := .int (nI (kN (yK y i)))) rfl dX8_order_27 ?_
    refine t_isub hx hb dX8_order_30 (v := nI (20 - kN (yK y i))) (pk_sub (by omega)) ?_
    refine g_callS (As := [.int (nI q), .int (nI 1), .int (nI (20 - kN (yK y i)))]) (rest := [.ref h0]) (n := 3) S hE hI hA (c_X8_isIn l K _ (nI q) (nI 1) (nI (20 - kN (yK y i)))) gX8_order_X8_isIn rfl (by decide +kernel) ⟨Nat.le_of_ble_eq_true rfl, Nat.le_of_ble_eq_true rfl⟩ rfl hl.1 rfl (Nat.le_of_ble_eq_true rfl) dX8_order_31 ⟨Nat.le_of_ble_eq_true rfl, Nat.le_of_ble_eq_true rfl⟩ (fun E ce q9 Gx H1 locs1 hx9 => hx9.elim) (fun rv Gc_31 H locs hp hI => ?_)
    obtain ⟨rfl, hq9⟩ := hp
    rw [hq9] at hI
    rw [isI_inB (by decide) (by omega)]
    rw [hx1]
    refine W.eq (g2 := F0 m 34 ls [.int (bI true), .ref h0]) rfl ?_
    refine lv_if_ne (tgt := 41) hx hb dX8_order_34 (by decide) (fun c_34 => ?_) (fun c_34 => ?_)
    · skip
      have c_34 : true = true := bI_1.mp c_34
      refine lv_iconst (v := nI 0) hx hb dX8_order_41 (by decide) ?_
      refine lv_iconst (v := nI 2) hx hb dX8_order_42 (by decide) ?_
      refine g_callV (As := [.int (nI 0), .int (nI 2)]) (rest := []) (b := h0) (n := 2) S hE hI hA (c_ref l K _ L h0 y N false 2 hM (by decide)) gX8_order_X8_refuse rfl (by decide +kernel) ⟨Nat.le_of_ble_eq_true rfl, Nat.le_of_ble_eq_true rfl⟩ (g_hro hE hI hM.1 rfl) rfl hl.1 rfl (Nat.le_of_ble_eq_true rfl) dX8_order_43 ⟨Nat.le_of_ble_eq_true rfl, Nat.le_of_ble_eq_true rfl⟩ (fun E ce q9 Gx H1 locs1 hx9 => hx9.elim) (fun rv Gc_43 H locs hp hI => ?_)
      obtain ⟨rfl, hM, hg9⟩ := hp
      have hag := hag.tr hg9
      have hM : MdC K L h0 0 Gc_43 y N := hM
      obtain ⟨m1, ar1, hl1⟩ := hM.2.1.2.1.obj
      obtain ⟨m2, ar2, hl2⟩ := hM.2.1.2.2.1.obj
      obtain ⟨hkd, hkok⟩ := hM.2.1.2.2.2.2 i hi
      obtain ⟨k1, k2, k3, k4, k5, k6, k7, k8, k9⟩ := id hkok
      have hx1 : inB (nI q) 1 (20 - kN (yK y i)) = true := by rw [inB_nI (by omega)]; exact decide_eq_true (by omega)
      refine W.eq (g2 := F0 m 46 ls [.int (bI false)]) rfl ?_
      refine lv_if_eq (tgt := 51) hx hb dX8_order_46 (by decide) (fun c_46 => ?_) (fun c_46 => ?_)
      · skip
        have c_46 : false = false := bI_0.mp c_46
        refine lv_aload_n hx hb dX8_order_51 rfl (lv_at hl 0 rfl) ?_
        refine g_get S hE hI (C := RX8) (T := TX8) (N := 2) (ref := "StonecutterYardModel") (fun w h => (List.mem_cons_of_mem _ (List.mem_append_left _ (List.mem_append_left _ (List.mem_append_left _ (List.mem_append_right _ h)))))) hM.1 rfl 1 (by decide) (List.mem_cons_of_mem _ (List.mem_append_left _ (List.mem_append_left _ (List.mem_append_left _ (List.mem_append_left _ (List.mem_append_left _ (List.mem_of_getElem? (i := 0) rfl))))))) (fun _ h9 => h9) (v := .ref (L 30 0)) rfl dX8_order_52 ?_
        refine g_get S hE hI (C := RX7) (T := TX7) (N := 3) (ref := "StonecutterYardModel$Yard") (fun w h => (List.mem_cons_of_mem _ (List.mem_append_left _ (List.mem_append_left _ (List.mem_append_right _ h))))) hM.2.1.1.1 rfl 1 (by decide) (List.mem_cons_of_mem _ (List.mem_append_left _ (List.mem_append_left _ (List.mem_append_left _ (List.mem_append_left _ (List.mem_append_left _ (List.mem_of_getElem? (i := 1) rfl))))))) (fun _ h9 => h9) (v := .ref (L 33 0)) rfl dX8_order_55 ?_
        refine lv_iload_n hx hb dX8_order_58 rfl (lv_at hl 1 rfl) ?_
        refine g_callV (As := [.int (nI i)]) (rest := []) (b := (L 33 0)) (n := 1) S hE hI hA (l_get l K _ (5, 33, 0) (tbL 5 34) (L 33 0) (yKc y) (L 38) i hM.2.1.2.2.1 hi) gX8_order_Jx4a65c_get_915e3 rfl (by decide +kernel) ⟨Nat.le_of_ble_eq_true rfl, Nat.le_of_ble_eq_true rfl⟩ (g_hro hE hI hl2 rfl) rfl hl.1 rfl (Nat.le_of_ble_eq_true rfl) dX8_order_59 ⟨Nat.le_of_ble_eq_true rfl, Nat.le_of_ble_eq_true rfl⟩ (fun E ce q9 Gx H1 locs1 hx9 => hx9.elim) (fun rv Gc_59 H locs hp hI => ?_)
        obtain ⟨rfl, hq9⟩ := hp
        rw [hq9] at hI
        refine W.eq (g2 := F0 m 62 ls [.ref (L 38 i)]) rfl ?_
        refine g_cast S (List.mem_cons_of_mem _ (List.mem_append_left _ (List.mem_append_left _ (List.mem_append_left _ (List.mem_append_left _ (List.mem_append_left _ (List.mem_of_getElem? (i := 2) rfl))))))) (g_hro hE hI hkd rfl) dX8_order_62 ?_
        refine lv_dup hx hb dX8_order_65 rfl ?_
        refine g_get S hE hI (C := RX5) (T := TX5) (N := 8) (ref := "StonecutterYardModel$Kind") (fun w h => (List.mem_cons_of_mem _ (List.mem_append_left _ (List.mem_append_right _ h)))) hkd rfl 5 (by decide) (List.mem_cons_of_mem _ (List.mem_append_left _ (List.mem_append_left _ (List.mem_append_left _ (List.mem_append_left _ (List.mem_append_left _ (List.mem_of_getElem? (i := 3) rfl))))))) (fun _ h9 => h9) (v := .int (nI (kN (yK y i)))) rfl dX8_order_66 ?_
        refine lv_iload_n hx hb dX8_order_69 rfl (lv_at hl 2 rfl) ?_
        refine t_iadd hx hb dX8_order_70 (nI_add _ _) ?_
        refine g_put S hE hI (C := RX5) (T := TX5) (N := 8) (ref := "StonecutterYardModel$Kind") (fun w h => (List.mem_cons_of_mem _ (List.mem_append_left _ (List.mem_append_right _ h)))) tyX5 tyX5_ok nmX5 hkd rfl 5 (by decide) (List.mem_cons_of_mem _ (List.mem_append_left _ (List.mem_append_left _ (List.mem_append_left _ (List.mem_append_left _ (List.mem_append_left _ (List.mem_of_getElem? (i := 3) rfl))))))) (fun _ h9 => h9) rfl rfl rfl (Nat.le_of_ble_eq_true rfl) dX8_order_71 (fun H locs hI => ?_)
        have hI : gI K A s (gset Gc_43 (5, 38, i) (L 38 i) (.inr (6, [.int (nI (kL (yK y i))), .int (nI (kB (yK y i))), .int (nI (kW (yK y i))), .int (nI (kF (yK y i))), .int (nI (kP (yK y i))), .int (nI ((kN (yK y i)) + q)), .int (nI (kT (yK y i))), .int (nI (kD (yK y i)))]))) H locs := hI
        obtain ⟨G_1, hG_1⟩ : ∃ z, z = gset Gc_43 (5, 38, i) (L 38 i) (.inr (6, [.int (nI (kL (yK y i))), .int (nI (kB (yK y i))), .int (nI (kW (yK y i))), .int (nI (kF (yK y i))), .int (nI (kP (yK y i))), .int (nI ((kN (yK y i)) + q)), .int (nI (kT (yK y i))), .int (nI (kD (yK y i)))])) := ⟨_, rfl⟩
        rw [← hG_1] at hI
        have o_G_1 : G_1 (9, 0, 0) = some (h0, .inr (9, [.int (nI 0), .ref (L 30 0)])) := by rw [hG_1, gset_ne (by simp)]; exact hM.1
        have yd_G_1 : G_1 (5, 30, 0) = some ((L 30 0), .inr (8, [.ref (L 31 0), .ref (L 33 0), .int (nI (yF y))])) := by rw [hG_1, gset_ne (by simp)]; exact hM.2.1.1.1
        have ls_G_1 : G_1 (5, 31, 0) = some ((L 31 0), .inr (0, [.int m1, .ref ar1, .int (nI (ySc y))])) := by rw [hG_1, gset_ne (by simp)]; exact hl1
        have lk_G_1 : G_1 (5, 33, 0) = some ((L 33 0), .inr (0, [.int m2, .ref ar2, .int (nI (yKc y))])) := by rw [hG_1, gset_ne (by simp)]; exact hl2
        have k_G_1 : G_1 (5, 38, i) = some ((L 38 i), .inr (6, [.int (nI (kL (yK y i))), .int (nI (kB (yK y i))), .int (nI (kW (yK y i))), .int (nI (kF (yK y i))), .int (nI (kP (yK y i))), .int (nI ((kN (yK y i)) + q)), .int (nI (kT (yK y i))), .int (nI (kD (yK y i)))])) := by rw [hG_1]; exact gset_eq _ _ _ _
        have hMY : MY K 5 L G_1 (ySetK y i (kOrd (yK y i) q)) N := by rw [hG_1]; exact hM.2.1.setK (by decide) ⟨k1, k2, k3, k4, k5, k6, k7, k8, by show kN (yK y i) + q ≤ 20; omega⟩
        have hM9 : MdC K L h0 0 G_1 (ySetK y i (kOrd (yK y i) q)) N := ⟨o_G_1, hMY, by decide, h40⟩
        obtain ⟨mK9, arK9, hlk9⟩ := hMY.2.2.1.obj
        refine lv_aload_n hx hb dX8_order_74 rfl (lv_at hl 0 rfl) ?_
        refine g_get S hE hI (C := RX8) (T := TX8) (N := 2) (ref := "StonecutterYardModel") (fun w h => (List.mem_cons_of_mem _ (List.mem_append_left _ (List.mem_append_left _ (List.mem_append_left _ (List.mem_append_right _ h)))))) hM9.1 rfl 1 (by decide) (List.mem_cons_of_mem _ (List.mem_append_left _ (List.mem_append_left _ (List.mem_append_left _ (List.mem_append_left _ (List.mem_append_left _ (List.mem_of_getElem? (i := 0) rfl))))))) (fun _ h9 => h9) (v := .ref (L 30 0)) rfl dX8_order_75 ?_
        refine g_get S hE hI (C := RX7) (T := TX7) (N := 3) (ref := "StonecutterYardModel$Yard") (fun w h => (List.mem_cons_of_mem _ (List.mem_append_left _ (List.mem_append_left _ (List.mem_append_right _ h))))) hM9.2.1.1.1 rfl 1 (by decide) (List.mem_cons_of_mem _ (List.mem_append_left _ (List.mem_append_left _ (List.mem_append_left _ (List.mem_append_left _ (List.mem_append_left _ (List.mem_of_getElem? (i := 1) rfl))))))) (fun _ h9 => h9) (v := .ref (L 33 0)) rfl dX8_order_78 ?_
        refine lv_iload_n hx hb dX8_order_81 rfl (lv_at hl 1 rfl) ?_
        refine g_callV (As := [.int (nI i)]) (rest := []) (b := (L 33 0)) (n := 1) S hE hI hA (l_get l K _ (5, 33, 0) (tbL 5 34) (L 33 0) (yKc y) (L 38) i hMY.2.2.1 hi) gX8_order_Jx4a65c_get_915e3 rfl (by decide +kernel) ⟨Nat.le_of_ble_eq_true rfl, Nat.le_of_ble_eq_true rfl⟩ (g_hro hE hI hlk9 rfl) rfl hl.1 rfl (Nat.le_of_ble_eq_true rfl) dX8_order_82 ⟨Nat.le_of_ble_eq_true rfl, Nat.le_of_ble_eq_true rfl⟩ (fun E ce q9 Gx H1 locs1 hx9 => hx9.elim) (fun rv Gc_82 H locs hp hI => ?_)
        obtain ⟨rfl, hq9⟩ := hp
        rw [hq9] at hI
        refine W.eq (g2 := F0 m 85 ls [.ref (L 38 i)]) rfl ?_
        refine g_cast S (List.mem_cons_of_mem _ (List.mem_append_left _ (List.mem_append_left _ (List.mem_append_left _ (List.mem_append_left _ (List.mem_append_left _ (List.mem_of_getElem? (i := 2) rfl))))))) (g_hro hE hI k_G_1 rfl) dX8_order_85 ?_
        refine g_get S hE hI (C := RX5) (T := TX5) (N := 8) (ref := "StonecutterYardModel$Kind") (fun w h => (List.mem_cons_of_mem _ (List.mem_append_left _ (List.mem_append_right _ h)))) k_G_1 rfl 5 (by decide) (List.mem_cons_of_mem _ (List.mem_append_left _ (List.mem_append_left _ (List.mem_append_left _ (List.mem_append_left _ (List.mem_append_left _ (List.mem_of_getElem? (i := 3) rfl))))))) (fun _ h9 => h9) (v := .int (nI ((kN (yK y i)) + q))) rfl dX8_order_88 ?_
        exact g_iret S hI hr hlocks (Nat.zero_le _) (Nat.zero_le _) dX8_order_91 (mOk ho hM9 (hag.tr (by rw [hG_1]; exact AgM.rf.st (by decide))))
      · skip
        have c_46 : false = true := bI_1.mp c_46
        cases c_46
    · skip
      have c_34 : true = false := bI_0.mp c_34
      cases c_34
set_option maxHeartbeats 4000000 in
set_option maxRecDepth 100000 in
/-- X8_ofKind: ofKindA -/
theorem m_ofKindA (l : Launch) (K : gK) (G : gW) (L : Nat → Nat → Nat) (h0 th : Nat) (y : YV) (N : Nat) (x w : Int32) (hM : MdC K L h0 th G y N) (hxn : ∀ q, q < yKc y → x ≠ nI q) (hr9 : inR x (yKc y) = false) : gM l yX8_ofKind wsX8_ofKind 5 105 1 8 K [.ref h0, .int x, .int w] G (mPost K h0 G (oOfKind y x w)) (gNo) := by
  refine gM.of (cc := cX8_ofKind) (maxL := 3) (ret := (some .int)) (by decide) rfl (Nat.le_of_ble_eq_true rfl) ?_
  intro p e s m below meth c A S hr hlocks htab hname hE hA hI ls hl
  have hx := S.1
  have hb := S.2.1
  have hml := S.2.2.1
  have hl : lv_has ls 3 [(0, .ref h0), (1, .int x), (2, .int w)] := hl
  have h44 := hM.2.1.1.2.2.1
  have h6 := hM.2.1.1.2.2.2
  have hf2 := hM.2.1.1.2.1
  have h40 := hM.2.2.2
  have hth := hM.2.2.1
  have hag : AgM G G := AgM.rf
  obtain ⟨m1, ar1, hl1⟩ := hM.2.1.2.1.obj
  obtain ⟨m2, ar2, hl2⟩ := hM.2.1.2.2.1.obj
  have ho : oOfKind y x w = (1, 0, y) := by unfold oOfKind; rw [if_neg (by rw [hr9]; decide)]
  obtain ⟨H, hHe⟩ : ∃ z, z = s.heap := ⟨_, rfl⟩
  obtain ⟨locs, hLe⟩ : ∃ z : List Loc, z = [] := ⟨_, rfl⟩
  rw [← hHe, ← hLe]
  have hI : gI K A s G H locs := by rw [hHe, hLe]; exact hI
  clear hHe hLe
  refine lv_aload_n hx hb dX8_ofKind_0 rfl (lv_at hl 0 rfl) ?_
  refine lv_iload_n hx hb dX8_ofKind_1 rfl (lv_at hl 1 rfl) ?_
  refine g_callV (As := [.int x]) (rest := []) (b := h0) (n := 1) S hE hI hA (c_X8_isNoKind l K _ L h0 th y N x hM) gX8_ofKind_X8_isNoKind rfl (by decide +kernel) ⟨Nat.le_of_ble_eq_true rfl, Nat.le_of_ble_eq_true rfl⟩ (g_hro hE hI hM.1 rfl) rfl hl.1 rfl (Nat.le_of_ble_eq_true rfl) dX8_ofKind_2 ⟨Nat.le_of_ble_eq_true rfl, Nat.le_of_ble_eq_true rfl⟩ (fun E ce q9 Gx H1 locs1 hx9 => hx9.elim) (fun rv Gc_2 H locs hp hI => ?_)
  obtain ⟨rfl, hM, hg9⟩ := hp
  have hag := hag.tr hg9
  rw [hr9]
  rw [hr9] at hM
  have hM : MdC K L h0 1 Gc_2 y N := hM
  obtain ⟨m1, ar1, hl1⟩ := hM.2.1.2.1.obj
  obtain ⟨m2, ar2, hl2⟩ := hM.2.1.2.2.1.obj
  refine W.eq (g2 := F0 m 5 ls [.int (bI true)]) rfl ?_
  refine lv_if_ne (tgt := 31) hx hb dX8_ofKind_5 (by decide) (fun c_5 => ?_) (fun c_5 => ?_)
  · skip
    have c_5 : true = true := bI_1.mp c_5
    refine lv_iconst (v := nI 0) hx hb dX8_ofKind_31 (by decide) ?_
    refine lv_goto (tgt := 53) hx hb dX8_ofKind_32 (by decide) ?_
    exact g_iret S hI hr hlocks (Nat.zero_le _) (Nat.zero_le _) dX8_ofKind_53 (mThrow ho (by decide) hM hag)
  · skip
    have c_5 : true = false := bI_0.mp c_5
    cases c_5
set_option maxHeartbeats 4000000 in
set_option maxRecDepth 100000 in
/-- X8_ofKind: ofKindB -/
theorem m_ofKindB (l : Launch) (K : gK) (G : gW) (L : Nat → Nat → Nat) (h0 th : Nat) (y : YV) (N : Nat) (i : Nat) (w : Int32) (hM : MdC K L h0 th G y N) (hi : i < yKc y) (hw9 : inR w 8 = false) : gM l yX8_ofKind wsX8_ofKind 5 105 1 8 K [.ref h0, .int (nI i), .int w] G (mPost K h0 G (oOfKind y (nI i) w)) (gNo) := by
  refine gM.of (cc := cX8_ofKind) (maxL := 3) (ret := (some .int)) (by decide) rfl (Nat.le_of_ble_eq_true rfl) ?_
  intro p e s m below meth c A S hr hlocks htab hname hE hA hI ls hl
  have hx := S.1
  have hb := S.2.1
  have hml := S.2.2.1
  have hl : lv_has ls 3 [(0, .ref h0), (1, .int (nI i)), (2, .int w)] := hl
  have h44 := hM.2.1.1.2.2.1
  have h6 := hM.2.1.1.2.2.2
  have hf2 := hM.2.1.1.2.1
  have h40 := hM.2.2.2
  have hth := hM.2.2.1
  have hag : AgM G G := AgM.rf
  have hri : inR (nI i) (yKc y) = true := inR_nI hi (by omega)
  have hiN : iN (nI i) = i := iN_nI (by omega)
  obtain ⟨m1, ar1, hl1⟩ := hM.2.1.2.1.obj
  obtain ⟨m2, ar2, hl2⟩ := hM.2.1.2.2.1.obj
  have hw8 : inB w 0 7 = false := (inB0 (n := 7)).trans hw9
  have ho : oOfKind y (nI i) w = (2, 0, y) := by unfold oOfKind; rw [if_pos hri, if_neg (by rw [hw9]; decide)]
  obtain ⟨H, hHe⟩ : ∃ z, z = s.heap := ⟨_, rfl⟩
  obtain ⟨locs, hLe⟩ : ∃ z : List Loc, z = [] := ⟨_, rfl⟩
  rw [← hHe, ← hLe]
  have hI : gI K A s G H locs := by rw [hHe, hLe]; exact hI
  clear hHe hLe
  refine lv_aload_n hx hb dX8_ofKind_0 rfl (lv_at hl 0 rfl) ?_
  refine lv_iload_n hx hb dX8_ofKind_1 rfl (lv_at hl 1 rfl) ?_
  refine g_callV (As := [.int (nI i)]) (rest := []) (b := h0) (n := 1) S hE hI hA (c_X8_isNoKind l K _ L h0 th y N (nI i) hM) gX8_ofKind_X8_isNoKind rfl (by decide +kernel) ⟨Nat.le_of_ble_eq_true rfl, Nat.le_of_ble_eq_true rfl⟩ (g_hro hE hI hM.1 rfl) rfl hl.1 rfl (Nat.le_of_ble_eq_true rfl) dX8_ofKind_2 ⟨Nat.le_of_ble_eq_true rfl, Nat.le_of_ble_eq_true rfl⟩ (fun E ce q9 Gx H1 locs1 hx9 => hx9.elim) (fun rv Gc_2 H locs hp hI => ?_)
  obtain ⟨rfl, hM, hg9⟩ := hp
  have hag := hag.tr hg9
  rw [hri]
  rw [hri] at hM
  have hM : MdC K L h0 0 Gc_2 y N := hM
  obtain ⟨m1, ar1, hl1⟩ := hM.2.1.2.1.obj
  obtain ⟨m2, ar2, hl2⟩ := hM.2.1.2.2.1.obj
  refine W.eq (g2 := F0 m 5 ls [.int (bI false)]) rfl ?_
  refine lv_if_ne (tgt := 31) hx hb dX8_ofKind_5 (by decide) (fun c_5 => ?_) (fun c_5 => ?_)
  · skip
    have c_5 : false = true := bI_1.mp c_5
    cases c_5
  · skip
    have c_5 : false = false := bI_0.mp c_5
    refine lv_aload_n hx hb dX8_ofKind_8 rfl (lv_at hl 0 rfl) ?_
    refine lv_iload_n hx hb dX8_ofKind_9 rfl (lv_at hl 2 rfl) ?_
    refine lv_iconst (v := nI 0) hx hb dX8_ofKind_10 (by decide) ?_
    refine lv_bipush (v := nI 7) hx hb dX8_ofKind_11 (by decide) ?_
    refine g_callS (As := [.int w, .int (nI 0), .int (nI 7)]) (rest := [.ref h0]) (n := 3) S hE hI hA (c_X8_isIn l K _ w (nI 0) (nI 7)) gX8_ofKind_X8_isIn rfl (by decide +kernel) ⟨Nat.le_of_ble_eq_true rfl, Nat.le_of_ble_eq_true rfl⟩ rfl hl.1 rfl (Nat.le_of_ble_eq_true rfl) dX8_ofKind_13 ⟨Nat.le_of_ble_eq_true rfl, Nat.le_of_ble_eq_true rfl⟩ (fun E ce q9 Gx H1 locs1 hx9 => hx9.elim) (fun rv Gc_13 H locs hp hI => ?_)
    obtain ⟨rfl, hq9⟩ := hp
    rw [hq9] at hI
    rw [isI_inB (by decide) (by decide)]
    rw [hw8]
    refine W.eq (g2 := F0 m 16 ls [.int (bI false), .ref h0]) rfl ?_
    refine lv_if_ne (tgt := 23) hx hb dX8_ofKind_16 (by decide) (fun c_16 => ?_) (fun c_16 => ?_)
    · skip
      have c_16 : false = true := bI_1.mp c_16
      cases c_16
    · skip
      have c_16 : false = false := bI_0.mp c_16
      refine lv_iconst (v := nI 1) hx hb dX8_ofKind_19 (by decide) ?_
      refine lv_goto (tgt := 24) hx hb dX8_ofKind_20 (by decide) ?_
      refine lv_iconst (v := nI 2) hx hb dX8_ofKind_24 (by decide) ?_
      refine g_callV (As := [.int (nI 1), .int (nI 2)]) (rest := []) (b := h0) (n := 2) S hE hI hA (c_ref l K _ L h0 y N true 2 hM (by decide)) gX8_ofKind_X8_refuse rfl (by decide +kernel) ⟨Nat.le_of_ble_eq_true rfl, Nat.le_of_ble_eq_true rfl⟩ (g_hro hE hI hM.1 rfl) rfl hl.1 rfl (Nat.le_of_ble_eq_true rfl) dX8_ofKind_25 ⟨Nat.le_of_ble_eq_true rfl, Nat.le_of_ble_eq_true rfl⟩ (fun E ce q9 Gx H1 locs1 hx9 => hx9.elim) (fun rv Gc_25 H locs hp hI => ?_)
      obtain ⟨rfl, hM, hg9⟩ := hp
      have hag := hag.tr hg9
      have hM : MdC K L h0 2 Gc_25 y N := hM
      obtain ⟨m1, ar1, hl1⟩ := hM.2.1.2.1.obj
      obtain ⟨m2, ar2, hl2⟩ := hM.2.1.2.2.1.obj
      refine W.eq (g2 := F0 m 28 ls [.int (bI true)]) rfl ?_
      refine lv_if_eq (tgt := 35) hx hb dX8_ofKind_28 (by decide) (fun c_28 => ?_) (fun c_28 => ?_)
      · skip
        have c_28 : true = false := bI_0.mp c_28
        cases c_28
      · skip
        have c_28 : true = true := bI_1.mp c_28
        refine lv_iconst (v := nI 0) hx hb dX8_ofKind_31 (by decide) ?_
        refine lv_goto (tgt := 53) hx hb dX8_ofKind_32 (by decide) ?_
        exact g_iret S hI hr hlocks (Nat.zero_le _) (Nat.zero_le _) dX8_ofKind_53 (mThrow ho (by decide) hM hag)
set_option maxHeartbeats 4000000 in
set_option maxRecDepth 100000 in
/-- X8_ofKind: ofKindC -/
theorem m_ofKindC (l : Launch) (K : gK) (G : gW) (L : Nat → Nat → Nat) (h0 th : Nat) (y : YV) (N : Nat) (i j : Nat) (hM : MdC K L h0 th G y N) (hi : i < yKc y) (hj : j < 8) : gM l yX8_ofKind wsX8_ofKind 5 105 1 8 K [.ref h0, .int (nI i), .int (nI j)] G (mPost K h0 G (oOfKind y (nI i) (nI j))) (gNo) := by
  refine gM.of (cc := cX8_ofKind) (maxL := 3) (ret := (some .int)) (by decide) rfl (Nat.le_of_ble_eq_true rfl) ?_
  intro p e s m below meth c A S hr hlocks htab hname hE hA hI ls hl
  have hx := S.1
  have hb := S.2.1
  have hml := S.2.2.1
  have hl : lv_has ls 3 [(0, .ref h0), (1, .int (nI i)), (2, .int (nI j))] := hl
  have h44 := hM.2.1.1.2.2.1
  have h6 := hM.2.1.1.2.2.2
  have hf2 := hM.2.1.1.2.1
  have h40 := hM.2.2.2
  have hth := hM.2.2.1
  have hag : AgM G G := AgM.rf
  obtain ⟨m1, ar1, hl1⟩ := hM.2.1.2.1.obj
  obtain ⟨m2, ar2, hl2⟩ := hM.2.1.2.2.1.obj
  obtain ⟨hkd, hkok⟩ := hM.2.1.2.2.2.2 i hi
  obtain ⟨k1, k2, k3, k4, k5, k6, k7, k8, k9⟩ := id hkok
  have hri : inR (nI i) (yKc y) = true := inR_nI hi (by omega)
  have hiN : iN (nI i) = i := iN_nI (by omega)
  have hx9 : inB (nI j) 0 7 = true := by rw [inB_nI (by omega)]; exact decide_eq_true (by omega)
  have ho : oOfKind y (nI i) (nI j) = (0, kOf (yK y i) j, y) := by unfold oOfKind; rw [if_pos hri, if_pos (inR_nI hj (by decide)), hiN, iN_nI (by omega)]
  obtain ⟨H, hHe⟩ : ∃ z, z = s.heap := ⟨_, rfl⟩
  obtain ⟨locs, hLe⟩ : ∃ z : List Loc, z = [] := ⟨_, rfl⟩
  rw [← hHe, ← hLe]
  have hI : gI K A s G H locs := by rw [hHe, hLe]; exact hI
  clear hHe hLe
  refine lv_aload_n hx hb dX8_ofKind_0 rfl (lv_at hl 0 rfl) ?_
  refine lv_iload_n hx hb dX8_ofKind_1 rfl (lv_at hl 1 rfl) ?_
  refine g_callV (As := [.int (nI i)]) (rest := []) (b := h0) (n := 1) S hE hI hA (c_X8_isNoKind l K _ L h0 th y N (nI i) hM) gX8_ofKind_X8_isNoKind rfl (by decide +kernel) ⟨Nat.le_of_ble_eq_true rfl, Nat.le_of_ble_eq_true rfl⟩ (g_hro hE hI hM.1 rfl) rfl hl.1 rfl (Nat.le_of_ble_eq_true rfl) dX8_ofKind_2 ⟨Nat.le_of_ble_eq_true rfl, Nat.le_of_ble_eq_true rfl⟩ (fun E ce q9 Gx H1 locs1 hx9 => hx9.elim) (fun rv Gc_2 H locs hp hI => ?_)
  obtain ⟨rfl, hM, hg9⟩ := hp
  have hag := hag.tr hg9
  rw [hri]
  rw [hri] at hM
  have hM : MdC K L h0 0 Gc_2 y N := hM
  obtain ⟨m1, ar1, hl1⟩ := hM.2.1.2.1.obj
  obtain ⟨m2, ar2, hl2⟩ := hM.2.1.2.2.1.obj
  obtain ⟨hkd, hkok⟩ := hM.2.1.2.2.2.2 i hi
  obtain ⟨k1, k2, k3, k4, k5, k6, k7, k8, k9⟩ := id hkok
  refine W.eq (g2 := F0 m 5 ls [.int (bI false)]) rfl ?_
  refine lv_if_ne (tgt := 31) hx hb dX8_ofKind_5 (by decide) (fun c_5 => ?_) (fun c_5 => ?_)
  · skip
    have c_5 : false = true := bI_1.mp c_5
    cases c_5
  · skip
    have c_5 : false = false := bI_0.mp c_5
    refine lv_aload_n hx hb dX8_ofKind_8 rfl (lv_at hl 0 rfl) ?_
    refine lv_iload_n hx hb dX8_ofKind_9 rfl (lv_at hl 2 rfl) ?_
    refine lv_iconst (v := nI 0) hx hb dX8_ofKind_10 (by decide) ?_
    refine lv_bipush (v := nI 7) hx hb dX8_ofKind_11 (by decide) ?_
    refine g_callS (As := [.int (nI j), .int (nI 0), .int (nI 7)]) (rest := [.ref h0]) (n := 3) S hE hI hA (c_X8_isIn l K _ (nI j) (nI 0) (nI 7)) gX8_ofKind_X8_isIn rfl (by decide +kernel) ⟨Nat.le_of_ble_eq_true rfl, Nat.le_of_ble_eq_true rfl⟩ rfl hl.1 rfl (Nat.le_of_ble_eq_true rfl) dX8_ofKind_13 ⟨Nat.le_of_ble_eq_true rfl, Nat.le_of_ble_eq_true rfl⟩ (fun E ce q9 Gx H1 locs1 hx9 => hx9.elim) (fun rv Gc_13 H locs hp hI => ?_)
    obtain ⟨rfl, hq9⟩ := hp
    rw [hq9] at hI
    rw [isI_inB (by decide) (by decide)]
    rw [hx9]
    refine W.eq (g2 := F0 m 16 ls [.int (bI true), .ref h0]) rfl ?_
    refine lv_if_ne (tgt := 23) hx hb dX8_ofKind_16 (by decide) (fun c_16 => ?_) (fun c_16 => ?_)
    · skip
      have c_16 : true = true := bI_1.mp c_16
      refine lv_iconst (v := nI 0) hx hb dX8_ofKind_23 (by decide) ?_
      refine lv_iconst (v := nI 2) hx hb dX8_ofKind_24 (by decide) ?_
      refine g_callV (As := [.int (nI 0), .int (nI 2)]) (rest := []) (b := h0) (n := 2) S hE hI hA (c_ref l K _ L h0 y N false 2 hM (by decide)) gX8_ofKind_X8_refuse rfl (by decide +kernel) ⟨Nat.le_of_ble_eq_true rfl, Nat.le_of_ble_eq_true rfl⟩ (g_hro hE hI hM.1 rfl) rfl hl.1 rfl (Nat.le_of_ble_eq_true rfl) dX8_ofKind_25 ⟨Nat.le_of_ble_eq_true rfl, Nat.le_of_ble_eq_true rfl⟩ (fun E ce q9 Gx H1 locs1 hx9 => hx9.elim) (fun rv Gc_25 H locs hp hI => ?_)
      obtain ⟨rfl, hM, hg9⟩ := hp
      have hag := hag.tr hg9
      have hM : MdC K L h0 0 Gc_25 y N := hM
      obtain ⟨m1, ar1, hl1⟩ := hM.2.1.2.1.obj
      obtain ⟨m2, ar2, hl2⟩ := hM.2.1.2.2.1.obj
      obtain ⟨hkd, hkok⟩ := hM.2.1.2.2.2.2 i hi
      obtain ⟨k1, k2, k3, k4, k5, k6, k7, k8, k9⟩ := id hkok
      refine W.eq (g2 := F0 m 28 ls [.int (bI false)]) rfl ?_
      refine lv_if_eq (tgt := 35) hx hb dX8_ofKind_28 (by decide) (fun c_28 => ?_) (fun c_28 => ?_)
      · skip
        have c_28 : false = false := bI_0.mp c_28
        refine lv_aload_n hx hb dX8_ofKind_35 rfl (lv_at hl 0 rfl) ?_
        refine g_get S hE hI (C := RX8) (T := TX8) (N := 2) (ref := "StonecutterYardModel") (fun w h => (List.mem_cons_of_mem _ (List.mem_append_left _ (List.mem_append_left _ (List.mem_append_left _ (List.mem_append_right _ h)))))) hM.1 rfl 1 (by decide) (List.mem_cons_of_mem _ (List.mem_append_left _ (List.mem_append_left _ (List.mem_append_left _ (List.mem_append_left _ (List.mem_append_left _ (List.mem_of_getElem? (i := 0) rfl))))))) (fun _ h9 => h9) (v := .ref (L 30 0)) rfl dX8_ofKind_36 ?_
        refine g_get S hE hI (C := RX7) (T := TX7) (N := 3) (ref := "StonecutterYardModel$Yard") (fun w h => (List.mem_cons_of_mem _ (List.mem_append_left _ (List.mem_append_left _ (List.mem_append_right _ h))))) hM.2.1.1.1 rfl 1 (by decide) (List.mem_cons_of_mem _ (List.mem_append_left _ (List.mem_append_left _ (List.mem_append_left _ (List.mem_append_left _ (List.mem_append_left _ (List.mem_of_getElem? (i := 1) rfl))))))) (fun _ h9 => h9) (v := .ref (L 33 0)) rfl dX8_ofKind_39 ?_
        refine lv_iload_n hx hb dX8_ofKind_42 rfl (lv_at hl 1 rfl) ?_
        refine g_callV (As := [.int (nI i)]) (rest := []) (b := (L 33 0)) (n := 1) S hE hI hA (l_get l K _ (5, 33, 0) (tbL 5 34) (L 33 0) (yKc y) (L 38) i hM.2.1.2.2.1 hi) gX8_ofKind_Jx4a65c_get_915e3 rfl (by decide +kernel) ⟨Nat.le_of_ble_eq_true rfl, Nat.le_of_ble_eq_true rfl⟩ (g_hro hE hI hl2 rfl) rfl hl.1 rfl (Nat.le_of_ble_eq_true rfl) dX8_ofKind_43 ⟨Nat.le_of_ble_eq_true rfl, Nat.le_of_ble_eq_true rfl⟩ (fun E ce q9 Gx H1 locs1 hx9 => hx9.elim) (fun rv Gc_43 H locs hp hI => ?_)
        obtain ⟨rfl, hq9⟩ := hp
        rw [hq9] at hI
        refine W.eq (g2 := F0 m 46 ls [.ref (L 38 i)]) rfl ?_
        refine g_cast S (List.mem_cons_of_mem _ (List.mem_append_left _ (List.mem_append_left _ (List.mem_append_left _ (List.mem_append_left _ (List.mem_append_left _ (List.mem_of_getElem? (i := 2) rfl))))))) (g_hro hE hI hkd rfl) dX8_ofKind_46 ?_
        refine lv_iload_n hx hb dX8_ofKind_49 rfl (lv_at hl 2 rfl) ?_
        refine g_callS (As := [.ref (L 38 i), .int (nI j)]) (rest := []) (n := 2) S hE hI hA (c_X8_of__ l K _ L h0 0 y N i j hM hi hj) gX8_ofKind_X8_of__ rfl (by decide +kernel) ⟨Nat.le_of_ble_eq_true rfl, Nat.le_of_ble_eq_true rfl⟩ rfl hl.1 rfl (Nat.le_of_ble_eq_true rfl) dX8_ofKind_50 ⟨by show _ ≤ 1; omega, by show _ ≤ 8; omega⟩ (fun E ce q9 Gx H1 locs1 hx9 => hx9.elim) (fun rv Gc_50 H locs hp hI => ?_)
        obtain ⟨rfl, hw9⟩ := hp
        refine W.eq (g2 := F0 m 53 ls [.int (kOf (yK y i) j)]) rfl ?_
        exact g_iret S hI hr hlocks (by omega) (by omega) dX8_ofKind_53 (mOk ho (hM.m13 hw9) (hag.tr (ag13 hw9)))
      · skip
        have c_28 : false = true := bI_1.mp c_28
        cases c_28
    · skip
      have c_16 : true = false := bI_0.mp c_16
      cases c_16
set_option maxHeartbeats 4000000 in
set_option maxRecDepth 100000 in
/-- X8_fits: fitsA -/
theorem m_fitsA (l : Launch) (K : gK) (G : gW) (L : Nat → Nat → Nat) (h0 th : Nat) (y : YV) (N : Nat) (x k : Int32) (hM : MdC K L h0 th G y N) (hxn : ∀ q, q < ySc y → x ≠ nI q) (hr9 : inR x (ySc y) = false) : gM l yX8_fits wsX8_fits 7 150 0 0 K [.ref h0, .int x, .int k] G (mPost K h0 G (oFits y x k)) (gNo) := by
  refine gM.of (cc := cX8_fits) (maxL := 3) (ret := (some .int)) (by decide) rfl (Nat.le_of_ble_eq_true rfl) ?_
  intro p e s m below meth c A S hr hlocks htab hname hE hA hI ls hl
  have hx := S.1
  have hb := S.2.1
  have hml := S.2.2.1
  have hl : lv_has ls 3 [(0, .ref h0), (1, .int x), (2, .int k)] := hl
  have h44 := hM.2.1.1.2.2.1
  have h6 := hM.2.1.1.2.2.2
  have hf2 := hM.2.1.1.2.1
  have h40 := hM.2.2.2
  have hth := hM.2.2.1
  have hag : AgM G G := AgM.rf
  obtain ⟨m1, ar1, hl1⟩ := hM.2.1.2.1.obj
  obtain ⟨m2, ar2, hl2⟩ := hM.2.1.2.2.1.obj
  have ho : oFits y x k = (1, 0, y) := by unfold oFits; rw [if_neg (by rw [hr9]; simp)]
  obtain ⟨H, hHe⟩ : ∃ z, z = s.heap := ⟨_, rfl⟩
  obtain ⟨locs, hLe⟩ : ∃ z : List Loc, z = [] := ⟨_, rfl⟩
  rw [← hHe, ← hLe]
  have hI : gI K A s G H locs := by rw [hHe, hLe]; exact hI
  clear hHe hLe
  refine lv_aload_n hx hb dX8_fits_0 rfl (lv_at hl 0 rfl) ?_
  refine lv_iload_n hx hb dX8_fits_1 rfl (lv_at hl 1 rfl) ?_
  refine lv_iload_n hx hb dX8_fits_2 rfl (lv_at hl 2 rfl) ?_
  refine g_callV (As := [.int x, .int k]) (rest := []) (b := h0) (n := 2) S hE hI hA (c_pairA l K _ L h0 th y N x k hM hr9) gX8_fits_X8_isNoPair rfl (by decide +kernel) ⟨Nat.le_of_ble_eq_true rfl, Nat.le_of_ble_eq_true rfl⟩ (g_hro hE hI hM.1 rfl) rfl hl.1 rfl (Nat.le_of_ble_eq_true rfl) dX8_fits_3 ⟨Nat.le_of_ble_eq_true rfl, Nat.le_of_ble_eq_true rfl⟩ (fun E ce q9 Gx H1 locs1 hx9 => hx9.elim) (fun rv Gc_3 H locs hp hI => ?_)
  obtain ⟨rfl, hM, hg9⟩ := hp
  have hag := hag.tr hg9
  have hM : MdC K L h0 1 Gc_3 y N := hM
  obtain ⟨m1, ar1, hl1⟩ := hM.2.1.2.1.obj
  obtain ⟨m2, ar2, hl2⟩ := hM.2.1.2.2.1.obj
  refine W.eq (g2 := F0 m 6 ls [.int (bI true)]) rfl ?_
  refine lv_if_eq (tgt := 13) hx hb dX8_fits_6 (by decide) (fun c_6 => ?_) (fun c_6 => ?_)
  · skip
    have c_6 : true = false := bI_0.mp c_6
    cases c_6
  · skip
    have c_6 : true = true := bI_1.mp c_6
    refine lv_iconst (v := nI 0) hx hb dX8_fits_9 (by decide) ?_
    refine lv_goto (tgt := 35) hx hb dX8_fits_10 (by decide) ?_
    exact g_iret S hI hr hlocks (Nat.zero_le _) (Nat.zero_le _) dX8_fits_35 (mThrow ho (by decide) hM hag)
set_option maxHeartbeats 4000000 in
set_option maxRecDepth 100000 in
/-- X8_fits: fitsB -/
theorem m_fitsB (l : Launch) (K : gK) (G : gW) (L : Nat → Nat → Nat) (h0 th : Nat) (y : YV) (N : Nat) (i : Nat) (x : Int32) (hM : MdC K L h0 th G y N) (hi : i < ySc y) (hxn : ∀ q, q < yKc y → x ≠ nI q) (hr9 : inR x (yKc y) = false) : gM l yX8_fits wsX8_fits 7 150 0 0 K [.ref h0, .int (nI i), .int x] G (mPost K h0 G (oFits y (nI i) x)) (gNo) := by
  refine gM.of (cc := cX8_fits) (maxL := 3) (ret := (some .int)) (by decide) rfl (Nat.le_of_ble_eq_true rfl) ?_
  intro p e s m below meth c A S hr hlocks htab hname hE hA hI ls hl
  have hx := S.1
  have hb := S.2.1
  have hml := S.2.2.1
  have hl : lv_has ls 3 [(0, .ref h0), (1, .int (nI i)), (2, .int x)] := hl
  have h44 := hM.2.1.1.2.2.1
  have h6 := hM.2.1.1.2.2.2
  have hf2 := hM.2.1.1.2.1
  have h40 := hM.2.2.2
  have hth := hM.2.2.1
  have hag : AgM G G := AgM.rf
  have hri : inR (nI i) (ySc y) = true := inR_nI hi (by omega)
  have hiN : iN (nI i) = i := iN_nI (by omega)
  obtain ⟨m1, ar1, hl1⟩ := hM.2.1.2.1.obj
  obtain ⟨m2, ar2, hl2⟩ := hM.2.1.2.2.1.obj
  have ho : oFits y (nI i) x = (1, 0, y) := by unfold oFits; rw [if_neg (by rw [hr9]; simp)]
  obtain ⟨H, hHe⟩ : ∃ z, z = s.heap := ⟨_, rfl⟩
  obtain ⟨locs, hLe⟩ : ∃ z : List Loc, z = [] := ⟨_, rfl⟩
  rw [← hHe, ← hLe]
  have hI : gI K A s G H locs := by rw [hHe, hLe]; exact hI
  clear hHe hLe
  refine lv_aload_n hx hb dX8_fits_0 rfl (lv_at hl 0 rfl) ?_
  refine lv_iload_n hx hb dX8_fits_1 rfl (lv_at hl 1 rfl) ?_
  refine lv_iload_n hx hb dX8_fits_2 rfl (lv_at hl 2 rfl) ?_
  refine g_callV (As := [.int (nI i), .int x]) (rest := []) (b := h0) (n := 2) S hE hI hA (c_pairB l K _ L h0 th y N (nI i) x hM hri hr9) gX8_fits_X8_isNoPair rfl (by decide +kernel) ⟨Nat.le_of_ble_eq_true rfl, Nat.le_of_ble_eq_true rfl⟩ (g_hro hE hI hM.1 rfl) rfl hl.1 rfl (Nat.le_of_ble_eq_true rfl) dX8_fits_3 ⟨Nat.le_of_ble_eq_true rfl, Nat.le_of_ble_eq_true rfl⟩ (fun E ce q9 Gx H1 locs1 hx9 => hx9.elim) (fun rv Gc_3 H locs hp hI => ?_)
  obtain ⟨rfl, hM, hg9⟩ := hp
  have hag := hag.tr hg9
  have hM : MdC K L h0 1 Gc_3 y N := hM
  obtain ⟨m1, ar1, hl1⟩ := hM.2.1.2.1.obj
  obtain ⟨m2, ar2, hl2⟩ := hM.2.1.2.2.1.obj
  refine W.eq (g2 := F0 m 6 ls [.int (bI true)]) rfl ?_
  refine lv_if_eq (tgt := 13) hx hb dX8_fits_6 (by decide) (fun c_6 => ?_) (fun c_6 => ?_)
  · skip
    have c_6 : true = false := bI_0.mp c_6
    cases c_6
  · skip
    have c_6 : true = true := bI_1.mp c_6
    refine lv_iconst (v := nI 0) hx hb dX8_fits_9 (by decide) ?_
    refine lv_goto (tgt := 35) hx hb dX8_fits_10 (by decide) ?_
    exact g_iret S hI hr hlocks (Nat.zero_le _) (Nat.zero_le _) dX8_fits_35 (mThrow ho (by decide) hM hag)
set_option maxHeartbeats 4000000 in
set_option maxRecDepth 100000 in
/-- X8_fits: fitsC -/
theorem m_fitsC (l : Launch) (K : gK) (G : gW) (L : Nat → Nat → Nat) (h0 th : Nat) (y : YV) (N : Nat) (i j : Nat) (hM : MdC K L h0 th G y N) (hi : i < ySc y) (hj : j < yKc y) : gM l yX8_fits wsX8_fits 7 150 0 0 K [.ref h0, .int (nI i), .int (nI j)] G (mPost K h0 G (oFits y (nI i) (nI j))) (gNo) := by
  refine gM.of (cc := cX8_fits) (maxL := 3) (ret := (some .int)) (by decide) rfl (Nat.le_of_ble_eq_true rfl) ?_
  intro p e s m below meth c A S hr hlocks htab hname hE hA hI ls hl
  have hx := S.1
  have hb := S.2.1
  have hml := S.2.2.1
  have hl : lv_has ls 3 [(0, .ref h0), (1, .int (nI i)), (2, .int (nI j))] := hl
  have h44 := hM.2.1.1.2.2.1
  have h6 := hM.2.1.1.2.2.2
  have hf2 := hM.2.1.1.2.1
  have h40 := hM.2.2.2
  have hth := hM.2.2.1
  have hag : AgM G G := AgM.rf
  have hri : inR (nI i) (ySc y) = true := inR_nI hi (by omega)
  have hiN : iN (nI i) = i := iN_nI (by omega)
  have hrj : inR (nI j) (yKc y) = true := inR_nI hj (by omega)
  have hjN : iN (nI j) = j := iN_nI (by omega)
  obtain ⟨m1, ar1, hl1⟩ := hM.2.1.2.1.obj
  obtain ⟨m2, ar2, hl2⟩ := hM.2.1.2.2.1.obj
  obtain ⟨hsl, hfl, hsok⟩ := hM.2.1.2.2.2.1 i hi
  obtain ⟨s1, s2, s3, s4, s5, s6, s7, s8⟩ := id hsok
  obtain ⟨hkd, hkok⟩ := hM.2.1.2.2.2.2 j hj
  obtain ⟨k1, k2, k3, k4, k5, k6, k7, k8, k9⟩ := id hkok
  have ho : oFits y (nI i) (nI j) = (0, oI (sFits (yS y i) (yK y j)), y) := by unfold oFits; rw [if_pos (by rw [hri, hrj]; rfl), hiN, hjN]
  obtain ⟨H, hHe⟩ : ∃ z, z = s.heap := ⟨_, rfl⟩
  obtain ⟨locs, hLe⟩ : ∃ z : List Loc, z = [] := ⟨_, rfl⟩
  rw [← hHe, ← hLe]
  have hI : gI K A s G H locs := by rw [hHe, hLe]; exact hI
  clear hHe hLe
  refine lv_aload_n hx hb dX8_fits_0 rfl (lv_at hl 0 rfl) ?_
  refine lv_iload_n hx hb dX8_fits_1 rfl (lv_at hl 1 rfl) ?_
  refine lv_iload_n hx hb dX8_fits_2 rfl (lv_at hl 2 rfl) ?_
  refine g_callV (As := [.int (nI i), .int (nI j)]) (rest := []) (b := h0) (n := 2) S hE hI hA (c_pairC l K _ L h0 th y N (nI i) (nI j) hM hri hrj) gX8_fits_X8_isNoPair rfl (by decide +kernel) ⟨Nat.le_of_ble_eq_true rfl, Nat.le_of_ble_eq_true rfl⟩ (g_hro hE hI hM.1 rfl) rfl hl.1 rfl (Nat.le_of_ble_eq_true rfl) dX8_fits_3 ⟨Nat.le_of_ble_eq_true rfl, Nat.le_of_ble_eq_true rfl⟩ (fun E ce q9 Gx H1 locs1 hx9 => hx9.elim) (fun rv Gc_3 H locs hp hI => ?_)
  obtain ⟨rfl, hM, hg9⟩ := hp
  have hag := hag.tr hg9
  have hM : MdC K L h0 0 Gc_3 y N := hM
  obtain ⟨m1, ar1, hl1⟩ := hM.2.1.2.1.obj
  obtain ⟨m2, ar2, hl2⟩ := hM.2.1.2.2.1.obj
  obtain ⟨hsl, hfl, hsok⟩ := hM.2.1.2.2.2.1 i hi
  obtain ⟨s1, s2, s3, s4, s5, s6, s7, s8⟩ := id hsok
  obtain ⟨hkd, hkok⟩ := hM.2.1.2.2.2.2 j hj
  obtain ⟨k1, k2, k3, k4, k5, k6, k7, k8, k9⟩ := id hkok
  refine W.eq (g2 := F0 m 6 ls [.int (bI false)]) rfl ?_
  refine lv_if_eq (tgt := 13) hx hb dX8_fits_6 (by decide) (fun c_6 => ?_) (fun c_6 => ?_)
  · skip
    have c_6 : false = false := bI_0.mp c_6
    refine lv_aload_n hx hb dX8_fits_13 rfl (lv_at hl 0 rfl) ?_
    refine g_get S hE hI (C := RX8) (T := TX8) (N := 2) (ref := "StonecutterYardModel") (fun w h => (List.mem_cons_of_mem _ (List.mem_append_left _ (List.mem_append_left _ (List.mem_append_left _ (List.mem_append_left _ (List.mem_append_right _ h))))))) hM.1 rfl 1 (by decide) (List.mem_cons_of_mem _ (List.mem_append_left _ (List.mem_append_left _ (List.mem_append_left _ (List.mem_append_left _ (List.mem_append_left _ (List.mem_append_left _ (List.mem_of_getElem? (i := 0) rfl)))))))) (fun _ h9 => h9) (v := .ref (L 30 0)) rfl dX8_fits_14 ?_
    refine g_get S hE hI (C := RX7) (T := TX7) (N := 3) (ref := "StonecutterYardModel$Yard") (fun w h => (List.mem_cons_of_mem _ (List.mem_append_left _ (List.mem_append_left _ (List.mem_append_left _ (List.mem_append_right _ h)))))) hM.2.1.1.1 rfl 1 (by decide) (List.mem_cons_of_mem _ (List.mem_append_left _ (List.mem_append_left _ (List.mem_append_left _ (List.mem_append_left _ (List.mem_append_left _ (List.mem_append_left _ (List.mem_of_getElem? (i := 1) rfl)))))))) (fun _ h9 => h9) (v := .ref (L 33 0)) rfl dX8_fits_17 ?_
    refine lv_iload_n hx hb dX8_fits_20 rfl (lv_at hl 2 rfl) ?_
    refine g_callV (As := [.int (nI j)]) (rest := []) (b := (L 33 0)) (n := 1) S hE hI hA (l_get l K _ (5, 33, 0) (tbL 5 34) (L 33 0) (yKc y) (L 38) j hM.2.1.2.2.1 hj) gX8_fits_Jx4a65c_get_915e3 rfl (by decide +kernel) ⟨Nat.le_of_ble_eq_true rfl, Nat.le_of_ble_eq_true rfl⟩ (g_hro hE hI hl2 rfl) rfl hl.1 rfl (Nat.le_of_ble_eq_true rfl) dX8_fits_21 ⟨Nat.le_of_ble_eq_true rfl, Nat.le_of_ble_eq_true rfl⟩ (fun E ce q9 Gx H1 locs1 hx9 => hx9.elim) (fun rv Gc_21 H locs hp hI => ?_)
    obtain ⟨rfl, hq9⟩ := hp
    rw [hq9] at hI
    refine W.eq (g2 := F0 m 24 ls [.ref (L 38 j)]) rfl ?_
    refine g_cast S (List.mem_cons_of_mem _ (List.mem_append_left _ (List.mem_append_left _ (List.mem_append_left _ (List.mem_append_left _ (List.mem_append_left _ (List.mem_append_left _ (List.mem_of_getElem? (i := 2) rfl)))))))) (g_hro hE hI hkd rfl) dX8_fits_24 ?_
    refine lv_aload_n hx hb dX8_fits_27 rfl (lv_at hl 0 rfl) ?_
    refine lv_iload_n hx hb dX8_fits_28 rfl (lv_at hl 1 rfl) ?_
    refine g_callV (As := [.int (nI i)]) (rest := [.ref (L 38 j)]) (b := h0) (n := 1) S hE hI hA (c_X8_of l K _ L h0 0 y N i hM hi) gX8_fits_X8_of rfl (by decide +kernel) ⟨Nat.le_of_ble_eq_true rfl, Nat.le_of_ble_eq_true rfl⟩ (g_hro hE hI hM.1 rfl) rfl hl.1 rfl (Nat.le_of_ble_eq_true rfl) dX8_fits_29 ⟨Nat.le_of_ble_eq_true rfl, Nat.le_of_ble_eq_true rfl⟩ (fun E ce q9 Gx H1 locs1 hx9 => hx9.elim) (fun rv Gc_29 H locs hp hI => ?_)
    obtain ⟨rfl, hq9⟩ := hp
    rw [hq9] at hI
    refine W.eq (g2 := F0 m 32 ls [.ref (L 35 i), .ref (L 38 j)]) rfl ?_
    refine g_callV (As := [.ref (L 35 i)]) (rest := []) (b := (L 38 j)) (n := 1) S hE hI hA (c_X5_fits l K _ (5, 38, j) (5, 35, i) (5, 36, i) (tbF 5 i) (L 38 j) (L 35 i) (yS y i) (yK y j) (L 36 i) N hkd hsl hfl hsok hkok) gX8_fits_X5_fits rfl (by decide +kernel) ⟨Nat.le_of_ble_eq_true rfl, Nat.le_of_ble_eq_true rfl⟩ (g_hro hE hI hkd rfl) rfl hl.1 rfl (Nat.le_of_ble_eq_true rfl) dX8_fits_32 ⟨Nat.le_of_ble_eq_true rfl, Nat.le_of_ble_eq_true rfl⟩ (fun E ce q9 Gx H1 locs1 hx9 => hx9.elim) (fun rv Gc_32 H locs hp hI => ?_)
    obtain ⟨rfl, hq9⟩ := hp
    rw [hq9] at hI
    refine W.eq (g2 := F0 m 35 ls [.int (oI (sFits (yS y i) (yK y j)))]) rfl ?_
    exact g_iret S hI hr hlocks (Nat.zero_le _) (Nat.zero_le _) dX8_fits_35 (mOk ho hM hag)
  · skip
    have c_6 : false = true := bI_1.mp c_6
    cases c_6
set_option maxHeartbeats 4000000 in
set_option maxRecDepth 100000 in
/-- X8_many: manyA -/
theorem m_manyA (l : Launch) (K : gK) (G : gW) (L : Nat → Nat → Nat) (h0 th : Nat) (y : YV) (N : Nat) (w : Int32) (hM : MdC K L h0 th G y N) (hw9 : inR w 8 = false) : gM l yX8_many wsX8_many 8 172 1 8 K [.ref h0, .int w] G (mPost K h0 G (oMany y w)) (gNo) := by
  refine gM.of (cc := cX8_many) (maxL := 2) (ret := (some .int)) (by decide) rfl (Nat.le_of_ble_eq_true rfl) ?_
  intro p e s m below meth c A S hr hlocks htab hname hE hA hI ls hl
  have hx := S.1
  have hb := S.2.1
  have hml := S.2.2.1
  have hl : lv_has ls 2 [(0, .ref h0), (1, .int w)] := hl
  have h44 := hM.2.1.1.2.2.1
  have h6 := hM.2.1.1.2.2.2
  have hf2 := hM.2.1.1.2.1
  have h40 := hM.2.2.2
  have hth := hM.2.2.1
  have hag : AgM G G := AgM.rf
  obtain ⟨m1, ar1, hl1⟩ := hM.2.1.2.1.obj
  obtain ⟨m2, ar2, hl2⟩ := hM.2.1.2.2.1.obj
  have hw8 : inB w 0 7 = false := (inB0 (n := 7)).trans hw9
  have ho : oMany y w = (1, 0, y) := by unfold oMany; rw [if_neg (by rw [hw9]; decide)]
  obtain ⟨H, hHe⟩ : ∃ z, z = s.heap := ⟨_, rfl⟩
  obtain ⟨locs, hLe⟩ : ∃ z : List Loc, z = [] := ⟨_, rfl⟩
  rw [← hHe, ← hLe]
  have hI : gI K A s G H locs := by rw [hHe, hLe]; exact hI
  clear hHe hLe
  refine lv_aload_n hx hb dX8_many_0 rfl (lv_at hl 0 rfl) ?_
  refine lv_iload_n hx hb dX8_many_1 rfl (lv_at hl 1 rfl) ?_
  refine lv_iconst (v := nI 0) hx hb dX8_many_2 (by decide) ?_
  refine lv_bipush (v := nI 7) hx hb dX8_many_3 (by decide) ?_
  refine g_callS (As := [.int w, .int (nI 0), .int (nI 7)]) (rest := [.ref h0]) (n := 3) S hE hI hA (c_X8_isIn l K _ w (nI 0) (nI 7)) gX8_many_X8_isIn rfl (by decide +kernel) ⟨Nat.le_of_ble_eq_true rfl, Nat.le_of_ble_eq_true rfl⟩ rfl hl.1 rfl (Nat.le_of_ble_eq_true rfl) dX8_many_5 ⟨Nat.le_of_ble_eq_true rfl, Nat.le_of_ble_eq_true rfl⟩ (fun E ce q9 Gx H1 locs1 hx9 => hx9.elim) (fun rv Gc_5 H locs hp hI => ?_)
  obtain ⟨rfl, hq9⟩ := hp
  rw [hq9] at hI
  rw [isI_inB (by decide) (by decide)]
  rw [hw8]
  refine W.eq (g2 := F0 m 8 ls [.int (bI false), .ref h0]) rfl ?_
  refine lv_if_ne (tgt := 15) hx hb dX8_many_8 (by decide) (fun c_8 => ?_) (fun c_8 => ?_)
  · skip
    have c_8 : false = true := bI_1.mp c_8
    cases c_8
  · skip
    have c_8 : false = false := bI_0.mp c_8
    refine lv_iconst (v := nI 1) hx hb dX8_many_11 (by decide) ?_
    refine lv_goto (tgt := 16) hx hb dX8_many_12 (by decide) ?_
    refine lv_iconst (v := nI 1) hx hb dX8_many_16 (by decide) ?_
    refine g_callV (As := [.int (nI 1), .int (nI 1)]) (rest := []) (b := h0) (n := 2) S hE hI hA (c_start l K _ L h0 th y N true 1 hM (by decide)) gX8_many_X8_start rfl (by decide +kernel) ⟨Nat.le_of_ble_eq_true rfl, Nat.le_of_ble_eq_true rfl⟩ (g_hro hE hI hM.1 rfl) rfl hl.1 rfl (Nat.le_of_ble_eq_true rfl) dX8_many_17 ⟨Nat.le_of_ble_eq_true rfl, Nat.le_of_ble_eq_true rfl⟩ (fun E ce q9 Gx H1 locs1 hx9 => hx9.elim) (fun rv Gc_17 H locs hp hI => ?_)
    obtain ⟨rfl, hM, hg9⟩ := hp
    have hag := hag.tr hg9
    have hM : MdC K L h0 1 Gc_17 y N := hM
    obtain ⟨m1, ar1, hl1⟩ := hM.2.1.2.1.obj
    obtain ⟨m2, ar2, hl2⟩ := hM.2.1.2.2.1.obj
    refine W.eq (g2 := F0 m 20 ls [.int (bI true)]) rfl ?_
    refine lv_if_eq (tgt := 27) hx hb dX8_many_20 (by decide) (fun c_20 => ?_) (fun c_20 => ?_)
    · skip
      have c_20 : true = false := bI_0.mp c_20
      cases c_20
    · skip
      have c_20 : true = true := bI_1.mp c_20
      refine lv_iconst (v := nI 0) hx hb dX8_many_23 (by decide) ?_
      refine lv_goto (tgt := 32) hx hb dX8_many_24 (by decide) ?_
      exact g_iret S hI hr hlocks (Nat.zero_le _) (Nat.zero_le _) dX8_many_32 (mThrow ho (by decide) hM hag)
set_option maxHeartbeats 4000000 in
set_option maxRecDepth 100000 in
/-- X8_many: manyC -/
theorem m_manyC (l : Launch) (K : gK) (G : gW) (L : Nat → Nat → Nat) (h0 th : Nat) (y : YV) (N : Nat) (j : Nat) (hM : MdC K L h0 th G y N) (hj : j < 8) : gM l yX8_many wsX8_many 8 172 1 8 K [.ref h0, .int (nI j)] G (mPost K h0 G (oMany y (nI j))) (gNo) := by
  refine gM.of (cc := cX8_many) (maxL := 2) (ret := (some .int)) (by decide) rfl (Nat.le_of_ble_eq_true rfl) ?_
  intro p e s m below meth c A S hr hlocks htab hname hE hA hI ls hl
  have hx := S.1
  have hb := S.2.1
  have hml := S.2.2.1
  have hl : lv_has ls 2 [(0, .ref h0), (1, .int (nI j))] := hl
  have h44 := hM.2.1.1.2.2.1
  have h6 := hM.2.1.1.2.2.2
  have hf2 := hM.2.1.1.2.1
  have h40 := hM.2.2.2
  have hth := hM.2.2.1
  have hag : AgM G G := AgM.rf
  obtain ⟨m1, ar1, hl1⟩ := hM.2.1.2.1.obj
  obtain ⟨m2, ar2, hl2⟩ := hM.2.1.2.2.1.obj
  have hx9 : inB (nI j) 0 7 = true := by rw [inB_nI (by omega)]; exact decide_eq_true (by omega)
  have ho : oMany y (nI j) = (0, yMany y j, y) := by unfold oMany; rw [if_pos (inR_nI hj (by decide)), iN_nI (by omega)]
  obtain ⟨H, hHe⟩ : ∃ z, z = s.heap := ⟨_, rfl⟩
  obtain ⟨locs, hLe⟩ : ∃ z : List Loc, z = [] := ⟨_, rfl⟩
  rw [← hHe, ← hLe]
  have hI : gI K A s G H locs := by rw [hHe, hLe]; exact hI
  clear hHe hLe
  refine lv_aload_n hx hb dX8_many_0 rfl (lv_at hl 0 rfl) ?_
  refine lv_iload_n hx hb dX8_many_1 rfl (lv_at hl 1 rfl) ?_
  refine lv_iconst (v := nI 0) hx hb dX8_many_2 (by decide) ?_
  refine lv_bipush (v := nI 7) hx hb dX8_many_3 (by decide) ?_
  refine g_callS (As := [.int (nI j), .int (nI 0), .int (nI 7)]) (rest := [.ref h0]) (n := 3) S hE hI hA (c_X8_isIn l K _ (nI j) (nI 0) (nI 7)) gX8_many_X8_isIn rfl (by decide +kernel) ⟨Nat.le_of_ble_eq_true rfl, Nat.le_of_ble_eq_true rfl⟩ rfl hl.1 rfl (Nat.le_of_ble_eq_true rfl) dX8_many_5 ⟨Nat.le_of_ble_eq_true rfl, Nat.le_of_ble_eq_true rfl⟩ (fun E ce q9 Gx H1 locs1 hx9 => hx9.elim) (fun rv Gc_5 H locs hp hI => ?_)
  obtain ⟨rfl, hq9⟩ := hp
  rw [hq9] at hI
  rw [isI_inB (by decide) (by decide)]
  rw [hx9]
  refine W.eq (g2 := F0 m 8 ls [.int (bI true), .ref h0]) rfl ?_
  refine lv_if_ne (tgt := 15) hx hb dX8_many_8 (by decide) (fun c_8 => ?_) (fun c_8 => ?_)
  · skip
    have c_8 : true = true := bI_1.mp c_8
    refine lv_iconst (v := nI 0) hx hb dX8_many_15 (by decide) ?_
    refine lv_iconst (v := nI 1) hx hb dX8_many_16 (by decide) ?_
    refine g_callV (As := [.int (nI 0), .int (nI 1)]) (rest := []) (b := h0) (n := 2) S hE hI hA (c_start l K _ L h0 th y N false 1 hM (by decide)) gX8_many_X8_start rfl (by decide +kernel) ⟨Nat.le_of_ble_eq_true rfl, Nat.le_of_ble_eq_true rfl⟩ (g_hro hE hI hM.1 rfl) rfl hl.1 rfl (Nat.le_of_ble_eq_true rfl) dX8_many_17 ⟨Nat.le_of_ble_eq_true rfl, Nat.le_of_ble_eq_true rfl⟩ (fun E ce q9 Gx H1 locs1 hx9 => hx9.elim) (fun rv Gc_17 H locs hp hI => ?_)
    obtain ⟨rfl, hM, hg9⟩ := hp
    have hag := hag.tr hg9
    have hM : MdC K L h0 0 Gc_17 y N := hM
    obtain ⟨m1, ar1, hl1⟩ := hM.2.1.2.1.obj
    obtain ⟨m2, ar2, hl2⟩ := hM.2.1.2.2.1.obj
    refine W.eq (g2 := F0 m 20 ls [.int (bI false)]) rfl ?_
    refine lv_if_eq (tgt := 27) hx hb dX8_many_20 (by decide) (fun c_20 => ?_) (fun c_20 => ?_)
    · skip
      have c_20 : false = false := bI_0.mp c_20
      refine lv_aload_n hx hb dX8_many_27 rfl (lv_at hl 0 rfl) ?_
      refine lv_iload_n hx hb dX8_many_28 rfl (lv_at hl 1 rfl) ?_
      refine g_callV (As := [.int (nI j)]) (rest := []) (b := h0) (n := 1) S hE hI hA (c_X8_count l K _ L h0 0 y N j hM hj) gX8_many_X8_count rfl (by decide +kernel) ⟨Nat.le_of_ble_eq_true rfl, Nat.le_of_ble_eq_true rfl⟩ (g_hro hE hI hM.1 rfl) rfl hl.1 rfl (Nat.le_of_ble_eq_true rfl) dX8_many_29 ⟨by show _ ≤ 1; omega, by show _ ≤ 8; omega⟩ (fun E ce q9 Gx H1 locs1 hx9 => hx9.elim) (fun rv Gc_29 H locs hp hI => ?_)
      obtain ⟨rfl, hw9⟩ := hp
      refine W.eq (g2 := F0 m 32 ls [.int (yMany y j)]) rfl ?_
      exact g_iret S hI hr hlocks (by omega) (by omega) dX8_many_32 (mOk ho (hM.m13 hw9) (hag.tr (ag13 hw9)))
    · skip
      have c_20 : false = true := bI_1.mp c_20
      cases c_20
  · skip
    have c_8 : true = false := bI_0.mp c_8
    cases c_8
