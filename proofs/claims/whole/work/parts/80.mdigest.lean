/-! the model's mean, its start, its checksum -/
set_option maxHeartbeats 4000000 in
set_option maxRecDepth 100000 in
/-- meanArea() -/
theorem c_X8_meanArea (l : Launch) (K : gK) (G : gW) (L : Nat → Nat → Nat) (h0 th : Nat) (y : YV) (N : Nat) (hM : MdC K L h0 th G y N) : gM l yX8_meanArea wsX8_meanArea 6 126 0 0 K [.ref h0] G (fun v G1 => v = some (.double (yMean y)) ∧ MdC K L h0 0 G1 y N ∧ AgM G G1) (gNo) := by
  refine gM.of (cc := cX8_meanArea) (maxL := 1) (ret := (some .double)) (by decide) rfl (Nat.le_of_ble_eq_true rfl) ?_
  intro p e s m below meth c A S hr hlocks htab hname hE hA hI ls hl
  have hx := S.1
  have hb := S.2.1
  have hml := S.2.2.1
  have hl : lv_has ls 1 [(0, .ref h0)] := hl
  have h44 := hM.2.1.1.2.2.1
  have h6 := hM.2.1.1.2.2.2
  have hf2 := hM.2.1.1.2.1
  have h40 := hM.2.2.2
  have hth := hM.2.2.1
  have hag : AgM G G := AgM.rf
  have hth9 : yThere y ≤ 40 := Nat.le_trans (sumN_le (c := 1) (fun i _ => by unfold isT; split <;> decide)) (by omega)
  obtain ⟨m1, ar1, hl1⟩ := hM.2.1.2.1.obj
  obtain ⟨m2, ar2, hl2⟩ := hM.2.1.2.2.1.obj
  obtain ⟨H, hHe⟩ : ∃ z, z = s.heap := ⟨_, rfl⟩
  obtain ⟨locs, hLe⟩ : ∃ z : List Loc, z = [] := ⟨_, rfl⟩
  rw [← hHe, ← hLe]
  have hI : gI K A s G H locs := by rw [hHe, hLe]; exact hI
  clear hHe hLe
  refine lv_aload_n hx hb dX8_meanArea_0 rfl (lv_at hl 0 rfl) ?_
  refine lv_iconst (v := nI 0) hx hb dX8_meanArea_1 (by decide) ?_
  refine g_put S hE hI (C := RX8) (T := TX8) (N := 2) (ref := "StonecutterYardModel") (fun w h => (List.mem_cons_of_mem _ (List.mem_append_left _ (List.mem_append_left _ (List.mem_append_left _ (List.mem_append_right _ h)))))) tyX8 tyX8_ok nmX8 hM.1 rfl 0 (by decide) (List.mem_cons_of_mem _ (List.mem_append_left _ (List.mem_append_left _ (List.mem_append_left _ (List.mem_append_left _ (List.mem_append_left _ (List.mem_of_getElem? (i := 0) rfl))))))) (fun _ h9 => h9) rfl rfl rfl (Nat.le_of_ble_eq_true rfl) dX8_meanArea_2 (fun H locs hI => ?_)
  have hI : gI K A s (gset G (9, 0, 0) h0 (.inr (9, [.int (nI 0), .ref (L 30 0)]))) H locs := hI
  obtain ⟨G_1, hG_1⟩ : ∃ z, z = gset G (9, 0, 0) h0 (.inr (9, [.int (nI 0), .ref (L 30 0)])) := ⟨_, rfl⟩
  rw [← hG_1] at hI
  have yd_G_1 : G_1 (5, 30, 0) = some ((L 30 0), .inr (8, [.ref (L 31 0), .ref (L 33 0), .int (nI (yF y))])) := by rw [hG_1, gset_ne (by simp)]; exact hM.2.1.1.1
  have ls_G_1 : G_1 (5, 31, 0) = some ((L 31 0), .inr (0, [.int m1, .ref ar1, .int (nI (ySc y))])) := by rw [hG_1, gset_ne (by simp)]; exact hl1
  have lk_G_1 : G_1 (5, 33, 0) = some ((L 33 0), .inr (0, [.int m2, .ref ar2, .int (nI (yKc y))])) := by rw [hG_1, gset_ne (by simp)]; exact hl2
  have o_G_1 : G_1 (9, 0, 0) = some (h0, .inr (9, [.int (nI 0), .ref (L 30 0)])) := by rw [hG_1]; exact gset_eq _ _ _ _
  have hM : MdC K L h0 0 G_1 y N := by rw [hG_1]; exact hM.th (by decide)
  have hag : AgM G G_1 := by rw [hG_1]; exact AgM.rf.st (by decide)
  obtain ⟨m1, ar1, hl1⟩ := hM.2.1.2.1.obj
  obtain ⟨m2, ar2, hl2⟩ := hM.2.1.2.2.1.obj
  refine lv_aload_n hx hb dX8_meanArea_5 rfl (lv_at hl 0 rfl) ?_
  refine g_get S hE hI (C := RX8) (T := TX8) (N := 2) (ref := "StonecutterYardModel") (fun w h => (List.mem_cons_of_mem _ (List.mem_append_left _ (List.mem_append_left _ (List.mem_append_left _ (List.mem_append_right _ h)))))) hM.1 rfl 1 (by decide) (List.mem_cons_of_mem _ (List.mem_append_left _ (List.mem_append_left _ (List.mem_append_left _ (List.mem_append_left _ (List.mem_append_left _ (List.mem_of_getElem? (i := 1) rfl))))))) (fun _ h9 => h9) (v := .ref (L 30 0)) rfl dX8_meanArea_6 ?_
  refine g_callV (As := []) (rest := []) (b := (L 30 0)) (n := 0) S hE hI hA (c_X7_there l K _ 5 L y N hM.2.1) gX8_meanArea_X7_there rfl (by decide +kernel) ⟨Nat.le_of_ble_eq_true rfl, Nat.le_of_ble_eq_true rfl⟩ (g_hro hE hI hM.2.1.1.1 rfl) rfl hl.1 rfl (Nat.le_of_ble_eq_true rfl) dX8_meanArea_9 ⟨Nat.le_of_ble_eq_true rfl, Nat.le_of_ble_eq_true rfl⟩ (fun E ce q9 Gx H1 locs1 hx9 => hx9.elim) (fun rv Gc_9 H locs hp hI => ?_)
  obtain ⟨rfl, hq9⟩ := hp
  rw [hq9] at hI
  refine W.eq (g2 := F0 m 12 ls [.int (nI (yThere y))]) rfl ?_
  refine lv_if_ne (tgt := 19) hx hb dX8_meanArea_12 (by decide) (fun c_12 => ?_) (fun c_12 => ?_)
  · skip
    have c_12 : (yThere y) ≠ 0 := fun z => c_12 ((nI_eq (a := (yThere y)) (b := 0) (by omega) (by omega)).mpr z)
    refine lv_aload_n hx hb dX8_meanArea_19 rfl (lv_at hl 0 rfl) ?_
    refine g_get S hE hI (C := RX8) (T := TX8) (N := 2) (ref := "StonecutterYardModel") (fun w h => (List.mem_cons_of_mem _ (List.mem_append_left _ (List.mem_append_left _ (List.mem_append_left _ (List.mem_append_right _ h)))))) hM.1 rfl 1 (by decide) (List.mem_cons_of_mem _ (List.mem_append_left _ (List.mem_append_left _ (List.mem_append_left _ (List.mem_append_left _ (List.mem_append_left _ (List.mem_of_getElem? (i := 1) rfl))))))) (fun _ h9 => h9) (v := .ref (L 30 0)) rfl dX8_meanArea_20 ?_
    refine g_callV (As := []) (rest := []) (b := (L 30 0)) (n := 0) S hE hI hA (c_X7_areaThere l K _ 5 L y N hM.2.1) gX8_meanArea_X7_areaThere rfl (by decide +kernel) ⟨Nat.le_of_ble_eq_true rfl, Nat.le_of_ble_eq_true rfl⟩ (g_hro hE hI hM.2.1.1.1 rfl) rfl hl.1 rfl (Nat.le_of_ble_eq_true rfl) dX8_meanArea_23 ⟨Nat.le_of_ble_eq_true rfl, Nat.le_of_ble_eq_true rfl⟩ (fun E ce q9 Gx H1 locs1 hx9 => hx9.elim) (fun rv Gc_23 H locs hp hI => ?_)
    obtain ⟨rfl, hq9⟩ := hp
    rw [hq9] at hI
    refine W.eq (g2 := F0 m 26 ls [.int (nI (yAreaT y))]) rfl ?_
    refine lv_i2d hx hb dX8_meanArea_26 ?_
    refine lv_aload_n hx hb dX8_meanArea_27 rfl (lv_at hl 0 rfl) ?_
    refine g_get S hE hI (C := RX8) (T := TX8) (N := 2) (ref := "StonecutterYardModel") (fun w h => (List.mem_cons_of_mem _ (List.mem_append_left _ (List.mem_append_left _ (List.mem_append_left _ (List.mem_append_right _ h)))))) hM.1 rfl 1 (by decide) (List.mem_cons_of_mem _ (List.mem_append_left _ (List.mem_append_left _ (List.mem_append_left _ (List.mem_append_left _ (List.mem_append_left _ (List.mem_of_getElem? (i := 1) rfl))))))) (fun _ h9 => h9) (v := .ref (L 30 0)) rfl dX8_meanArea_28 ?_
    refine g_callV (As := []) (rest := [.double (FP.i2d (nI (yAreaT y)))]) (b := (L 30 0)) (n := 0) S hE hI hA (c_X7_there l K _ 5 L y N hM.2.1) gX8_meanArea_X7_there rfl (by decide +kernel) ⟨Nat.le_of_ble_eq_true rfl, Nat.le_of_ble_eq_true rfl⟩ (g_hro hE hI hM.2.1.1.1 rfl) rfl hl.1 rfl (Nat.le_of_ble_eq_true rfl) dX8_meanArea_31 ⟨Nat.le_of_ble_eq_true rfl, Nat.le_of_ble_eq_true rfl⟩ (fun E ce q9 Gx H1 locs1 hx9 => hx9.elim) (fun rv Gc_31 H locs hp hI => ?_)
    obtain ⟨rfl, hq9⟩ := hp
    rw [hq9] at hI
    refine W.eq (g2 := F0 m 34 ls [.int (nI (yThere y)), .double (FP.i2d (nI (yAreaT y)))]) rfl ?_
    refine lv_i2d hx hb dX8_meanArea_34 ?_
    refine lv_ddiv hx hb dX8_meanArea_35 (fp_mean _ _ (by omega) hth9) ?_
    exact g_dret S hI hr hlocks (Nat.zero_le _) (Nat.zero_le _) dX8_meanArea_36 ⟨by unfold yMean; rw [if_neg c_12], hM, hag⟩
  · skip
    have c_12 : (yThere y) = 0 := (nI_eq (a := (yThere y)) (b := 0) (by omega) (by omega)).mp c_12
    refine lv_dconst0 hx hb dX8_meanArea_15 ?_
    refine lv_goto (tgt := 36) hx hb dX8_meanArea_16 (by decide) ?_
    exact g_dret S hI hr hlocks (Nat.zero_le _) (Nat.zero_le _) dX8_meanArea_36 ⟨by unfold yMean; rw [if_pos c_12], hM, hag⟩
set_option maxHeartbeats 4000000 in
set_option maxRecDepth 100000 in
/-- StonecutterYardModel() -/
theorem c_X8_init (l : Launch) (K : gK) (G : gW) (h0 : Nat) (hg : G (9, 0, 0) = some (h0, .inr (9, [.int (nI 0), .null]))) : gM l yX8_init wsX8_init 6 120 3 9 K [.ref h0] G (fun v G1 => v = none ∧ (∃ L, MdC K L h0 0 G1 yNew 0) ∧ AgM G G1) (gNo) := by
  refine gM.of (cc := cX8_init) (maxL := 1) (ret := none) (by decide) rfl (Nat.le_of_ble_eq_true rfl) ?_
  intro p e s m below meth c A S hr hlocks htab hname hE hA hI ls hl
  have hx := S.1
  have hb := S.2.1
  have hml := S.2.2.1
  have hl : lv_has ls 1 [(0, .ref h0)] := hl
  obtain ⟨H, hHe⟩ : ∃ z, z = s.heap := ⟨_, rfl⟩
  obtain ⟨locs, hLe⟩ : ∃ z : List Loc, z = [] := ⟨_, rfl⟩
  rw [← hHe, ← hLe]
  have hI : gI K A s G H locs := by rw [hHe, hLe]; exact hI
  clear hHe hLe
  refine lv_aload_n hx hb dX8_init_0 rfl (lv_at hl 0 rfl) ?_
  refine W.objInit hx hb S.2.2.2.1 (S.2.2.2.2 _ (List.mem_cons_of_mem _ (List.mem_append_left _ (List.mem_append_left _ (List.mem_append_left _ (List.mem_append_left _ (List.mem_of_getElem? (i := 0) rfl))))))) (S.2.2.2.2 _ (List.mem_cons_of_mem _ (List.mem_append_left _ (List.mem_append_left _ (List.mem_append_left _ (List.mem_append_left _ (List.mem_of_getElem? (i := 1) rfl))))))) (S.2.2.2.2 _ (List.mem_cons_of_mem _ (List.mem_append_left _ (List.mem_append_left _ (List.mem_append_left _ (List.mem_append_left _ (List.mem_of_getElem? (i := 2) rfl))))))) rfl (by rw [hml]; exact hl.1) rfl dX8_init_1 (Nat.le_of_ble_eq_true rfl) (Nat.le_of_ble_eq_true rfl) ?_
  refine W.eq (g2 := F0 m 4 ls []) rfl ?_
  refine lv_aload_n hx hb dX8_init_4 rfl (lv_at hl 0 rfl) ?_
  refine g_new S hE hI hA (C := RX7) (T := TX7) (N := 3) (ci := 8) (fun w h => (List.mem_cons_of_mem _ (List.mem_append_left _ (List.mem_append_left _ (List.mem_append_right _ h))))) tyX7 tyX7_ok (List.mem_cons_of_mem _ (List.mem_append_left _ (List.mem_append_left _ (List.mem_append_left _ (List.mem_append_left _ (List.mem_of_getElem? (i := 3) rfl)))))) (List.mem_cons_of_mem _ (List.mem_append_left _ (List.mem_append_left _ (List.mem_append_left _ (List.mem_append_left _ (List.mem_of_getElem? (i := 4) rfl)))))) (List.mem_cons_of_mem _ (List.mem_append_left _ (List.mem_append_left _ (List.mem_append_left _ (List.mem_append_left _ (List.mem_of_getElem? (i := 5) rfl)))))) rfl (fs := [.null, .null, .int (nI 0)]) (fun j hj => by rcases (show j = 0 ∨ j = 1 ∨ j = 2 by omega) with rfl | rfl | rfl <;> rfl) (5, 30, 0) (by show _ ≤ 3; omega) (by show _ ≤ 9; omega) dX8_init_5 (fun q_5 H hq_5 hI => ?_)
  obtain ⟨G_1, hG_1⟩ : ∃ z, z = gset G (5, 30, 0) q_5 (.inr (8, [.null, .null, .int (nI 0)])) := ⟨_, rfl⟩
  have hI : gI K A s G_1 H locs := by rw [hG_1]; exact hI
  have o_G_1 : G_1 (9, 0, 0) = some (h0, .inr (9, [.int (nI 0), .null])) := by rw [hG_1, gset_ne (by simp)]; exact hg
  have v_G_1 : G_1 (5, 30, 0) = some (q_5, .inr (8, [.null, .null, .int (nI 0)])) := by rw [hG_1]; exact gset_eq _ _ _ _
  refine lv_dup hx hb dX8_init_8 rfl ?_
  refine g_callIN (As := []) (rest := [.ref q_5, .ref h0]) (b := q_5) (n := 0) (host := "StonecutterYardModel") S hE hI hA (c_X7_init l K _ 5 q_5 v_G_1) gX8_init_X7_init_n9 rfl (List.mem_cons_of_mem _ (List.mem_append_left _ (List.mem_append_left _ (List.mem_append_left _ (List.mem_append_left _ (List.mem_of_getElem? (i := 5) rfl)))))) (List.mem_of_getElem? (i := 3) rfl) (List.mem_cons_of_mem _ (List.mem_append_left _ (List.mem_append_left _ (List.mem_append_left _ (List.mem_append_left _ (List.mem_of_getElem? (i := 7) rfl)))))) rfl (by decide +kernel) ⟨Nat.le_of_ble_eq_true rfl, Nat.le_of_ble_eq_true rfl⟩ rfl hl.1 rfl (Nat.le_of_ble_eq_true rfl) dX8_init_9 ⟨by show _ ≤ 3; omega, by show _ ≤ 9; omega⟩ (fun E ce q9 Gx H1 locs1 hx9 => hx9.elim) (fun rv Gc_9 H locs hp hI => ?_)
  obtain ⟨rfl, ⟨a, b, hyd, hla, hlb⟩, hag9⟩ := hp
  have ho9 : Gc_9 (9, 0, 0) = some (h0, .inr (9, [.int (nI 0), .null])) := (hag9 _ (by decide)).trans o_G_1
  refine W.eq (g2 := F0 m 12 ls [.ref q_5, .ref h0]) rfl ?_
  refine g_putF S hE hI (C := RX8) (T := TX8) (N := 2) (ref := "StonecutterYardModel") (fun w h => (List.mem_cons_of_mem _ (List.mem_append_left _ (List.mem_append_right _ h)))) tyX8 tyX8_ok nmX8 ho9 rfl 1 (by decide) (List.mem_cons_of_mem _ (List.mem_append_left _ (List.mem_append_left _ (List.mem_append_left _ (List.mem_append_left _ (List.mem_of_getElem? (i := 6) rfl)))))) (fun _ h9 => h9) rfl hname rfl rfl rfl (Nat.le_of_ble_eq_true rfl) dX8_init_12 (fun H locs hI => ?_)
  have hI : gI K A s (gset Gc_9 (9, 0, 0) h0 (.inr (9, [.int (nI 0), .ref q_5]))) H locs := hI
  obtain ⟨G_2, hG_2⟩ : ∃ z, z = gset Gc_9 (9, 0, 0) h0 (.inr (9, [.int (nI 0), .ref q_5])) := ⟨_, rfl⟩
  rw [← hG_2] at hI
  have o_G_2 : G_2 (9, 0, 0) = some (h0, .inr (9, [.int (nI 0), .ref q_5])) := by rw [hG_2]; exact gset_eq _ _ _ _
  have hne : ∀ t : gTag, t.1 ≠ 9 → G_2 t = Gc_9 t := fun t ht => by rw [hG_2, gset_ne (fun z9 => ht (by rw [z9]))]
  obtain ⟨L, hL⟩ : ∃ z : Nat → Nat → Nat, z = fun k _ => if k = 30 then q_5 else if k = 31 then a else if k = 33 then b else 0 := ⟨_, rfl⟩
  have e0 : L 30 0 = q_5 := by rw [hL]; rfl
  have e1 : L 31 0 = a := by rw [hL]; rfl
  have e3 : L 33 0 = b := by rw [hL]; rfl
  have hMY : MY K 5 L G_2 yNew 0 := ⟨⟨by rw [e0, e1, e3]; exact (hne _ (by show (5 : Nat) ≠ 9; decide)).trans hyd, by decide, by decide, by decide⟩, ⟨_, Or.inl ⟨rfl, by rw [e1]; exact (hne _ (by show (5 : Nat) ≠ 9; decide)).trans hla⟩⟩, ⟨_, Or.inl ⟨rfl, by rw [e3]; exact (hne _ (by show (5 : Nat) ≠ 9; decide)).trans hlb⟩⟩, fun i hi => absurd hi (Nat.not_lt_zero i), fun i hi => absurd hi (Nat.not_lt_zero i)⟩
  exact g_vret S hI hr hlocks (by omega) (by omega) dX8_init_15 ⟨rfl, ⟨L, by rw [e0]; exact o_G_2, hMY, by decide, by decide⟩, fun t ht => (hne t (agOff ht).2.2.2.1).trans ((hag9 t (agOff ht).1).trans (by rw [hG_1]; exact gset_ne (fun z9 => (agOff ht).1 (by rw [z9]))))⟩
set_option maxHeartbeats 4000000 in
set_option maxRecDepth 100000 in
/-- add(d, v) -/
theorem c_X8_add (l : Launch) (K : gK) (G : gW) (a b : Int64) : gM l yX8_add wsX8_add 2 40 0 0 K [.long a, .long b] G (fun v G1 => v = some (.long (a * 31 + b)) ∧ G1 = G) (gNo) := by
  refine gM.of (cc := cX8_add) (maxL := 4) (ret := (some .long)) (by decide) rfl (Nat.le_of_ble_eq_true rfl) ?_
  intro p e s m below meth c A S hr hlocks htab hname hE hA hI ls hl
  have hx := S.1
  have hb := S.2.1
  have hml := S.2.2.1
  have hl : lv_has ls 4 [(0, .long a), (2, .long b)] := hl
  obtain ⟨H, hHe⟩ : ∃ z, z = s.heap := ⟨_, rfl⟩
  obtain ⟨locs, hLe⟩ : ∃ z : List Loc, z = [] := ⟨_, rfl⟩
  rw [← hHe, ← hLe]
  have hI : gI K A s G H locs := by rw [hHe, hLe]; exact hI
  clear hHe hLe
  refine lv_lload_n hx hb dX8_add_0 rfl (lv_at hl 0 rfl) ?_
  refine lv_ldc2 hx hb S.2.2.2.1 (S.2.2.2.2 _ (List.mem_cons_of_mem _ (List.mem_of_getElem? (i := 0) rfl))) dX8_add_1 ?_
  refine lv_lmul hx hb dX8_add_4 ?_
  refine lv_lload_n hx hb dX8_add_5 rfl (lv_at hl 1 rfl) ?_
  refine lv_ladd hx hb dX8_add_6 ?_
  exact g_lret S hI hr hlocks (Nat.zero_le _) (Nat.zero_le _) dX8_add_7 ⟨rfl, rfl⟩
set_option maxHeartbeats 4000000 in
set_option maxRecDepth 100000 in
/-- digest() -/
theorem c_X8_digest (l : Launch) (K : gK) (G : gW) (L : Nat → Nat → Nat) (h0 th : Nat) (y : YV) (N : Nat) (hM : MdC K L h0 th G y N) : gM l yX8_digest wsX8_digest 13 296 1037 11971 K [.ref h0] G (fun v G1 => v = some (.long (yDigest y)) ∧ MdC K L h0 0 G1 y N ∧ AgM G G1) (gNo) := by
  refine gM.of (cc := cX8_digest) (maxL := 5) (ret := (some .long)) (by decide) rfl (Nat.le_of_ble_eq_true rfl) ?_
  intro p e s m below meth c A S hr hlocks htab hname hE hA hI ls hl
  have hx := S.1
  have hb := S.2.1
  have hml := S.2.2.1
  have hl : lv_has ls 5 [(0, .ref h0)] := hl
  have h44 := hM.2.1.1.2.2.1
  have h6 := hM.2.1.1.2.2.2
  have hf2 := hM.2.1.1.2.1
  have h40 := hM.2.2.2
  have hth := hM.2.2.1
  have hag : AgM G G := AgM.rf
  obtain ⟨m1, ar1, hl1⟩ := hM.2.1.2.1.obj
  obtain ⟨m2, ar2, hl2⟩ := hM.2.1.2.2.1.obj
  obtain ⟨H, hHe⟩ : ∃ z, z = s.heap := ⟨_, rfl⟩
  obtain ⟨locs, hLe⟩ : ∃ z : List Loc, z = [] := ⟨_, rfl⟩
  rw [← hHe, ← hLe]
  have hI : gI K A s G H locs := by rw [hHe, hLe]; exact hI
  clear hHe hLe
  refine lv_aload_n hx hb dX8_digest_0 rfl (lv_at hl 0 rfl) ?_
  refine lv_iconst (v := nI 0) hx hb dX8_digest_1 (by decide) ?_
  refine g_put S hE hI (C := RX8) (T := TX8) (N := 2) (ref := "StonecutterYardModel") (fun w h => (List.mem_cons_of_mem _ (List.mem_append_left _ (List.mem_append_left _ (List.mem_append_left _ (List.mem_append_left _ (List.mem_append_right _ h))))))) tyX8 tyX8_ok nmX8 hM.1 rfl 0 (by decide) (List.mem_cons_of_mem _ (List.mem_append_left _ (List.mem_append_left _ (List.mem_append_left _ (List.mem_append_left _ (List.mem_append_left _ (List.mem_append_left _ (List.mem_of_getElem? (i := 0) rfl)))))))) (fun _ h9 => h9) rfl rfl rfl (Nat.le_of_ble_eq_true rfl) dX8_digest_2 (fun H locs hI => ?_)
  have hI : gI K A s (gset G (9, 0, 0) h0 (.inr (9, [.int (nI 0), .ref (L 30 0)]))) H locs := hI
  obtain ⟨G_1, hG_1⟩ : ∃ z, z = gset G (9, 0, 0) h0 (.inr (9, [.int (nI 0), .ref (L 30 0)])) := ⟨_, rfl⟩
  rw [← hG_1] at hI
  have yd_G_1 : G_1 (5, 30, 0) = some ((L 30 0), .inr (8, [.ref (L 31 0), .ref (L 33 0), .int (nI (yF y))])) := by rw [hG_1, gset_ne (by simp)]; exact hM.2.1.1.1
  have ls_G_1 : G_1 (5, 31, 0) = some ((L 31 0), .inr (0, [.int m1, .ref ar1, .int (nI (ySc y))])) := by rw [hG_1, gset_ne (by simp)]; exact hl1
  have lk_G_1 : G_1 (5, 33, 0) = some ((L 33 0), .inr (0, [.int m2, .ref ar2, .int (nI (yKc y))])) := by rw [hG_1, gset_ne (by simp)]; exact hl2
  have o_G_1 : G_1 (9, 0, 0) = some (h0, .inr (9, [.int (nI 0), .ref (L 30 0)])) := by rw [hG_1]; exact gset_eq _ _ _ _
  have hM : MdC K L h0 0 G_1 y N := by rw [hG_1]; exact hM.th (by decide)
  have hag : AgM G G_1 := by rw [hG_1]; exact AgM.rf.st (by decide)
  obtain ⟨m1, ar1, hl1⟩ := hM.2.1.2.1.obj
  obtain ⟨m2, ar2, hl2⟩ := hM.2.1.2.2.1.obj
  refine lv_ldc2 hx hb S.2.2.2.1 (S.2.2.2.2 _ (List.mem_cons_of_mem _ (List.mem_append_left _ (List.mem_append_left _ (List.mem_append_left _ (List.mem_append_left _ (List.mem_append_left _ (List.mem_append_left _ (List.mem_of_getElem? (i := 1) rfl))))))))) dX8_digest_5 ?_
  refine lv_lstore_n (lv' := [(1, .long (58105)), (0, .ref h0)]) hx hb dX8_digest_8 rfl hl (by decide) rfl (fun ls hl => ?_)
  refine lv_iconst (v := nI 0) hx hb dX8_digest_9 (by decide) ?_
  refine lv_istore_n (lv' := [(3, .int (nI 0)), (1, .long (58105)), (0, .ref h0)]) hx hb dX8_digest_10 rfl hl (by decide) rfl (fun ls hl => ?_)
  have L11 : ∀ (n : Nat) (j : Nat) (d9 : Int64) (G1 : gW) (H : Heap) (locs : List Loc) (ls : Array Slot) (hn : 8 - j < n) (hj : j ≤ 8) (hd : d9 = dFold (yMany y) 58105 j) (hM : MdC K L h0 0 G1 y N) (hag : AgM G G1), gI K A s G1 H locs → lv_has ls 5 [(0, .ref h0), (1, .long d9), (3, .int (nI j))] → W p l e (gRoom 13 296 1037 11971) s m ([.ref h0] : List Value).toArray below meth c H locs j (8 * j) (gEnd K below (fun v G1 => v = some (.long (yDigest y)) ∧ MdC K L h0 0 G1 y N ∧ AgM G G1) (gNo) A ([.ref h0] : List Value).toArray s 1037 11971) (F0 m 11 ls []) := by
    clear hI hl
    intro n
    induction n with
    | zero =>
      intro j d9 G1 H locs ls hn hj hd hM hag hI hl
      exact absurd hn (Nat.not_lt_zero _)
    | succ n ih =>
      intro j d9 G1 H locs ls hn hj hd hM hag hI hl
      obtain ⟨m1, ar1, hl1⟩ := hM.2.1.2.1.obj
      obtain ⟨m2, ar2, hl2⟩ := hM.2.1.2.2.1.obj
      refine lv_iload_n hx hb dX8_digest_11 rfl (lv_at hl 2 rfl) ?_
      refine lv_bipush (v := nI 8) hx hb dX8_digest_12 (by decide) ?_
      refine lv_icmp_ge (tgt := 34) hx hb dX8_digest_14 (by decide) (fun c_14 => ?_) (fun c_14 => ?_)
      · skip
        have c_14 : 8 ≤ j := (nI_leI (a := 8) (b := j) (by omega) (by omega)).mp c_14
        refine lv_iconst (v := nI 0) hx hb dX8_digest_34 (by decide) ?_
        refine lv_istore_n (lv' := [(3, .int (nI 0)), (0, .ref h0), (1, .long d9)]) hx hb dX8_digest_35 rfl hl (by decide) rfl (fun ls hl => ?_)
        have L36 : ∀ (n : Nat) (i : Nat) (d9 : Int64) (G1 : gW) (H : Heap) (locs : List Loc) (ls : Array Slot) (hn : ySc y - i < n) (hi : i ≤ ySc y) (hd : d9 = dSlabs y (dFold (yMany y) 58105 8) i) (hM : MdC K L h0 0 G1 y N) (hag : AgM G G1), gI K A s G1 H locs → lv_has ls 5 [(0, .ref h0), (1, .long d9), (3, .int (nI i))] → W p l e (gRoom 13 296 1037 11971) s m ([.ref h0] : List Value).toArray below meth c H locs (8 + 6 * i) (64 + 36 * i) (gEnd K below (fun v G1 => v = some (.long (yDigest y)) ∧ MdC K L h0 0 G1 y N ∧ AgM G G1) (gNo) A ([.ref h0] : List Value).toArray s 1037 11971) (F0 m 36 ls []) := by
          clear hI hl
          intro n
          induction n with
          | zero =>
            intro i d9 G1 H locs ls hn hi hd hM hag hI hl
            exact absurd hn (Nat.not_lt_zero _)
          | succ n ih36 =>
            intro i d9 G1 H locs ls hn hi hd hM hag hI hl
            obtain ⟨m1, ar1, hl1⟩ := hM.2.1.2.1.obj
            obtain ⟨m2, ar2, hl2⟩ := hM.2.1.2.2.1.obj
            refine lv_iload_n hx hb dX8_digest_36 rfl (lv_at hl 2 rfl) ?_
            refine lv_aload_n hx hb dX8_digest_37 rfl (lv_at hl 0 rfl) ?_
            refine g_get S hE hI (C := RX8) (T := TX8) (N := 2) (ref := "StonecutterYardModel") (fun w h => (List.mem_cons_of_mem _ (List.mem_append_left _ (List.mem_append_left _ (List.mem_append_left _ (List.mem_append_left _ (List.mem_append_right _ h))))))) hM.1 rfl 1 (by decide) (List.mem_cons_of_mem _ (List.mem_append_left _ (List.mem_append_left _ (List.mem_append_left _ (List.mem_append_left _ (List.mem_append_left _ (List.mem_append_left _ (List.mem_of_getElem? (i := 2) rfl)))))))) (fun _ h9 => h9) (v := .ref (L 30 0)) rfl dX8_digest_38 ?_
            refine g_get S hE hI (C := RX7) (T := TX7) (N := 3) (ref := "StonecutterYardModel$Yard") (fun w h => (List.mem_cons_of_mem _ (List.mem_append_left _ (List.mem_append_left _ (List.mem_append_left _ (List.mem_append_right _ h)))))) hM.2.1.1.1 rfl 0 (by decide) (List.mem_cons_of_mem _ (List.mem_append_left _ (List.mem_append_left _ (List.mem_append_left _ (List.mem_append_left _ (List.mem_append_left _ (List.mem_append_left _ (List.mem_of_getElem? (i := 3) rfl)))))))) (fun _ h9 => h9) (v := .ref (L 31 0)) rfl dX8_digest_41 ?_
            refine g_callV (As := []) (rest := [.int (nI i)]) (b := (L 31 0)) (n := 0) S hE hI hA (l_size l K _ (5, 31, 0) (tbL 5 32) (L 31 0) (ySc y) (L 35) hM.2.1.2.1) gX8_digest_Jx4a65c_size_8abf5 rfl (by decide +kernel) ⟨Nat.le_of_ble_eq_true rfl, Nat.le_of_ble_eq_true rfl⟩ (g_hro hE hI hl1 rfl) rfl hl.1 rfl (Nat.le_of_ble_eq_true rfl) dX8_digest_44 ⟨by show _ ≤ 1037; omega, by show _ ≤ 11971; omega⟩ (fun E ce q9 Gx H1 locs1 hx9 => hx9.elim) (fun rv Gc_44 H locs hp hI => ?_)
            obtain ⟨rfl, hq9⟩ := hp
            rw [hq9] at hI
            refine W.eq (g2 := F0 m 47 ls [.int (nI (ySc y)), .int (nI i)]) rfl ?_
            refine lv_icmp_ge (tgt := 141) hx hb dX8_digest_47 (by decide) (fun c_47 => ?_) (fun c_47 => ?_)
            · skip
              have c_47 : (ySc y) ≤ i := (nI_leI (a := (ySc y)) (b := i) (by omega) (by omega)).mp c_47
              refine lv_iconst (v := nI 0) hx hb dX8_digest_141 (by decide) ?_
              refine lv_istore_n (lv' := [(3, .int (nI 0)), (0, .ref h0), (1, .long d9)]) hx hb dX8_digest_142 rfl hl (by decide) rfl (fun ls hl => ?_)
              have L143 : ∀ (n : Nat) (i : Nat) (d9 : Int64) (G1 : gW) (H : Heap) (locs : List Loc) (ls : Array Slot) (hn : yKc y - i < n) (hi : i ≤ yKc y) (hd : d9 = dKinds y (dSlabs y (dFold (yMany y) 58105 8) (ySc y)) i) (hM : MdC K L h0 0 G1 y N) (hag : AgM G G1), gI K A s G1 H locs → lv_has ls 5 [(0, .ref h0), (1, .long d9), (3, .int (nI i))] → W p l e (gRoom 13 296 1037 11971) s m ([.ref h0] : List Value).toArray below meth c H locs (248 + 8 * i) (1504 + 64 * i) (gEnd K below (fun v G1 => v = some (.long (yDigest y)) ∧ MdC K L h0 0 G1 y N ∧ AgM G G1) (gNo) A ([.ref h0] : List Value).toArray s 1037 11971) (F0 m 143 ls []) := by
                clear hI hl
                intro n
                induction n with
                | zero =>
                  intro i d9 G1 H locs ls hn hi hd hM hag hI hl
                  exact absurd hn (Nat.not_lt_zero _)
                | succ n ih143 =>
                  intro i d9 G1 H locs ls hn hi hd hM hag hI hl
                  obtain ⟨m1, ar1, hl1⟩ := hM.2.1.2.1.obj
                  obtain ⟨m2, ar2, hl2⟩ := hM.2.1.2.2.1.obj
                  refine lv_iload_n hx hb dX8_digest_143 rfl (lv_at hl 2 rfl) ?_
                  refine lv_aload_n hx hb dX8_digest_144 rfl (lv_at hl 0 rfl) ?_
                  refine g_get S hE hI (C := RX8) (T := TX8) (N := 2) (ref := "StonecutterYardModel") (fun w h => (List.mem_cons_of_mem _ (List.mem_append_left _ (List.mem_append_left _ (List.mem_append_left _ (List.mem_append_left _ (List.mem_append_right _ h))))))) hM.1 rfl 1 (by decide) (List.mem_cons_of_mem _ (List.mem_append_left _ (List.mem_append_left _ (List.mem_append_left _ (List.mem_append_left _ (List.mem_append_left _ (List.mem_append_left _ (List.mem_of_getElem? (i := 2) rfl)))))))) (fun _ h9 => h9) (v := .ref (L 30 0)) rfl dX8_digest_145 ?_
                  refine g_get S hE hI (C := RX7) (T := TX7) (N := 3) (ref := "StonecutterYardModel$Yard") (fun w h => (List.mem_cons_of_mem _ (List.mem_append_left _ (List.mem_append_left _ (List.mem_append_left _ (List.mem_append_right _ h)))))) hM.2.1.1.1 rfl 1 (by decide) (List.mem_cons_of_mem _ (List.mem_append_left _ (List.mem_append_left _ (List.mem_append_left _ (List.mem_append_left _ (List.mem_append_left _ (List.mem_append_left _ (List.mem_of_getElem? (i := 4) rfl)))))))) (fun _ h9 => h9) (v := .ref (L 33 0)) rfl dX8_digest_148 ?_
                  refine g_callV (As := []) (rest := [.int (nI i)]) (b := (L 33 0)) (n := 0) S hE hI hA (l_size l K _ (5, 33, 0) (tbL 5 34) (L 33 0) (yKc y) (L 38) hM.2.1.2.2.1) gX8_digest_Jx4a65c_size_8abf5 rfl (by decide +kernel) ⟨Nat.le_of_ble_eq_true rfl, Nat.le_of_ble_eq_true rfl⟩ (g_hro hE hI hl2 rfl) rfl hl.1 rfl (Nat.le_of_ble_eq_true rfl) dX8_digest_151 ⟨by show _ ≤ 1037; omega, by show _ ≤ 11971; omega⟩ (fun E ce q9 Gx H1 locs1 hx9 => hx9.elim) (fun rv Gc_151 H locs hp hI => ?_)
                  obtain ⟨rfl, hq9⟩ := hp
                  rw [hq9] at hI
                  refine W.eq (g2 := F0 m 154 ls [.int (nI (yKc y)), .int (nI i)]) rfl ?_
                  refine lv_icmp_ge (tgt := 204) hx hb dX8_digest_154 (by decide) (fun c_154 => ?_) (fun c_154 => ?_)
                  · skip
                    have c_154 : (yKc y) ≤ i := (nI_leI (a := (yKc y)) (b := i) (by omega) (by omega)).mp c_154
                    refine lv_aload_n hx hb dX8_digest_204 rfl (lv_at hl 0 rfl) ?_
                    refine g_get S hE hI (C := RX8) (T := TX8) (N := 2) (ref := "StonecutterYardModel") (fun w h => (List.mem_cons_of_mem _ (List.mem_append_left _ (List.mem_append_left _ (List.mem_append_left _ (List.mem_append_left _ (List.mem_append_right _ h))))))) hM.1 rfl 1 (by decide) (List.mem_cons_of_mem _ (List.mem_append_left _ (List.mem_append_left _ (List.mem_append_left _ (List.mem_append_left _ (List.mem_append_left _ (List.mem_append_left _ (List.mem_of_getElem? (i := 2) rfl)))))))) (fun _ h9 => h9) (v := .ref (L 30 0)) rfl dX8_digest_205 ?_
                    refine lv_iconst (v := nI 0) hx hb dX8_digest_208 (by decide) ?_
                    refine g_callV (As := [.int (nI 0)]) (rest := []) (b := (L 30 0)) (n := 1) S hE hI hA (c_X7_worths l K _ 5 L y N 0 11 hM.2.1 (by decide) ⟨by decide, by decide⟩) gX8_digest_X7_worths rfl (by decide +kernel) ⟨Nat.le_of_ble_eq_true rfl, Nat.le_of_ble_eq_true rfl⟩ (g_hro hE hI hM.2.1.1.1 rfl) rfl hl.1 rfl (Nat.le_of_ble_eq_true rfl) dX8_digest_209 ⟨by show _ ≤ 1037; omega, by show _ ≤ 11971; omega⟩ (fun E ce q9 Gx H1 locs1 hx9 => hx9.elim) (fun rv Gc_209 H locs hp hI => ?_)
                    obtain ⟨qa, rfl, htb, hof⟩ := hp
                    have hW : AgW N _ Gc_209 := AgW.one hof (by decide)
                    have hM := hW.md hM
                    have hag := hag.tr hW.ag
                    have htb2 := htb
                    obtain ⟨Rr, hto, hrow⟩ := htb2
                    obtain ⟨fw, hrw, hvw⟩ := hrow 12 (by decide)
                    obtain ⟨m1, ar1, hl1⟩ := hM.2.1.2.1.obj
                    obtain ⟨m2, ar2, hl2⟩ := hM.2.1.2.2.1.obj
                    refine W.eq (g2 := F0 m 212 ls [.ref qa]) rfl ?_
                    refine lv_astore_n (lv' := [(3, .ref qa), (0, .ref h0), (1, .long d9)]) hx hb dX8_digest_212 rfl hl (by decide) rfl (fun ls hl => ?_)
                    refine lv_lload_n hx hb dX8_digest_213 rfl (lv_at hl 2 rfl) ?_
                    refine lv_aload_n hx hb dX8_digest_214 rfl (lv_at hl 0 rfl) ?_
                    refine lv_bipush (v := nI 12) hx hb dX8_digest_215 (by decide) ?_
                    refine g_aald S hE hI (j := 12) (f := (fun i => if i < 25 then some (Rr i) else none)) hto (k := 5) rfl rfl rfl (by omega) (by decide) (v := .ref (Rr 12)) rfl dX8_digest_217 ?_
                    refine lv_bipush (v := nI 9) hx hb dX8_digest_218 (by decide) ?_
                    refine g_iald S hE hI (j := 9) (f := fw) hrw rfl (by omega) (by decide) dX8_digest_220 ?_
                    refine W.eq (g2 := F0 m 221 ls [.int (nI (wV (ySt2 y 0) (yF y) 12 9)), .long d9]) (by rw [hvw _ (by decide) (by decide) (by decide)]) ?_
                    refine lv_i2l hx hb dX8_digest_221 rfl ?_
                    refine g_callS (As := [.long d9, .long ((nI (wV (ySt2 y 0) (yF y) 12 9)).toInt64)]) (rest := []) (n := 2) S hE hI hA (c_X8_add l K _ d9 ((nI (wV (ySt2 y 0) (yF y) 12 9)).toInt64)) gX8_digest_X8_add rfl (by decide +kernel) ⟨Nat.le_of_ble_eq_true rfl, Nat.le_of_ble_eq_true rfl⟩ rfl hl.1 rfl (Nat.le_of_ble_eq_true rfl) dX8_digest_222 ⟨by show _ ≤ 1037; omega, by show _ ≤ 11971; omega⟩ (fun E ce q9 Gx H1 locs1 hx9 => hx9.elim) (fun rv Gc_222 H locs hp hI => ?_)
                    obtain ⟨rfl, hq9⟩ := hp
                    rw [hq9] at hI
                    refine W.eq (g2 := F0 m 225 ls [.long (d9 * 31 + ((nI (wV (ySt2 y 0) (yF y) 12 9)).toInt64))]) rfl ?_
                    refine lv_aload_n hx hb dX8_digest_225 rfl (lv_at hl 1 rfl) ?_
                    refine g_get S hE hI (C := RX8) (T := TX8) (N := 2) (ref := "StonecutterYardModel") (fun w h => (List.mem_cons_of_mem _ (List.mem_append_left _ (List.mem_append_left _ (List.mem_append_left _ (List.mem_append_left _ (List.mem_append_right _ h))))))) hM.1 rfl 1 (by decide) (List.mem_cons_of_mem _ (List.mem_append_left _ (List.mem_append_left _ (List.mem_append_left _ (List.mem_append_left _ (List.mem_append_left _ (List.mem_append_left _ (List.mem_of_getElem? (i := 2) rfl)))))))) (fun _ h9 => h9) (v := .ref (L 30 0)) rfl dX8_digest_226 ?_
                    refine lv_aload_n hx hb dX8_digest_229 rfl (lv_at hl 0 rfl) ?_
                    refine lv_bipush (v := nI 12) hx hb dX8_digest_230 (by decide) ?_
                    refine lv_bipush (v := nI 9) hx hb dX8_digest_232 (by decide) ?_
                    refine lv_iconst (v := nI 0) hx hb dX8_digest_234 (by decide) ?_
                    refine g_callV (As := [.ref qa, .int (nI 12), .int (nI 9), .int (nI 0)]) (rest := [.long (d9 * 31 + ((nI (wV (ySt2 y 0) (yF y) 12 9)).toInt64))]) (b := (L 30 0)) (n := 4) S hE hI hA (c_X7_bestCut l K _ 5 L y N 11 qa 12 9 0 hM.2.1 htb ⟨⟨by decide, by decide⟩, ⟨by decide, by decide⟩, by decide⟩) gX8_digest_X7_bestCut rfl (by decide +kernel) ⟨Nat.le_of_ble_eq_true rfl, Nat.le_of_ble_eq_true rfl⟩ (g_hro hE hI hM.2.1.1.1 rfl) rfl hl.1 rfl (Nat.le_of_ble_eq_true rfl) dX8_digest_235 ⟨by show _ ≤ 1037; omega, by show _ ≤ 11971; omega⟩ (fun E ce q9 Gx H1 locs1 hx9 => hx9.elim) (fun rv Gc_235 H locs hp hI => ?_)
                    obtain ⟨rfl, hq9⟩ := hp
                    rw [hq9] at hI
                    refine W.eq (g2 := F0 m 238 ls [.int (cE (qV (ySt2 y 0) (yF y) 12 9).2), .long (d9 * 31 + ((nI (wV (ySt2 y 0) (yF y) 12 9)).toInt64))]) rfl ?_
                    refine lv_i2l hx hb dX8_digest_238 rfl ?_
                    refine g_callS (As := [.long (d9 * 31 + ((nI (wV (ySt2 y 0) (yF y) 12 9)).toInt64)), .long ((cE (qV (ySt2 y 0) (yF y) 12 9).2).toInt64)]) (rest := []) (n := 2) S hE hI hA (c_X8_add l K _ (d9 * 31 + ((nI (wV (ySt2 y 0) (yF y) 12 9)).toInt64)) ((cE (qV (ySt2 y 0) (yF y) 12 9).2).toInt64)) gX8_digest_X8_add rfl (by decide +kernel) ⟨Nat.le_of_ble_eq_true rfl, Nat.le_of_ble_eq_true rfl⟩ rfl hl.1 rfl (Nat.le_of_ble_eq_true rfl) dX8_digest_239 ⟨by show _ ≤ 1037; omega, by show _ ≤ 11971; omega⟩ (fun E ce q9 Gx H1 locs1 hx9 => hx9.elim) (fun rv Gc_239 H locs hp hI => ?_)
                    obtain ⟨rfl, hq9⟩ := hp
                    rw [hq9] at hI
                    refine W.eq (g2 := F0 m 242 ls [.long ((d9 * 31 + ((nI (wV (ySt2 y 0) (yF y) 12 9)).toInt64)) * 31 + ((cE (qV (ySt2 y 0) (yF y) 12 9).2).toInt64))]) rfl ?_
                    refine lv_lstore_n (lv' := [(1, .long ((d9 * 31 + ((nI (wV (ySt2 y 0) (yF y) 12 9)).toInt64)) * 31 + ((cE (qV (ySt2 y 0) (yF y) 12 9).2).toInt64))), (3, .ref qa), (0, .ref h0)]) hx hb dX8_digest_242 rfl hl (by decide) rfl (fun ls hl => ?_)
                    refine lv_lload_n hx hb dX8_digest_243 rfl (lv_at hl 0 rfl) ?_
                    refine lv_aload_n hx hb dX8_digest_244 rfl (lv_at hl 2 rfl) ?_
                    refine lv_iconst (v := nI 3) hx hb dX8_digest_245 (by decide) ?_
                    refine g_callV (As := [.int (nI 3)]) (rest := [.long ((d9 * 31 + ((nI (wV (ySt2 y 0) (yF y) 12 9)).toInt64)) * 31 + ((cE (qV (ySt2 y 0) (yF y) 12 9).2).toInt64))]) (b := h0) (n := 1) S hE hI hA (c_X8_planPaysNow l K _ L h0 0 y N 3 hM ⟨by decide, by decide⟩) gX8_digest_X8_planPaysNow rfl (by decide +kernel) ⟨Nat.le_of_ble_eq_true rfl, Nat.le_of_ble_eq_true rfl⟩ (g_hro hE hI hM.1 rfl) rfl hl.1 rfl (Nat.le_of_ble_eq_true rfl) dX8_digest_246 ⟨by show _ ≤ 1037; omega, by show _ ≤ 11971; omega⟩ (fun E ce q9 Gx H1 locs1 hx9 => hx9.elim) (fun rv Gc_246 H locs hp hI => ?_)
                    obtain ⟨rfl, hW⟩ := hp
                    have hM := hW.md hM
                    have hag := hag.tr hW.ag
                    refine W.eq (g2 := F0 m 249 ls [.int (yPays y 3), .long ((d9 * 31 + ((nI (wV (ySt2 y 0) (yF y) 12 9)).toInt64)) * 31 + ((cE (qV (ySt2 y 0) (yF y) 12 9).2).toInt64))]) rfl ?_
                    refine lv_i2l hx hb dX8_digest_249 rfl ?_
                    refine g_callS (As := [.long ((d9 * 31 + ((nI (wV (ySt2 y 0) (yF y) 12 9)).toInt64)) * 31 + ((cE (qV (ySt2 y 0) (yF y) 12 9).2).toInt64)), .long ((yPays y 3).toInt64)]) (rest := []) (n := 2) S hE hI hA (c_X8_add l K _ ((d9 * 31 + ((nI (wV (ySt2 y 0) (yF y) 12 9)).toInt64)) * 31 + ((cE (qV (ySt2 y 0) (yF y) 12 9).2).toInt64)) ((yPays y 3).toInt64)) gX8_digest_X8_add rfl (by decide +kernel) ⟨Nat.le_of_ble_eq_true rfl, Nat.le_of_ble_eq_true rfl⟩ rfl hl.1 rfl (Nat.le_of_ble_eq_true rfl) dX8_digest_250 ⟨by show _ ≤ 1037; omega, by show _ ≤ 11971; omega⟩ (fun E ce q9 Gx H1 locs1 hx9 => hx9.elim) (fun rv Gc_250 H locs hp hI => ?_)
                    obtain ⟨rfl, hq9⟩ := hp
                    rw [hq9] at hI
                    refine W.eq (g2 := F0 m 253 ls [.long (((d9 * 31 + ((nI (wV (ySt2 y 0) (yF y) 12 9)).toInt64)) * 31 + ((cE (qV (ySt2 y 0) (yF y) 12 9).2).toInt64)) * 31 + ((yPays y 3).toInt64))]) rfl ?_
                    exact g_lret S hI hr hlocks (by omega) (by omega) dX8_digest_253 ⟨by rw [hd, show i = yKc y by omega]; rfl, hM, hag⟩
                  · skip
                    have c_154 : i < (yKc y) := Nat.not_le.mp (fun z => c_154 ((nI_leI (a := (yKc y)) (b := i) (by omega) (by omega)).mpr z))
                    refine lv_iconst (v := nI 0) hx hb dX8_digest_157 (by decide) ?_
                    refine lv_istore (lv' := [(4, .int (nI 0)), (0, .ref h0), (1, .long d9), (3, .int (nI i))]) hx hb dX8_digest_158 hl (by decide) rfl (fun ls hl => ?_)
                    have L160 : ∀ (n : Nat) (j : Nat) (d9 : Int64) (G1 : gW) (H : Heap) (locs : List Loc) (ls : Array Slot) (hn : 8 - j < n) (hj : j ≤ 8) (hd : d9 = dFold (kOf (yK y i)) (dKinds y (dSlabs y (dFold (yMany y) 58105 8) (ySc y)) i) j) (hM : MdC K L h0 0 G1 y N) (hag : AgM G G1), gI K A s G1 H locs → lv_has ls 5 [(0, .ref h0), (1, .long d9), (3, .int (nI i)), (4, .int (nI j))] → W p l e (gRoom 13 296 1037 11971) s m ([.ref h0] : List Value).toArray below meth c H locs (248 + 8 * i + j) (1504 + 64 * i + 8 * j) (gEnd K below (fun v G1 => v = some (.long (yDigest y)) ∧ MdC K L h0 0 G1 y N ∧ AgM G G1) (gNo) A ([.ref h0] : List Value).toArray s 1037 11971) (F0 m 160 ls []) := by
                      clear hI hl
                      intro n
                      induction n with
                      | zero =>
                        intro j d9 G1 H locs ls hn hj hd hM hag hI hl
                        exact absurd hn (Nat.not_lt_zero _)
                      | succ n ih160 =>
                        intro j d9 G1 H locs ls hn hj hd hM hag hI hl
                        obtain ⟨m1, ar1, hl1⟩ := hM.2.1.2.1.obj
                        obtain ⟨m2, ar2, hl2⟩ := hM.2.1.2.2.1.obj
                        refine lv_iload hx hb dX8_digest_160 (lv_at hl 3 rfl) ?_
                        refine lv_bipush (v := nI 8) hx hb dX8_digest_162 (by decide) ?_
                        refine lv_icmp_ge (tgt := 198) hx hb dX8_digest_164 (by decide) (fun c_164 => ?_) (fun c_164 => ?_)
                        · skip
                          have c_164 : 8 ≤ j := (nI_leI (a := 8) (b := j) (by omega) (by omega)).mp c_164
                          refine lv_iinc (v := nI (i + 1)) (lv' := [(3, .int (nI (i + 1))), (0, .ref h0), (1, .long d9), (4, .int (nI j))]) hx hb dX8_digest_198 hl (k := 2) rfl (nI_add _ 1) (by decide) rfl (fun ls hl => ?_)
                          refine lv_goto (tgt := 143) hx hb dX8_digest_201 (by decide) ?_
                          exact W.widen (by omega) (by omega) (ih143 (i + 1) _ G1 H locs ls (by omega) (by omega) (by rw [hd, show j = 8 by omega]; rfl) hM hag hI (lv_sub hl [1,2,0] rfl))
                        · skip
                          have c_164 : j < 8 := Nat.not_le.mp (fun z => c_164 ((nI_leI (a := 8) (b := j) (by omega) (by omega)).mpr z))
                          refine lv_lload_n hx hb dX8_digest_167 rfl (lv_at hl 1 rfl) ?_
                          refine lv_aload_n hx hb dX8_digest_168 rfl (lv_at hl 0 rfl) ?_
                          refine g_get S hE hI (C := RX8) (T := TX8) (N := 2) (ref := "StonecutterYardModel") (fun w h => (List.mem_cons_of_mem _ (List.mem_append_left _ (List.mem_append_left _ (List.mem_append_left _ (List.mem_append_left _ (List.mem_append_right _ h))))))) hM.1 rfl 1 (by decide) (List.mem_cons_of_mem _ (List.mem_append_left _ (List.mem_append_left _ (List.mem_append_left _ (List.mem_append_left _ (List.mem_append_left _ (List.mem_append_left _ (List.mem_of_getElem? (i := 2) rfl)))))))) (fun _ h9 => h9) (v := .ref (L 30 0)) rfl dX8_digest_169 ?_
                          refine g_get S hE hI (C := RX7) (T := TX7) (N := 3) (ref := "StonecutterYardModel$Yard") (fun w h => (List.mem_cons_of_mem _ (List.mem_append_left _ (List.mem_append_left _ (List.mem_append_left _ (List.mem_append_right _ h)))))) hM.2.1.1.1 rfl 1 (by decide) (List.mem_cons_of_mem _ (List.mem_append_left _ (List.mem_append_left _ (List.mem_append_left _ (List.mem_append_left _ (List.mem_append_left _ (List.mem_append_left _ (List.mem_of_getElem? (i := 4) rfl)))))))) (fun _ h9 => h9) (v := .ref (L 33 0)) rfl dX8_digest_172 ?_
                          refine lv_iload_n hx hb dX8_digest_175 rfl (lv_at hl 2 rfl) ?_
                          refine g_callV (As := [.int (nI i)]) (rest := [.long d9]) (b := (L 33 0)) (n := 1) S hE hI hA (l_get l K _ (5, 33, 0) (tbL 5 34) (L 33 0) (yKc y) (L 38) i hM.2.1.2.2.1 (by omega)) gX8_digest_Jx4a65c_get_915e3 rfl (by decide +kernel) ⟨Nat.le_of_ble_eq_true rfl, Nat.le_of_ble_eq_true rfl⟩ (g_hro hE hI hl2 rfl) rfl hl.1 rfl (Nat.le_of_ble_eq_true rfl) dX8_digest_176 ⟨by show _ ≤ 1037; omega, by show _ ≤ 11971; omega⟩ (fun E ce q9 Gx H1 locs1 hx9 => hx9.elim) (fun rv Gc_176 H locs hp hI => ?_)
                          obtain ⟨rfl, hq9⟩ := hp
                          rw [hq9] at hI
                          obtain ⟨hkd, hkok⟩ := hM.2.1.2.2.2.2 i (by omega)
                          obtain ⟨k1, k2, k3, k4, k5, k6, k7, k8, k9⟩ := id hkok
                          refine W.eq (g2 := F0 m 179 ls [.ref (L 38 i), .long d9]) rfl ?_
                          refine g_cast S (List.mem_cons_of_mem _ (List.mem_append_left _ (List.mem_append_left _ (List.mem_append_left _ (List.mem_append_left _ (List.mem_append_left _ (List.mem_append_left _ (List.mem_of_getElem? (i := 5) rfl)))))))) (g_hro hE hI hkd rfl) dX8_digest_179 ?_
                          refine lv_iload hx hb dX8_digest_182 (lv_at hl 3 rfl) ?_
                          refine g_callS (As := [.ref (L 38 i), .int (nI j)]) (rest := [.long d9]) (n := 2) S hE hI hA (c_X8_of__ l K _ L h0 0 y N i j hM (by omega) (by omega)) gX8_digest_X8_of__ rfl (by decide +kernel) ⟨Nat.le_of_ble_eq_true rfl, Nat.le_of_ble_eq_true rfl⟩ rfl hl.1 rfl (Nat.le_of_ble_eq_true rfl) dX8_digest_184 ⟨by show _ ≤ 1037; omega, by show _ ≤ 11971; omega⟩ (fun E ce q9 Gx H1 locs1 hx9 => hx9.elim) (fun rv Gc_184 H locs hp hI => ?_)
                          obtain ⟨rfl, hw9⟩ := hp
                          have hM := hM.m13 hw9
                          have hag := hag.tr (ag13 hw9)
                          obtain ⟨m1, ar1, hl1⟩ := hM.2.1.2.1.obj
                          obtain ⟨m2, ar2, hl2⟩ := hM.2.1.2.2.1.obj
                          refine W.eq (g2 := F0 m 187 ls [.int (kOf (yK y i) j), .long d9]) rfl ?_
                          refine lv_i2l hx hb dX8_digest_187 rfl ?_
                          refine g_callS (As := [.long d9, .long ((kOf (yK y i) j).toInt64)]) (rest := []) (n := 2) S hE hI hA (c_X8_add l K _ d9 ((kOf (yK y i) j).toInt64)) gX8_digest_X8_add rfl (by decide +kernel) ⟨Nat.le_of_ble_eq_true rfl, Nat.le_of_ble_eq_true rfl⟩ rfl hl.1 rfl (Nat.le_of_ble_eq_true rfl) dX8_digest_188 ⟨by show _ ≤ 1037; omega, by show _ ≤ 11971; omega⟩ (fun E ce q9 Gx H1 locs1 hx9 => hx9.elim) (fun rv Gc_188 H locs hp hI => ?_)
                          obtain ⟨rfl, hq9⟩ := hp
                          rw [hq9] at hI
                          refine W.eq (g2 := F0 m 191 ls [.long (d9 * 31 + ((kOf (yK y i) j).toInt64))]) rfl ?_
                          refine lv_lstore_n (lv' := [(1, .long (d9 * 31 + ((kOf (yK y i) j).toInt64))), (0, .ref h0), (3, .int (nI i)), (4, .int (nI j))]) hx hb dX8_digest_191 rfl hl (by decide) rfl (fun ls hl => ?_)
                          refine lv_iinc (v := nI (j + 1)) (lv' := [(4, .int (nI (j + 1))), (1, .long (d9 * 31 + ((kOf (yK y i) j).toInt64))), (0, .ref h0), (3, .int (nI i))]) hx hb dX8_digest_192 hl (k := 3) rfl (nI_add _ 1) (by decide) rfl (fun ls hl => ?_)
                          refine lv_goto (tgt := 160) hx hb dX8_digest_195 (by decide) ?_
                          exact W.widen (by omega) (by omega) (ih160 (j + 1) _ Gc_184 H locs ls (by omega) (by omega) (by rw [hd]; rfl) hM hag hI (lv_sub hl [2,1,3,0] rfl))
                    exact W.widen (by omega) (by omega) (L160 _ 0 _ G1 H locs ls (Nat.lt_succ_self _) (Nat.zero_le _) (by rw [hd]; rfl) hM hag hI (lv_sub hl [1,2,3,0] rfl))
              exact W.widen (by omega) (by omega) (L143 _ 0 _ G1 H locs ls (Nat.lt_succ_self _) (Nat.zero_le _) (by rw [hd, show i = ySc y by omega]; rfl) hM hag hI (lv_sub hl [1,2,0] rfl))
            · skip
              have c_47 : i < (ySc y) := Nat.not_le.mp (fun z => c_47 ((nI_leI (a := (ySc y)) (b := i) (by omega) (by omega)).mpr z))
              refine lv_iconst (v := nI 0) hx hb dX8_digest_50 (by decide) ?_
              refine lv_istore (lv' := [(4, .int (nI 0)), (0, .ref h0), (1, .long d9), (3, .int (nI i))]) hx hb dX8_digest_51 hl (by decide) rfl (fun ls hl => ?_)
              have L53 : ∀ (n : Nat) (j : Nat) (d9 : Int64) (G1 : gW) (H : Heap) (locs : List Loc) (ls : Array Slot) (hn : 6 - j < n) (hj : j ≤ 6) (hd : d9 = dFold (sOf (yS y i)) (dSlabs y (dFold (yMany y) 58105 8) i) j) (hM : MdC K L h0 0 G1 y N) (hag : AgM G G1), gI K A s G1 H locs → lv_has ls 5 [(0, .ref h0), (1, .long d9), (3, .int (nI i)), (4, .int (nI j))] → W p l e (gRoom 13 296 1037 11971) s m ([.ref h0] : List Value).toArray below meth c H locs (8 + 6 * i + j) (64 + 36 * i + 6 * j) (gEnd K below (fun v G1 => v = some (.long (yDigest y)) ∧ MdC K L h0 0 G1 y N ∧ AgM G G1) (gNo) A ([.ref h0] : List Value).toArray s 1037 11971) (F0 m 53 ls []) := by
                clear hI hl
                intro n
                induction n with
                | zero =>
                  intro j d9 G1 H locs ls hn hj hd hM hag hI hl
                  exact absurd hn (Nat.not_lt_zero _)
                | succ n ih53 =>
                  intro j d9 G1 H locs ls hn hj hd hM hag hI hl
                  obtain ⟨m1, ar1, hl1⟩ := hM.2.1.2.1.obj
                  obtain ⟨m2, ar2, hl2⟩ := hM.2.1.2.2.1.obj
                  refine lv_iload hx hb dX8_digest_53 (lv_at hl 3 rfl) ?_
                  refine lv_bipush (v := nI 6) hx hb dX8_digest_55 (by decide) ?_
                  refine lv_icmp_ge (tgt := 82) hx hb dX8_digest_57 (by decide) (fun c_57 => ?_) (fun c_57 => ?_)
                  · skip
                    have c_57 : 6 ≤ j := (nI_leI (a := 6) (b := j) (by omega) (by omega)).mp c_57
                    refine lv_iconst (v := nI 0) hx hb dX8_digest_82 (by decide) ?_
                    refine lv_istore (lv' := [(4, .int (nI 0)), (0, .ref h0), (1, .long d9), (3, .int (nI i))]) hx hb dX8_digest_83 hl (by decide) rfl (fun ls hl => ?_)
                    have L85 : ∀ (n : Nat) (j : Nat) (d9 : Int64) (G1 : gW) (H : Heap) (locs : List Loc) (ls : Array Slot) (hn : yKc y - j < n) (hj : j ≤ yKc y) (hd : d9 = dFold (fun j => oI (sFits (yS y i) (yK y j))) (dFold (sOf (yS y i)) (dSlabs y (dFold (yMany y) 58105 8) i) 6) j) (hM : MdC K L h0 0 G1 y N) (hag : AgM G G1), gI K A s G1 H locs → lv_has ls 5 [(0, .ref h0), (1, .long d9), (3, .int (nI i)), (4, .int (nI j))] → W p l e (gRoom 13 296 1037 11971) s m ([.ref h0] : List Value).toArray below meth c H locs (8 + 6 * (i + 1)) (64 + 36 * (i + 1)) (gEnd K below (fun v G1 => v = some (.long (yDigest y)) ∧ MdC K L h0 0 G1 y N ∧ AgM G G1) (gNo) A ([.ref h0] : List Value).toArray s 1037 11971) (F0 m 85 ls []) := by
                      clear hI hl
                      intro n
                      induction n with
                      | zero =>
                        intro j d9 G1 H locs ls hn hj hd hM hag hI hl
                        exact absurd hn (Nat.not_lt_zero _)
                      | succ n ih85 =>
                        intro j d9 G1 H locs ls hn hj hd hM hag hI hl
                        obtain ⟨m1, ar1, hl1⟩ := hM.2.1.2.1.obj
                        obtain ⟨m2, ar2, hl2⟩ := hM.2.1.2.2.1.obj
                        refine lv_iload hx hb dX8_digest_85 (lv_at hl 3 rfl) ?_
                        refine lv_aload_n hx hb dX8_digest_87 rfl (lv_at hl 0 rfl) ?_
                        refine g_get S hE hI (C := RX8) (T := TX8) (N := 2) (ref := "StonecutterYardModel") (fun w h => (List.mem_cons_of_mem _ (List.mem_append_left _ (List.mem_append_left _ (List.mem_append_left _ (List.mem_append_left _ (List.mem_append_right _ h))))))) hM.1 rfl 1 (by decide) (List.mem_cons_of_mem _ (List.mem_append_left _ (List.mem_append_left _ (List.mem_append_left _ (List.mem_append_left _ (List.mem_append_left _ (List.mem_append_left _ (List.mem_of_getElem? (i := 2) rfl)))))))) (fun _ h9 => h9) (v := .ref (L 30 0)) rfl dX8_digest_88 ?_
                        refine g_get S hE hI (C := RX7) (T := TX7) (N := 3) (ref := "StonecutterYardModel$Yard") (fun w h => (List.mem_cons_of_mem _ (List.mem_append_left _ (List.mem_append_left _ (List.mem_append_left _ (List.mem_append_right _ h)))))) hM.2.1.1.1 rfl 1 (by decide) (List.mem_cons_of_mem _ (List.mem_append_left _ (List.mem_append_left _ (List.mem_append_left _ (List.mem_append_left _ (List.mem_append_left _ (List.mem_append_left _ (List.mem_of_getElem? (i := 4) rfl)))))))) (fun _ h9 => h9) (v := .ref (L 33 0)) rfl dX8_digest_91 ?_
                        refine g_callV (As := []) (rest := [.int (nI j)]) (b := (L 33 0)) (n := 0) S hE hI hA (l_size l K _ (5, 33, 0) (tbL 5 34) (L 33 0) (yKc y) (L 38) hM.2.1.2.2.1) gX8_digest_Jx4a65c_size_8abf5 rfl (by decide +kernel) ⟨Nat.le_of_ble_eq_true rfl, Nat.le_of_ble_eq_true rfl⟩ (g_hro hE hI hl2 rfl) rfl hl.1 rfl (Nat.le_of_ble_eq_true rfl) dX8_digest_94 ⟨by show _ ≤ 1037; omega, by show _ ≤ 11971; omega⟩ (fun E ce q9 Gx H1 locs1 hx9 => hx9.elim) (fun rv Gc_94 H locs hp hI => ?_)
                        obtain ⟨rfl, hq9⟩ := hp
                        rw [hq9] at hI
                        refine W.eq (g2 := F0 m 97 ls [.int (nI (yKc y)), .int (nI j)]) rfl ?_
                        refine lv_icmp_ge (tgt := 135) hx hb dX8_digest_97 (by decide) (fun c_97 => ?_) (fun c_97 => ?_)
                        · skip
                          have c_97 : (yKc y) ≤ j := (nI_leI (a := (yKc y)) (b := j) (by omega) (by omega)).mp c_97
                          refine lv_iinc (v := nI (i + 1)) (lv' := [(3, .int (nI (i + 1))), (0, .ref h0), (1, .long d9), (4, .int (nI j))]) hx hb dX8_digest_135 hl (k := 2) rfl (nI_add _ 1) (by decide) rfl (fun ls hl => ?_)
                          refine lv_goto (tgt := 36) hx hb dX8_digest_138 (by decide) ?_
                          exact W.widen (by omega) (by omega) (ih36 (i + 1) _ G1 H locs ls (by omega) (by omega) (by rw [hd, show j = yKc y by omega]; rfl) hM hag hI (lv_sub hl [1,2,0] rfl))
                        · skip
                          have c_97 : j < (yKc y) := Nat.not_le.mp (fun z => c_97 ((nI_leI (a := (yKc y)) (b := j) (by omega) (by omega)).mpr z))
                          refine lv_lload_n hx hb dX8_digest_100 rfl (lv_at hl 1 rfl) ?_
                          refine lv_aload_n hx hb dX8_digest_101 rfl (lv_at hl 0 rfl) ?_
                          refine g_get S hE hI (C := RX8) (T := TX8) (N := 2) (ref := "StonecutterYardModel") (fun w h => (List.mem_cons_of_mem _ (List.mem_append_left _ (List.mem_append_left _ (List.mem_append_left _ (List.mem_append_left _ (List.mem_append_right _ h))))))) hM.1 rfl 1 (by decide) (List.mem_cons_of_mem _ (List.mem_append_left _ (List.mem_append_left _ (List.mem_append_left _ (List.mem_append_left _ (List.mem_append_left _ (List.mem_append_left _ (List.mem_of_getElem? (i := 2) rfl)))))))) (fun _ h9 => h9) (v := .ref (L 30 0)) rfl dX8_digest_102 ?_
                          refine g_get S hE hI (C := RX7) (T := TX7) (N := 3) (ref := "StonecutterYardModel$Yard") (fun w h => (List.mem_cons_of_mem _ (List.mem_append_left _ (List.mem_append_left _ (List.mem_append_left _ (List.mem_append_right _ h)))))) hM.2.1.1.1 rfl 1 (by decide) (List.mem_cons_of_mem _ (List.mem_append_left _ (List.mem_append_left _ (List.mem_append_left _ (List.mem_append_left _ (List.mem_append_left _ (List.mem_append_left _ (List.mem_of_getElem? (i := 4) rfl)))))))) (fun _ h9 => h9) (v := .ref (L 33 0)) rfl dX8_digest_105 ?_
                          refine lv_iload hx hb dX8_digest_108 (lv_at hl 3 rfl) ?_
                          refine g_callV (As := [.int (nI j)]) (rest := [.long d9]) (b := (L 33 0)) (n := 1) S hE hI hA (l_get l K _ (5, 33, 0) (tbL 5 34) (L 33 0) (yKc y) (L 38) j hM.2.1.2.2.1 (by omega)) gX8_digest_Jx4a65c_get_915e3 rfl (by decide +kernel) ⟨Nat.le_of_ble_eq_true rfl, Nat.le_of_ble_eq_true rfl⟩ (g_hro hE hI hl2 rfl) rfl hl.1 rfl (Nat.le_of_ble_eq_true rfl) dX8_digest_110 ⟨by show _ ≤ 1037; omega, by show _ ≤ 11971; omega⟩ (fun E ce q9 Gx H1 locs1 hx9 => hx9.elim) (fun rv Gc_110 H locs hp hI => ?_)
                          obtain ⟨rfl, hq9⟩ := hp
                          rw [hq9] at hI
                          obtain ⟨hkd, hkok⟩ := hM.2.1.2.2.2.2 j (by omega)
                          obtain ⟨k1, k2, k3, k4, k5, k6, k7, k8, k9⟩ := id hkok
                          refine W.eq (g2 := F0 m 113 ls [.ref (L 38 j), .long d9]) rfl ?_
                          refine g_cast S (List.mem_cons_of_mem _ (List.mem_append_left _ (List.mem_append_left _ (List.mem_append_left _ (List.mem_append_left _ (List.mem_append_left _ (List.mem_append_left _ (List.mem_of_getElem? (i := 5) rfl)))))))) (g_hro hE hI hkd rfl) dX8_digest_113 ?_
                          refine lv_aload_n hx hb dX8_digest_116 rfl (lv_at hl 0 rfl) ?_
                          refine lv_iload_n hx hb dX8_digest_117 rfl (lv_at hl 2 rfl) ?_
                          refine g_callV (As := [.int (nI i)]) (rest := [.ref (L 38 j), .long d9]) (b := h0) (n := 1) S hE hI hA (c_X8_of l K _ L h0 0 y N i hM (by omega)) gX8_digest_X8_of rfl (by decide +kernel) ⟨Nat.le_of_ble_eq_true rfl, Nat.le_of_ble_eq_true rfl⟩ (g_hro hE hI hM.1 rfl) rfl hl.1 rfl (Nat.le_of_ble_eq_true rfl) dX8_digest_118 ⟨by show _ ≤ 1037; omega, by show _ ≤ 11971; omega⟩ (fun E ce q9 Gx H1 locs1 hx9 => hx9.elim) (fun rv Gc_118 H locs hp hI => ?_)
                          obtain ⟨rfl, hq9⟩ := hp
                          rw [hq9] at hI
                          obtain ⟨hsl, hfl, hsok⟩ := hM.2.1.2.2.2.1 i (by omega)
                          refine W.eq (g2 := F0 m 121 ls [.ref (L 35 i), .ref (L 38 j), .long d9]) rfl ?_
                          refine g_callV (As := [.ref (L 35 i)]) (rest := [.long d9]) (b := (L 38 j)) (n := 1) S hE hI hA (c_X5_fits l K _ (5, 38, j) (5, 35, i) (5, 36, i) (tbF 5 i) (L 38 j) (L 35 i) (yS y i) (yK y j) (L 36 i) N hkd hsl hfl hsok hkok) gX8_digest_X5_fits rfl (by decide +kernel) ⟨Nat.le_of_ble_eq_true rfl, Nat.le_of_ble_eq_true rfl⟩ (g_hro hE hI hkd rfl) rfl hl.1 rfl (Nat.le_of_ble_eq_true rfl) dX8_digest_121 ⟨by show _ ≤ 1037; omega, by show _ ≤ 11971; omega⟩ (fun E ce q9 Gx H1 locs1 hx9 => hx9.elim) (fun rv Gc_121 H locs hp hI => ?_)
                          obtain ⟨rfl, hq9⟩ := hp
                          rw [hq9] at hI
                          refine W.eq (g2 := F0 m 124 ls [.int (oI (sFits (yS y i) (yK y j))), .long d9]) rfl ?_
                          refine lv_i2l hx hb dX8_digest_124 rfl ?_
                          refine g_callS (As := [.long d9, .long ((oI (sFits (yS y i) (yK y j))).toInt64)]) (rest := []) (n := 2) S hE hI hA (c_X8_add l K _ d9 ((oI (sFits (yS y i) (yK y j))).toInt64)) gX8_digest_X8_add rfl (by decide +kernel) ⟨Nat.le_of_ble_eq_true rfl, Nat.le_of_ble_eq_true rfl⟩ rfl hl.1 rfl (Nat.le_of_ble_eq_true rfl) dX8_digest_125 ⟨by show _ ≤ 1037; omega, by show _ ≤ 11971; omega⟩ (fun E ce q9 Gx H1 locs1 hx9 => hx9.elim) (fun rv Gc_125 H locs hp hI => ?_)
                          obtain ⟨rfl, hq9⟩ := hp
                          rw [hq9] at hI
                          refine W.eq (g2 := F0 m 128 ls [.long (d9 * 31 + ((oI (sFits (yS y i) (yK y j))).toInt64))]) rfl ?_
                          refine lv_lstore_n (lv' := [(1, .long (d9 * 31 + ((oI (sFits (yS y i) (yK y j))).toInt64))), (0, .ref h0), (3, .int (nI i)), (4, .int (nI j))]) hx hb dX8_digest_128 rfl hl (by decide) rfl (fun ls hl => ?_)
                          refine lv_iinc (v := nI (j + 1)) (lv' := [(4, .int (nI (j + 1))), (1, .long (d9 * 31 + ((oI (sFits (yS y i) (yK y j))).toInt64))), (0, .ref h0), (3, .int (nI i))]) hx hb dX8_digest_129 hl (k := 3) rfl (nI_add _ 1) (by decide) rfl (fun ls hl => ?_)
                          refine lv_goto (tgt := 85) hx hb dX8_digest_132 (by decide) ?_
                          exact W.widen (by omega) (by omega) (ih85 (j + 1) _ G1 H locs ls (by omega) (by omega) (by rw [hd]; rfl) hM hag hI (lv_sub hl [2,1,3,0] rfl))
                    exact W.widen (by omega) (by omega) (L85 _ 0 _ G1 H locs ls (Nat.lt_succ_self _) (Nat.zero_le _) (by rw [hd, show j = 6 by omega]; rfl) hM hag hI (lv_sub hl [1,2,3,0] rfl))
                  · skip
                    have c_57 : j < 6 := Nat.not_le.mp (fun z => c_57 ((nI_leI (a := 6) (b := j) (by omega) (by omega)).mpr z))
                    refine lv_lload_n hx hb dX8_digest_60 rfl (lv_at hl 1 rfl) ?_
                    refine lv_aload_n hx hb dX8_digest_61 rfl (lv_at hl 0 rfl) ?_
                    refine lv_iload_n hx hb dX8_digest_62 rfl (lv_at hl 2 rfl) ?_
                    refine g_callV (As := [.int (nI i)]) (rest := [.long d9]) (b := h0) (n := 1) S hE hI hA (c_X8_of l K _ L h0 0 y N i hM (by omega)) gX8_digest_X8_of rfl (by decide +kernel) ⟨Nat.le_of_ble_eq_true rfl, Nat.le_of_ble_eq_true rfl⟩ (g_hro hE hI hM.1 rfl) rfl hl.1 rfl (Nat.le_of_ble_eq_true rfl) dX8_digest_63 ⟨by show _ ≤ 1037; omega, by show _ ≤ 11971; omega⟩ (fun E ce q9 Gx H1 locs1 hx9 => hx9.elim) (fun rv Gc_63 H locs hp hI => ?_)
                    obtain ⟨rfl, hq9⟩ := hp
                    rw [hq9] at hI
                    obtain ⟨hsl, hfl, hsok⟩ := hM.2.1.2.2.2.1 i (by omega)
                    refine W.eq (g2 := F0 m 66 ls [.ref (L 35 i), .long d9]) rfl ?_
                    refine lv_iload hx hb dX8_digest_66 (lv_at hl 3 rfl) ?_
                    refine g_callS (As := [.ref (L 35 i), .int (nI j)]) (rest := [.long d9]) (n := 2) S hE hI hA (c_X8_of_ l K _ L h0 0 y N i j hM (by omega) (by omega)) gX8_digest_X8_of_ rfl (by decide +kernel) ⟨Nat.le_of_ble_eq_true rfl, Nat.le_of_ble_eq_true rfl⟩ rfl hl.1 rfl (Nat.le_of_ble_eq_true rfl) dX8_digest_68 ⟨by show _ ≤ 1037; omega, by show _ ≤ 11971; omega⟩ (fun E ce q9 Gx H1 locs1 hx9 => hx9.elim) (fun rv Gc_68 H locs hp hI => ?_)
                    obtain ⟨rfl, hw9⟩ := hp
                    have hM := hM.m13 hw9
                    have hag := hag.tr (ag13 hw9)
                    obtain ⟨m1, ar1, hl1⟩ := hM.2.1.2.1.obj
                    obtain ⟨m2, ar2, hl2⟩ := hM.2.1.2.2.1.obj
                    refine W.eq (g2 := F0 m 71 ls [.int (sOf (yS y i) j), .long d9]) rfl ?_
                    refine lv_i2l hx hb dX8_digest_71 rfl ?_
                    refine g_callS (As := [.long d9, .long ((sOf (yS y i) j).toInt64)]) (rest := []) (n := 2) S hE hI hA (c_X8_add l K _ d9 ((sOf (yS y i) j).toInt64)) gX8_digest_X8_add rfl (by decide +kernel) ⟨Nat.le_of_ble_eq_true rfl, Nat.le_of_ble_eq_true rfl⟩ rfl hl.1 rfl (Nat.le_of_ble_eq_true rfl) dX8_digest_72 ⟨by show _ ≤ 1037; omega, by show _ ≤ 11971; omega⟩ (fun E ce q9 Gx H1 locs1 hx9 => hx9.elim) (fun rv Gc_72 H locs hp hI => ?_)
                    obtain ⟨rfl, hq9⟩ := hp
                    rw [hq9] at hI
                    refine W.eq (g2 := F0 m 75 ls [.long (d9 * 31 + ((sOf (yS y i) j).toInt64))]) rfl ?_
                    refine lv_lstore_n (lv' := [(1, .long (d9 * 31 + ((sOf (yS y i) j).toInt64))), (0, .ref h0), (3, .int (nI i)), (4, .int (nI j))]) hx hb dX8_digest_75 rfl hl (by decide) rfl (fun ls hl => ?_)
                    refine lv_iinc (v := nI (j + 1)) (lv' := [(4, .int (nI (j + 1))), (1, .long (d9 * 31 + ((sOf (yS y i) j).toInt64))), (0, .ref h0), (3, .int (nI i))]) hx hb dX8_digest_76 hl (k := 3) rfl (nI_add _ 1) (by decide) rfl (fun ls hl => ?_)
                    refine lv_goto (tgt := 53) hx hb dX8_digest_79 (by decide) ?_
                    exact W.widen (by omega) (by omega) (ih53 (j + 1) _ Gc_68 H locs ls (by omega) (by omega) (by rw [hd]; rfl) hM hag hI (lv_sub hl [2,1,3,0] rfl))
              exact W.widen (by omega) (by omega) (L53 _ 0 _ G1 H locs ls (Nat.lt_succ_self _) (Nat.zero_le _) (by rw [hd]; rfl) hM hag hI (lv_sub hl [1,2,3,0] rfl))
        exact W.widen (by omega) (by omega) (L36 _ 0 _ G1 H locs ls (Nat.lt_succ_self _) (Nat.zero_le _) (by rw [hd, show j = 8 by omega]; rfl) hM hag hI (lv_sub hl [1,2,0] rfl))
      · skip
        have c_14 : j < 8 := Nat.not_le.mp (fun z => c_14 ((nI_leI (a := 8) (b := j) (by omega) (by omega)).mpr z))
        refine lv_lload_n hx hb dX8_digest_17 rfl (lv_at hl 1 rfl) ?_
        refine lv_aload_n hx hb dX8_digest_18 rfl (lv_at hl 0 rfl) ?_
        refine lv_iload_n hx hb dX8_digest_19 rfl (lv_at hl 2 rfl) ?_
        refine g_callV (As := [.int (nI j)]) (rest := [.long d9]) (b := h0) (n := 1) S hE hI hA (c_X8_count l K _ L h0 0 y N j hM (by omega)) gX8_digest_X8_count rfl (by decide +kernel) ⟨Nat.le_of_ble_eq_true rfl, Nat.le_of_ble_eq_true rfl⟩ (g_hro hE hI hM.1 rfl) rfl hl.1 rfl (Nat.le_of_ble_eq_true rfl) dX8_digest_20 ⟨by show _ ≤ 1037; omega, by show _ ≤ 11971; omega⟩ (fun E ce q9 Gx H1 locs1 hx9 => hx9.elim) (fun rv Gc_20 H locs hp hI => ?_)
        obtain ⟨rfl, hw9⟩ := hp
        have hM := hM.m13 hw9
        have hag := hag.tr (ag13 hw9)
        obtain ⟨m1, ar1, hl1⟩ := hM.2.1.2.1.obj
        obtain ⟨m2, ar2, hl2⟩ := hM.2.1.2.2.1.obj
        refine W.eq (g2 := F0 m 23 ls [.int (yMany y j), .long d9]) rfl ?_
        refine lv_i2l hx hb dX8_digest_23 rfl ?_
        refine g_callS (As := [.long d9, .long ((yMany y j).toInt64)]) (rest := []) (n := 2) S hE hI hA (c_X8_add l K _ d9 ((yMany y j).toInt64)) gX8_digest_X8_add rfl (by decide +kernel) ⟨Nat.le_of_ble_eq_true rfl, Nat.le_of_ble_eq_true rfl⟩ rfl hl.1 rfl (Nat.le_of_ble_eq_true rfl) dX8_digest_24 ⟨by show _ ≤ 1037; omega, by show _ ≤ 11971; omega⟩ (fun E ce q9 Gx H1 locs1 hx9 => hx9.elim) (fun rv Gc_24 H locs hp hI => ?_)
        obtain ⟨rfl, hq9⟩ := hp
        rw [hq9] at hI
        refine W.eq (g2 := F0 m 27 ls [.long (d9 * 31 + ((yMany y j).toInt64))]) rfl ?_
        refine lv_lstore_n (lv' := [(1, .long (d9 * 31 + ((yMany y j).toInt64))), (0, .ref h0), (3, .int (nI j))]) hx hb dX8_digest_27 rfl hl (by decide) rfl (fun ls hl => ?_)
        refine lv_iinc (v := nI (j + 1)) (lv' := [(3, .int (nI (j + 1))), (1, .long (d9 * 31 + ((yMany y j).toInt64))), (0, .ref h0)]) hx hb dX8_digest_28 hl (k := 2) rfl (nI_add _ 1) (by decide) rfl (fun ls hl => ?_)
        refine lv_goto (tgt := 11) hx hb dX8_digest_31 (by decide) ?_
        exact W.widen (by omega) (by omega) (ih (j + 1) _ Gc_20 H locs ls (by omega) (by omega) (by rw [hd]; rfl) hM hag hI (lv_sub hl [2,1,0] rfl))
  exact W.widen (by omega) (by omega) (L11 _ 0 _ G_1 H locs ls (Nat.lt_succ_self _) (Nat.zero_le _) rfl hM hag hI (lv_sub hl [2,1,0] rfl))
