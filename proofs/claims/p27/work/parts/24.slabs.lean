set_option maxHeartbeats 4000000 in
set_option maxRecDepth 100000 in
/-- Slab.copyFrom(other) -/
theorem c_X2_copyFrom (l : Launch) (K : gK) (G : gW) (t t2 t3 t4 : gTag) (h0 h1 : Nat) (u u2 : SV) (pa pb : Nat) (f f2 : Nat → Int32) (hg : G t = some (h0, cS u pa)) (hg2 : G t2 = some (pa, cI K 6 f)) (hg3 : G t3 = some (h1, cS u2 pb)) (hg4 : G t4 = some (pb, cI K 6 f2)) (n13 : t ≠ t3) (n24 : t2 ≠ t4) (hok : sOK u2) (hp : ptsOK f2 (sL u2)) : gM l yX2_copyFrom wsX2_copyFrom 4 88 0 0 K [.ref h0, .ref h1] G (fun z G1 => z = none ∧ ∃ g, ptsOK g (sL u2) ∧ G1 = gset (gset G t h0 (cS u2 pa)) t2 pa (cI K 6 g)) (gNo) := by
  refine gM.of (cc := cX2_copyFrom) (maxL := 2) (ret := none) (by decide) rfl (Nat.le_of_ble_eq_true rfl) ?_
  intro p e s m below meth c A S hr hlocks htab hname hE hA hI ls hl
  have hx := S.1
  have hb := S.2.1
  have hml := S.2.2.1
  have hl : lv_has ls 2 [(0, .ref h0), (1, .ref h1)] := hl
  have n12 : t ≠ t2 := g_tne hg hg2 (by simp)
  have n14 : t ≠ t4 := g_tne hg hg4 (by simp)
  have hpp := hp
  obtain ⟨H, hHe⟩ : ∃ z, z = s.heap := ⟨_, rfl⟩
  obtain ⟨locs, hLe⟩ : ∃ z : List Loc, z = [] := ⟨_, rfl⟩
  rw [← hHe, ← hLe]
  have hI : gI K A s G H locs := by rw [hHe, hLe]; exact hI
  clear hHe hLe
  refine lv_aload_n hx hb dX2_copyFrom_0 rfl (lv_at hl 0 rfl) ?_
  refine lv_aload_n hx hb dX2_copyFrom_1 rfl (lv_at hl 1 rfl) ?_
  refine g_get S hE hI (C := RX2) (T := TX2) (N := 7) (ref := "StonecutterYard$Slab") (fun w h => (List.mem_cons_of_mem _ (List.mem_append_right _ h))) hg3 rfl 0 (by decide) (List.mem_cons_of_mem _ (List.mem_append_left _ (List.mem_of_getElem? (i := 0) rfl))) (fun _ h9 => h9) (v := .int (nI (sW u2))) rfl dX2_copyFrom_2 ?_
  refine lv_aload_n hx hb dX2_copyFrom_5 rfl (lv_at hl 1 rfl) ?_
  refine g_get S hE hI (C := RX2) (T := TX2) (N := 7) (ref := "StonecutterYard$Slab") (fun w h => (List.mem_cons_of_mem _ (List.mem_append_right _ h))) hg3 rfl 1 (by decide) (List.mem_cons_of_mem _ (List.mem_append_left _ (List.mem_of_getElem? (i := 1) rfl))) (fun _ h9 => h9) (v := .int (nI (sH u2))) rfl dX2_copyFrom_6 ?_
  refine lv_aload_n hx hb dX2_copyFrom_9 rfl (lv_at hl 1 rfl) ?_
  refine g_get S hE hI (C := RX2) (T := TX2) (N := 7) (ref := "StonecutterYard$Slab") (fun w h => (List.mem_cons_of_mem _ (List.mem_append_right _ h))) hg3 rfl 2 (by decide) (List.mem_cons_of_mem _ (List.mem_append_left _ (List.mem_of_getElem? (i := 2) rfl))) (fun _ h9 => h9) (v := .int (nI (sG u2))) rfl dX2_copyFrom_10 ?_
  refine lv_aload_n hx hb dX2_copyFrom_13 rfl (lv_at hl 1 rfl) ?_
  refine g_get S hE hI (C := RX2) (T := TX2) (N := 7) (ref := "StonecutterYard$Slab") (fun w h => (List.mem_cons_of_mem _ (List.mem_append_right _ h))) hg3 rfl 3 (by decide) (List.mem_cons_of_mem _ (List.mem_append_left _ (List.mem_of_getElem? (i := 3) rfl))) (fun _ h9 => h9) (v := .int (sF u2)) rfl dX2_copyFrom_14 ?_
  refine g_callV (As := [.int (nI (sW u2)), .int (nI (sH u2)), .int (nI (sG u2)), .int (sF u2)]) (rest := []) (b := h0) (n := 4) S hE hI hA (c_X2_begin l K _ t h0 u pa (sW u2) (sH u2) (sG u2) (sF u2) hg) gX2_copyFrom_X2_begin rfl (by decide +kernel) ⟨Nat.le_of_ble_eq_true rfl, Nat.le_of_ble_eq_true rfl⟩ (g_hro hE hI hg rfl) rfl hl.1 rfl (Nat.le_of_ble_eq_true rfl) dX2_copyFrom_17 ⟨Nat.le_of_ble_eq_true rfl, Nat.le_of_ble_eq_true rfl⟩ (fun E ce q9 Gx H1 locs1 hx9 => hx9.elim) (fun rv Gc_17 H locs hp hI => ?_)
  obtain ⟨rfl, hGc⟩ := hp
  have ha1 : Gc_17 t = some (h0, cS (sW u2, sH u2, sG u2, sF u2, 0, []) pa) := by rw [hGc]; exact gset_eq _ _ _ _
  have hb1 : Gc_17 t2 = some (pa, cI K 6 f) := by rw [hGc, gset_ne (Ne.symm n12)]; exact hg2
  have hc1 : Gc_17 t3 = some (h1, cS u2 pb) := by rw [hGc, gset_ne (Ne.symm n13)]; exact hg3
  have hd1 : Gc_17 t4 = some (pb, cI K 6 f2) := by rw [hGc, gset_ne (Ne.symm n14)]; exact hg4
  refine W.eq (g2 := F0 m 20 ls []) rfl ?_
  refine lv_aload_n hx hb dX2_copyFrom_20 rfl (lv_at hl 0 rfl) ?_
  refine lv_aload_n hx hb dX2_copyFrom_21 rfl (lv_at hl 1 rfl) ?_
  refine g_get S hE hI (C := RX2) (T := TX2) (N := 7) (ref := "StonecutterYard$Slab") (fun w h => (List.mem_cons_of_mem _ (List.mem_append_right _ h))) hc1 rfl 4 (by decide) (List.mem_cons_of_mem _ (List.mem_append_left _ (List.mem_of_getElem? (i := 4) rfl))) (fun _ h9 => h9) (v := .int (nI (sT u2))) rfl dX2_copyFrom_22 ?_
  refine g_put S hE hI (C := RX2) (T := TX2) (N := 7) (ref := "StonecutterYard$Slab") (fun w h => (List.mem_cons_of_mem _ (List.mem_append_right _ h))) tyX2 tyX2_ok nmX2 ha1 rfl 4 (by decide) (List.mem_cons_of_mem _ (List.mem_append_left _ (List.mem_of_getElem? (i := 4) rfl))) (fun _ h9 => h9) rfl rfl rfl (Nat.le_of_ble_eq_true rfl) dX2_copyFrom_25 (fun H locs hI => ?_)
  have hI : gI K A s (gset Gc_17 t h0 (.inr (3, [.int (nI (sW u2)), .int (nI (sH u2)), .int (nI (sG u2)), .int (sF u2), .int (nI (sT u2)), .int (nI 0), .ref pa]))) H locs := hI
  obtain ⟨G_1, hG_1⟩ : ∃ z, z = gset Gc_17 t h0 (.inr (3, [.int (nI (sW u2)), .int (nI (sH u2)), .int (nI (sG u2)), .int (sF u2), .int (nI (sT u2)), .int (nI 0), .ref pa])) := ⟨_, rfl⟩
  rw [← hG_1] at hI
  have p_G_1 : G_1 t2 = some (pa, cI K 6 f) := by rw [hG_1, gset_ne (g_tne hb1 ha1 (by simp))]; exact hb1
  have o2_G_1 : G_1 t3 = some (h1, .inr (3, [.int (nI (sW u2)), .int (nI (sH u2)), .int (nI (sG u2)), .int (sF u2), .int (nI (sT u2)), .int (nI ((sL u2).length)), .ref pb])) := by rw [hG_1, gset_ne (Ne.symm n13)]; exact hc1
  have p2_G_1 : G_1 t4 = some (pb, cI K 6 f2) := by rw [hG_1, gset_ne (g_tne hd1 ha1 (by simp))]; exact hd1
  have o_G_1 : G_1 t = some (h0, .inr (3, [.int (nI (sW u2)), .int (nI (sH u2)), .int (nI (sG u2)), .int (sF u2), .int (nI (sT u2)), .int (nI 0), .ref pa])) := by rw [hG_1]; exact gset_eq _ _ _ _
  refine lv_aload_n hx hb dX2_copyFrom_28 rfl (lv_at hl 1 rfl) ?_
  refine lv_aload_n hx hb dX2_copyFrom_29 rfl (lv_at hl 0 rfl) ?_
  refine lv_iconst (v := nI 0) hx hb dX2_copyFrom_30 (by decide) ?_
  refine lv_iconst (v := nI 0) hx hb dX2_copyFrom_31 (by decide) ?_
  refine g_callV (As := [.ref h0, .int (nI 0), .int (nI 0)]) (rest := []) (b := h1) (n := 3) S hE hI hA (c_X2_passFlaws l K _ t3 t4 t t2 h1 h0 u2 (sW u2, sH u2, sG u2, sF u2, sT u2, []) pb pa f2 f 0 0 o2_G_1 p2_G_1 o_G_1 p_G_1 (Ne.symm n13) (Ne.symm n24) hpp rfl ⟨by decide, by decide, hok.2.1, hok.2.2.2.1⟩) gX2_copyFrom_X2_passFlaws rfl (by decide +kernel) ⟨Nat.le_of_ble_eq_true rfl, Nat.le_of_ble_eq_true rfl⟩ (g_hro hE hI o2_G_1 rfl) rfl hl.1 rfl (Nat.le_of_ble_eq_true rfl) dX2_copyFrom_32 ⟨Nat.le_of_ble_eq_true rfl, Nat.le_of_ble_eq_true rfl⟩ (fun E ce q9 Gx H1 locs1 hx9 => hx9.elim) (fun rv Gc_32 H locs hp hI => ?_)
  obtain ⟨rfl, g, hpg, hGd⟩ := hp
  refine W.eq (g2 := F0 m 35 ls []) rfl ?_
  rw [pass_all hok.2.2.2.2.2.2.2] at hpg hGd
  exact g_vret S hI hr hlocks (Nat.zero_le _) (Nat.zero_le _) dX2_copyFrom_35 ⟨rfl, g, hpg, by rw [hGd, hG_1, hGc, gset_gset, gset_gset]⟩
set_option maxHeartbeats 4000000 in
set_option maxRecDepth 100000 in
/-- Slab() -/
theorem c_X2_init (l : Launch) (K : gK) (G : gW) (t t2 : gTag) (h0 : Nat) (hg : G t = some (h0, .inr (3, [.int (nI 0), .int (nI 0), .int (nI 0), .int (nI 0), .int (nI 0), .int (nI 0), .null]))) (hne : t ≠ t2) : gM l yX2_init wsX2_init 2 40 1 6 K [.ref h0] G (fun z G1 => z = none ∧ ∃ pa, G1 = gset (gset G t2 pa (cI K 6 (fun _ => 0))) t h0 (cS (0, 0, 0, nI 0, 0, []) pa)) (gNo) := by
  refine gM.of (cc := cX2_init) (maxL := 1) (ret := none) (by decide) rfl (Nat.le_of_ble_eq_true rfl) ?_
  intro p e s m below meth c A S hr hlocks htab hname hE hA hI ls hl
  have hx := S.1
  have hb := S.2.1
  have hml := S.2.2.1
  have hl : lv_has ls 1 [(0, .ref h0)] := hl
  obtain ⟨H, hHe⟩ : ∃ z, z = s.heap := ⟨_, rfl⟩
  obtain ⟨locs, hLe⟩ : ∃ z : List Loc, z = [] := ⟨_, rfl⟩
  rw [← hHe, ← hLe]
  have hI : gI K A s G H locs := by rw [hHe, hLe]; exact hI
  clear hHe hLe
  refine lv_aload_n hx hb dX2_init_0 rfl (lv_at hl 0 rfl) ?_
  refine W.objInit hx hb S.2.2.2.1 (S.2.2.2.2 _ (List.mem_cons_of_mem _ (List.mem_append_left _ (List.mem_of_getElem? (i := 0) rfl)))) (S.2.2.2.2 _ (List.mem_cons_of_mem _ (List.mem_append_left _ (List.mem_of_getElem? (i := 1) rfl)))) (S.2.2.2.2 _ (List.mem_cons_of_mem _ (List.mem_append_left _ (List.mem_of_getElem? (i := 2) rfl)))) rfl (by rw [hml]; exact hl.1) rfl dX2_init_1 (Nat.le_of_ble_eq_true rfl) (Nat.le_of_ble_eq_true rfl) ?_
  refine W.eq (g2 := F0 m 4 ls []) rfl ?_
  refine lv_aload_n hx hb dX2_init_4 rfl (lv_at hl 0 rfl) ?_
  refine lv_bipush (v := nI 6) hx hb dX2_init_5 (by decide) ?_
  refine g_newI S hE hI hA (List.mem_cons_of_mem _ (List.mem_append_left _ (List.mem_of_getElem? (i := 3) rfl))) (N' := 6) rfl (by omega) t2 (by show _ ≤ 1; omega) (by show _ ≤ 6; omega) dX2_init_7 (fun q_7 H hq_7 hI => ?_)
  obtain ⟨G_1, hG_1⟩ : ∃ z, z = gset G t2 q_7 (.inl (K.2.1 0, 6, .inl (fun _ => 0))) := ⟨_, rfl⟩
  have hI : gI K A s G_1 H locs := by rw [hG_1]; exact hI
  have o_G_1 : G_1 t = some (h0, .inr (3, [.int (nI 0), .int (nI 0), .int (nI 0), .int (nI 0), .int (nI 0), .int (nI 0), .null])) := by rw [hG_1, gset_ne hne]; exact hg
  have p_G_1 : G_1 t2 = some (q_7, .inl (K.2.1 0, 6, .inl (fun _ => 0))) := by rw [hG_1]; exact gset_eq _ _ _ _
  refine g_putF S hE hI (C := RX2) (T := TX2) (N := 7) (ref := "StonecutterYard$Slab") (fun w h => (List.mem_cons_of_mem _ (List.mem_append_right _ h))) tyX2 tyX2_ok nmX2 o_G_1 rfl 6 (by decide) (List.mem_cons_of_mem _ (List.mem_append_left _ (List.mem_of_getElem? (i := 4) rfl))) (fun _ h9 => h9) rfl hname rfl rfl rfl (Nat.le_of_ble_eq_true rfl) dX2_init_9 (fun H locs hI => ?_)
  have hI : gI K A s (gset G_1 t h0 (.inr (3, [.int (nI 0), .int (nI 0), .int (nI 0), .int (nI 0), .int (nI 0), .int (nI 0), .ref q_7]))) H locs := hI
  obtain ⟨G_2, hG_2⟩ : ∃ z, z = gset G_1 t h0 (.inr (3, [.int (nI 0), .int (nI 0), .int (nI 0), .int (nI 0), .int (nI 0), .int (nI 0), .ref q_7])) := ⟨_, rfl⟩
  rw [← hG_2] at hI
  have p_G_2 : G_2 t2 = some (q_7, .inl (K.2.1 0, 6, .inl (fun _ => 0))) := by rw [hG_2, gset_ne (Ne.symm hne)]; exact p_G_1
  have o_G_2 : G_2 t = some (h0, .inr (3, [.int (nI 0), .int (nI 0), .int (nI 0), .int (nI 0), .int (nI 0), .int (nI 0), .ref q_7])) := by rw [hG_2]; exact gset_eq _ _ _ _
  exact g_vret S hI hr hlocks (by omega) (by omega) dX2_init_12 ⟨rfl, q_7, by rw [hG_2, hG_1]; rfl⟩
theorem kw_le {k : KV} (h : kOK k) (mn : Nat) : kw k mn ≤ 24 := by
  obtain ⟨k1, k2, k3, k4, -⟩ := h
  unfold kw
  split <;> assumption
theorem kh_le {k : KV} (h : kOK k) (mn : Nat) : kh k mn ≤ 24 := by
  obtain ⟨k1, k2, k3, k4, -⟩ := h
  unfold kh
  split <;> assumption
theorem sFits_n0 {u : SV} {k : KV} (h : sT u ≠ 0) : sFits u k = none := by unfold sFits; rw [if_neg h]
theorem sFits_mn {u : SV} {k : KV} {mn : Nat} (hT : sT u = 0) (hm : mn < 2) (hno : ∀ j, j < mn → sOkIn u k j = false) (h : sOkIn u k mn = true) : sFits u k = some mn := by
  unfold sFits
  rw [if_pos hT]
  rcases (show mn = 0 ∨ mn = 1 by omega) with rfl | rfl
  · rw [if_pos h]
  · rw [if_neg (by rw [hno 0 (by decide)]; decide), if_pos h]
theorem sFits_no {u : SV} {k : KV} (hno : ∀ j, j < 2 → sOkIn u k j = false) : sFits u k = none := by
  unfold sFits
  rw [hno 0 (by decide), hno 1 (by decide)]
  simp
set_option maxHeartbeats 4000000 in
set_option maxRecDepth 100000 in
/-- Slab.firstManner(kind) -/
theorem c_X2_firstManner (l : Launch) (K : gK) (G : gW) (t t2 t3 : gTag) (h0 h1 : Nat) (u : SV) (pa : Nat) (f : Nat → Int32) (k : KV) (hg : G t = some (h0, cS u pa)) (hg2 : G t2 = some (pa, cI K 6 f)) (hg3 : G t3 = some (h1, cK k)) (hok : sOK u) (hok2 : kOK k) (hp : ptsOK f (sL u)) : gM l yX2_firstManner wsX2_firstManner 3 68 0 0 K [.ref h0, .ref h1] G (fun v G1 => v = some (.int (oI (sFits u k))) ∧ G1 = G) (gNo) := by
  refine gM.of (cc := cX2_firstManner) (maxL := 3) (ret := (some .int)) (by decide) rfl (Nat.le_of_ble_eq_true rfl) ?_
  intro p e s m below meth c A S hr hlocks htab hname hE hA hI ls hl
  have hx := S.1
  have hb := S.2.1
  have hml := S.2.2.1
  have hl : lv_has ls 3 [(0, .ref h0), (1, .ref h1)] := hl
  have hok9 := hok2
  obtain ⟨k1, k2, k3, k4, k5, k6, k7, k8, k9⟩ := hok9
  have hok8 := hok
  obtain ⟨s1, s2, s3, s4, s5, s6, s7, s8⟩ := hok8
  have hpp := hp
  have hkw := kw_le hok2
  have hkh := kh_le hok2
  obtain ⟨H, hHe⟩ : ∃ z, z = s.heap := ⟨_, rfl⟩
  obtain ⟨locs, hLe⟩ : ∃ z : List Loc, z = [] := ⟨_, rfl⟩
  rw [← hHe, ← hLe]
  have hI : gI K A s G H locs := by rw [hHe, hLe]; exact hI
  clear hHe hLe
  refine lv_iconst (v := nI 0) hx hb dX2_firstManner_0 (by decide) ?_
  refine lv_istore_n (lv' := [(2, .int (nI 0)), (0, .ref h0), (1, .ref h1)]) hx hb dX2_firstManner_1 rfl hl (by decide) rfl (fun ls hl => ?_)
  have L2 : ∀ (n : Nat) (mn : Nat) (H : Heap) (locs : List Loc) (ls : Array Slot) (hn : 2 - mn < n) (hmn : mn ≤ 2) (hno : ∀ j, j < mn → sOkIn u k j = false), gI K A s G H locs → lv_has ls 3 [(0, .ref h0), (1, .ref h1), (2, .int (nI mn))] → W p l e (gRoom 3 68 0 0) s m ([.ref h0, .ref h1] : List Value).toArray below meth c H locs 0 0 (gEnd K below (fun v G1 => v = some (.int (oI (sFits u k))) ∧ G1 = G) (gNo) A ([.ref h0, .ref h1] : List Value).toArray s 0 0) (F0 m 2 ls []) := by
    clear hI hl
    intro n
    induction n with
    | zero =>
      intro mn H locs ls hn hmn hno hI hl
      exact absurd hn (Nat.not_lt_zero _)
    | succ n ih =>
      intro mn H locs ls hn hmn hno hI hl
      refine lv_iload_n hx hb dX2_firstManner_2 rfl (lv_at hl 2 rfl) ?_
      refine lv_iconst (v := nI 2) hx hb dX2_firstManner_3 (by decide) ?_
      refine lv_icmp_ge (tgt := 65) hx hb dX2_firstManner_4 (by decide) (fun c_4 => ?_) (fun c_4 => ?_)
      · skip
        have c_4 : 2 ≤ mn := (nI_leI (a := 2) (b := mn) (by omega) (by omega)).mp c_4
        have hfin : sFits u k = none := sFits_no (by rw [show mn = 2 by omega] at hno; exact hno)
        refine lv_iconst (v := (-1)) hx hb dX2_firstManner_65 (by decide) ?_
        exact g_iret S hI hr hlocks (Nat.zero_le _) (Nat.zero_le _) dX2_firstManner_66 ⟨by rw [hfin]; rfl, rfl⟩
      · skip
        have c_4 : mn < 2 := Nat.not_le.mp (fun z => c_4 ((nI_leI (a := 2) (b := mn) (by omega) (by omega)).mpr z))
        refine lv_aload_n hx hb dX2_firstManner_7 rfl (lv_at hl 0 rfl) ?_
        refine g_get S hE hI (C := RX2) (T := TX2) (N := 7) (ref := "StonecutterYard$Slab") (fun w h => (List.mem_cons_of_mem _ (List.mem_append_left _ (List.mem_append_right _ h)))) hg rfl 4 (by decide) (List.mem_cons_of_mem _ (List.mem_append_left _ (List.mem_append_left _ (List.mem_append_left _ (List.mem_of_getElem? (i := 0) rfl))))) (fun _ h9 => h9) (v := .int (nI (sT u))) rfl dX2_firstManner_8 ?_
        refine lv_if_ne (tgt := 65) hx hb dX2_firstManner_11 (by decide) (fun c_11 => ?_) (fun c_11 => ?_)
        · skip
          have c_11 : (sT u) ≠ 0 := fun z => c_11 ((nI_eq (a := (sT u)) (b := 0) (by omega) (by omega)).mpr z)
          have hfin : sFits u k = none := sFits_n0 c_11
          refine lv_iconst (v := (-1)) hx hb dX2_firstManner_65 (by decide) ?_
          exact g_iret S hI hr hlocks (Nat.zero_le _) (Nat.zero_le _) dX2_firstManner_66 ⟨by rw [hfin]; rfl, rfl⟩
        · skip
          have c_11 : (sT u) = 0 := (nI_eq (a := (sT u)) (b := 0) (by omega) (by omega)).mp c_11
          refine lv_aload_n hx hb dX2_firstManner_14 rfl (lv_at hl 1 rfl) ?_
          refine lv_iload_n hx hb dX2_firstManner_15 rfl (lv_at hl 2 rfl) ?_
          refine lv_aload_n hx hb dX2_firstManner_16 rfl (lv_at hl 0 rfl) ?_
          refine g_get S hE hI (C := RX2) (T := TX2) (N := 7) (ref := "StonecutterYard$Slab") (fun w h => (List.mem_cons_of_mem _ (List.mem_append_left _ (List.mem_append_right _ h)))) hg rfl 0 (by decide) (List.mem_cons_of_mem _ (List.mem_append_left _ (List.mem_append_left _ (List.mem_append_left _ (List.mem_of_getElem? (i := 1) rfl))))) (fun _ h9 => h9) (v := .int (nI (sW u))) rfl dX2_firstManner_17 ?_
          refine lv_aload_n hx hb dX2_firstManner_20 rfl (lv_at hl 0 rfl) ?_
          refine g_get S hE hI (C := RX2) (T := TX2) (N := 7) (ref := "StonecutterYard$Slab") (fun w h => (List.mem_cons_of_mem _ (List.mem_append_left _ (List.mem_append_right _ h)))) hg rfl 1 (by decide) (List.mem_cons_of_mem _ (List.mem_append_left _ (List.mem_append_left _ (List.mem_append_left _ (List.mem_of_getElem? (i := 2) rfl))))) (fun _ h9 => h9) (v := .int (nI (sH u))) rfl dX2_firstManner_21 ?_
          refine lv_aload_n hx hb dX2_firstManner_24 rfl (lv_at hl 0 rfl) ?_
          refine g_get S hE hI (C := RX2) (T := TX2) (N := 7) (ref := "StonecutterYard$Slab") (fun w h => (List.mem_cons_of_mem _ (List.mem_append_left _ (List.mem_append_right _ h)))) hg rfl 2 (by decide) (List.mem_cons_of_mem _ (List.mem_append_left _ (List.mem_append_left _ (List.mem_append_left _ (List.mem_of_getElem? (i := 3) rfl))))) (fun _ h9 => h9) (v := .int (nI (sG u))) rfl dX2_firstManner_25 ?_
          refine g_callV (As := [.int (nI mn), .int (nI (sW u)), .int (nI (sH u)), .int (nI (sG u))]) (rest := []) (b := h1) (n := 4) S hE hI hA (c_X0_goesInto l K _ t3 h1 k mn (sW u) (sH u) (sG u) hg3 hok2 ⟨c_4, s2, s4, s5⟩) gX2_firstManner_X0_goesInto rfl (by decide +kernel) ⟨Nat.le_of_ble_eq_true rfl, Nat.le_of_ble_eq_true rfl⟩ (g_hro hE hI hg3 rfl) rfl hl.1 rfl (Nat.le_of_ble_eq_true rfl) dX2_firstManner_28 ⟨Nat.le_of_ble_eq_true rfl, Nat.le_of_ble_eq_true rfl⟩ (fun E ce q9 Gx H1 locs1 hx9 => hx9.elim) (fun rv Gc_28 H locs hp hI => ?_)
          obtain ⟨rfl, hq9⟩ := hp
          rw [hq9] at hI
          refine W.eq (g2 := F0 m 31 ls [.int (bI (kGoes k mn (sW u) (sH u) (sG u)))]) rfl ?_
          refine lv_if_eq (tgt := 59) hx hb dX2_firstManner_31 (by decide) (fun c_31 => ?_) (fun c_31 => ?_)
          · skip
            have c_31 : (kGoes k mn (sW u) (sH u) (sG u)) = false := bI_0.mp c_31
            have hmnno : sOkIn u k mn = false := by unfold sOkIn; rw [c_31]; rfl
            refine lv_iinc (v := nI (mn + 1)) (lv' := [(2, .int (nI (mn + 1))), (0, .ref h0), (1, .ref h1)]) hx hb dX2_firstManner_59 hl (k := 2) rfl (nI_add _ 1) (by decide) rfl (fun ls hl => ?_)
            refine lv_goto (tgt := 2) hx hb dX2_firstManner_62 (by decide) ?_
            exact ih (mn + 1) H locs ls (by omega) (by omega) (lt_s hno hmnno) hI (lv_sub hl [1,2,0] rfl)
          · skip
            have c_31 : (kGoes k mn (sW u) (sH u) (sG u)) = true := bI_1.mp c_31
            refine lv_aload_n hx hb dX2_firstManner_34 rfl (lv_at hl 0 rfl) ?_
            refine lv_iconst (v := nI 0) hx hb dX2_firstManner_35 (by decide) ?_
            refine lv_iconst (v := nI 0) hx hb dX2_firstManner_36 (by decide) ?_
            refine lv_aload_n hx hb dX2_firstManner_37 rfl (lv_at hl 1 rfl) ?_
            refine lv_iload_n hx hb dX2_firstManner_38 rfl (lv_at hl 2 rfl) ?_
            refine g_callV (As := [.int (nI mn)]) (rest := [.int (nI 0), .int (nI 0), .ref h0]) (b := h1) (n := 1) S hE hI hA (c_X0_wideIn l K _ t3 h1 k mn hg3 c_4) gX2_firstManner_X0_wideIn rfl (by decide +kernel) ⟨Nat.le_of_ble_eq_true rfl, Nat.le_of_ble_eq_true rfl⟩ (g_hro hE hI hg3 rfl) rfl hl.1 rfl (Nat.le_of_ble_eq_true rfl) dX2_firstManner_39 ⟨Nat.le_of_ble_eq_true rfl, Nat.le_of_ble_eq_true rfl⟩ (fun E ce q9 Gx H1 locs1 hx9 => hx9.elim) (fun rv Gc_39 H locs hp hI => ?_)
            obtain ⟨rfl, hq9⟩ := hp
            rw [hq9] at hI
            refine W.eq (g2 := F0 m 42 ls [.int (nI (kw k mn)), .int (nI 0), .int (nI 0), .ref h0]) rfl ?_
            refine lv_aload_n hx hb dX2_firstManner_42 rfl (lv_at hl 1 rfl) ?_
            refine lv_iload_n hx hb dX2_firstManner_43 rfl (lv_at hl 2 rfl) ?_
            refine g_callV (As := [.int (nI mn)]) (rest := [.int (nI (kw k mn)), .int (nI 0), .int (nI 0), .ref h0]) (b := h1) (n := 1) S hE hI hA (c_X0_highIn l K _ t3 h1 k mn hg3 c_4) gX2_firstManner_X0_highIn rfl (by decide +kernel) ⟨Nat.le_of_ble_eq_true rfl, Nat.le_of_ble_eq_true rfl⟩ (g_hro hE hI hg3 rfl) rfl hl.1 rfl (Nat.le_of_ble_eq_true rfl) dX2_firstManner_44 ⟨Nat.le_of_ble_eq_true rfl, Nat.le_of_ble_eq_true rfl⟩ (fun E ce q9 Gx H1 locs1 hx9 => hx9.elim) (fun rv Gc_44 H locs hp hI => ?_)
            obtain ⟨rfl, hq9⟩ := hp
            rw [hq9] at hI
            refine W.eq (g2 := F0 m 47 ls [.int (nI (kh k mn)), .int (nI (kw k mn)), .int (nI 0), .int (nI 0), .ref h0]) rfl ?_
            refine g_callV (As := [.int (nI 0), .int (nI 0), .int (nI (kw k mn)), .int (nI (kh k mn))]) (rest := []) (b := h0) (n := 4) S hE hI hA (c_X2_countFlaws l K _ t t2 h0 u pa f 0 0 (kw k mn) (kh k mn) hg hg2 hpp ⟨by decide, by decide, Nat.lt_of_le_of_lt (hkw mn) (by decide), Nat.lt_of_le_of_lt (hkh mn) (by decide)⟩) gX2_firstManner_X2_countFlaws rfl (by decide +kernel) ⟨Nat.le_of_ble_eq_true rfl, Nat.le_of_ble_eq_true rfl⟩ (g_hro hE hI hg rfl) rfl hl.1 rfl (Nat.le_of_ble_eq_true rfl) dX2_firstManner_47 ⟨Nat.le_of_ble_eq_true rfl, Nat.le_of_ble_eq_true rfl⟩ (fun E ce q9 Gx H1 locs1 hx9 => hx9.elim) (fun rv Gc_47 H locs hp hI => ?_)
            obtain ⟨rfl, hq9⟩ := hp
            rw [hq9] at hI
            have hcl := cnt_le (sL u) 0 0 (kw k mn) (kh k mn)
            refine W.eq (g2 := F0 m 50 ls [.int (nI (cnt (sL u) 0 0 (kw k mn) (kh k mn)))]) rfl ?_
            refine lv_aload_n hx hb dX2_firstManner_50 rfl (lv_at hl 1 rfl) ?_
            refine g_getN S hE hI (C := RX0) (T := TX0) (N := 8) (ref := "StonecutterYard$Kind") (host := "StonecutterYard") (fun w h => (List.mem_cons_of_mem _ (List.mem_append_right _ h))) hg3 rfl 3 (by decide) (List.mem_of_getElem? (i := 18) rfl) (fun _ h9 => h9) (v := .int (nI (kF k))) rfl dX2_firstManner_51 ?_
            refine lv_icmp_gt (tgt := 59) hx hb dX2_firstManner_54 (by decide) (fun c_54 => ?_) (fun c_54 => ?_)
            · skip
              have c_54 : (kF k) < (cnt (sL u) 0 0 (kw k mn) (kh k mn)) := (nI_ltI (a := (kF k)) (b := (cnt (sL u) 0 0 (kw k mn) (kh k mn))) (by omega) (by omega)).mp c_54
              have hmnno : sOkIn u k mn = false := by unfold sOkIn; rw [decide_eq_false (Nat.not_le.mpr c_54)]; simp
              refine lv_iinc (v := nI (mn + 1)) (lv' := [(2, .int (nI (mn + 1))), (0, .ref h0), (1, .ref h1)]) hx hb dX2_firstManner_59 hl (k := 2) rfl (nI_add _ 1) (by decide) rfl (fun ls hl => ?_)
              refine lv_goto (tgt := 2) hx hb dX2_firstManner_62 (by decide) ?_
              exact ih (mn + 1) H locs ls (by omega) (by omega) (lt_s hno hmnno) hI (lv_sub hl [1,2,0] rfl)
            · skip
              have c_54 : (cnt (sL u) 0 0 (kw k mn) (kh k mn)) ≤ (kF k) := Nat.not_lt.mp (fun z => c_54 ((nI_ltI (a := (kF k)) (b := (cnt (sL u) 0 0 (kw k mn) (kh k mn))) (by omega) (by omega)).mpr z))
              have hfin : sFits u k = some mn := sFits_mn c_11 c_4 hno (by unfold sOkIn; rw [c_31, decide_eq_true c_54]; rfl)
              refine lv_iload_n hx hb dX2_firstManner_57 rfl (lv_at hl 2 rfl) ?_
              exact g_iret S hI hr hlocks (Nat.zero_le _) (Nat.zero_le _) dX2_firstManner_58 ⟨by rw [hfin]; rfl, rfl⟩
  exact L2 _ 0 H locs ls (Nat.lt_succ_self _) (by decide) (fun j hj => absurd hj (Nat.not_lt_zero j)) hI (lv_sub hl [1,2,0] rfl)
