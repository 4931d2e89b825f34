theorem c_cutDA (l : Launch) (K : gK) (G : gW) (z : Bool) (r : Nat) (L : Nat → Nat → Nat) (y : YV) (i x : Nat) (dn : Bool) (hs : StockG K z r L G y) (hi : i < ySc y) (hx24 : x ≤ 24) (hroom : canC (yLen (yS y i) dn) (yF y) x = true → ySc y ≤ 42) : gM l yX3_cutSlab wsX3_cutSlab 4 89 0 0 K [.ref (L 0 0), .int (nI i), .int (bI dn), .int (nI x)] G (fun v G1 => v = some (.int (nI (yCutR y i dn x))) ∧ StockG K z r L G1 (yCut y i dn x) ∧ Ag r G G1) gNo := by
  cases dn
  · exact c_cutA l K G z r L y i x hs hi hx24 hroom
  · exact c_cutD l K G z r L y i x hs hi hx24 hroom
set_option maxHeartbeats 4000000 in
set_option maxRecDepth 100000 in
/-- slab -/
theorem c_slabC (l : Launch) (K : gK) (G : gW) (L1 L2 : Nat → Nat → Nat) (M : Nat → Nat) (hy : Nat) (y : YV) (w h g : Nat) (hlS : l.stackTraces = false) (hy0 : YardC K L1 L2 M hy G y) (hb9 : (1 ≤ w ∧ w ≤ 24) ∧ (1 ≤ h ∧ h ≤ 24) ∧ g ≤ 1) (hroom : ySc y < 40) : gM l yX4_slab wsX4_slab 4 89 0 0 K [.ref hy, .int (nI w), .int (nI h), .int (nI g)] G (oPost K L1 L2 M hy G (oSlab y (nI w) (nI h) (nI g))) (oX K L1 L2 M hy G (oSlab y (nI w) (nI h) (nI g)) (ex2 eIA eIS)) := by
  refine gM.of (cc := cX4_slab) (maxL := 5) (ret := (some .int)) (by decide) rfl (Nat.le_of_ble_eq_true rfl) ?_
  intro p e s m below meth c A S hr hlocks htab hname hE hA hI ls hl
  have hx := S.1
  have hb := S.2.1
  have hml := S.2.2.1
  have hl : lv_has ls 5 [(0, .ref hy), (1, .int (nI w)), (2, .int (nI h)), (3, .int (nI g))] := hl
  have hs := hy0.2.1
  have hy9 := hy0.1
  have h44 := hs.1.2.2.2.1
  have h6 := hs.1.2.2.2.2.1
  have hf2 := hs.1.2.2.2.2.2
  have hc40 := hy0.2.2.2.2
  have hp9 := inP_nI hb9
  obtain ⟨⟨b1, b2⟩, ⟨b3, b4⟩, b5⟩ := hb9
  have ho : oSlab y (nI w) (nI h) (nI g) = (0, nI (ySc y), yAddS y (w, h, g, -1, 0, [])) := by unfold oSlab; rw [if_pos hp9, if_pos hroom, iN_nI (by omega), iN_nI (by omega), iN_nI (by omega)]
  obtain ⟨H, hHe⟩ : ∃ z, z = s.heap := ⟨_, rfl⟩
  obtain ⟨locs, hLe⟩ : ∃ z : List Loc, z = [] := ⟨_, rfl⟩
  rw [← hHe, ← hLe]
  have hI : gI K A s G H locs := by rw [hHe, hLe]; exact hI
  clear hHe hLe
  refine lv_iload_n hx hb dX4_slab_0 rfl (lv_at hl 1 rfl) ?_
  refine lv_iload_n hx hb dX4_slab_1 rfl (lv_at hl 2 rfl) ?_
  refine lv_iload_n hx hb dX4_slab_2 rfl (lv_at hl 3 rfl) ?_
  refine g_callS (As := [.int (nI w), .int (nI h), .int (nI g)]) (rest := []) (n := 3) S hE hI hA (c_reqPieceIn l K _ (nI w) (nI h) (nI g) hlS hp9) gX4_slab_X4_requirePiece rfl (by decide +kernel) ⟨Nat.le_of_ble_eq_true rfl, Nat.le_of_ble_eq_true rfl⟩ rfl hl.1 rfl (Nat.le_of_ble_eq_true rfl) dX4_slab_3 ⟨Nat.le_of_ble_eq_true rfl, Nat.le_of_ble_eq_true rfl⟩ (fun E ce q9 Gx H1 locs1 hx9 => hx9.elim) (fun rv Gc_3 H locs hp hI => ?_)
  obtain ⟨rfl, hq9⟩ := hp
  rw [hq9] at hI
  refine W.eq (g2 := F0 m 6 ls []) rfl ?_
  refine lv_aload_n hx hb dX4_slab_6 rfl (lv_at hl 0 rfl) ?_
  refine g_get S hE hI (C := RX4) (T := TX4) (N := 3) (ref := "StonecutterYard") (fun w h => (List.mem_cons_of_mem _ (List.mem_append_left _ (List.mem_append_left _ (List.mem_append_left _ (List.mem_append_left _ (List.mem_append_right _ h))))))) hy9 rfl 0 (by decide) (List.mem_cons_of_mem _ (List.mem_append_left _ (List.mem_append_left _ (List.mem_append_left _ (List.mem_append_left _ (List.mem_append_left _ (List.mem_append_left _ (List.mem_of_getElem? (i := 2) rfl)))))))) (fun _ h9 => h9) (v := .ref (L1 0 0)) rfl dX4_slab_7 ?_
  refine g_getN S hE hI (C := RX3) (T := TX3) (N := 5) (ref := "StonecutterYard$Stock") (host := "StonecutterYard") (fun w h => (List.mem_cons_of_mem _ (List.mem_append_left _ (List.mem_append_left _ (List.mem_append_left _ (List.mem_append_right _ h)))))) hs.1.1 rfl 2 (by decide) (List.mem_of_getElem? (i := 0) rfl) (fun _ h9 => h9) (v := .int (nI (ySc y))) rfl dX4_slab_10 ?_
  refine lv_bipush (v := nI 40) hx hb dX4_slab_13 (by decide) ?_
  refine lv_icmp_lt (tgt := 28) hx hb dX4_slab_15 (by decide) (fun c_15 => ?_) (fun c_15 => ?_)
  · skip
    have c_15 : (ySc y) < 40 := (nI_ltI (a := (ySc y)) (b := 40) (by omega) (by omega)).mp c_15
    refine lv_aload_n hx hb dX4_slab_28 rfl (lv_at hl 0 rfl) ?_
    refine g_get S hE hI (C := RX4) (T := TX4) (N := 3) (ref := "StonecutterYard") (fun w h => (List.mem_cons_of_mem _ (List.mem_append_left _ (List.mem_append_left _ (List.mem_append_left _ (List.mem_append_left _ (List.mem_append_right _ h))))))) hy9 rfl 0 (by decide) (List.mem_cons_of_mem _ (List.mem_append_left _ (List.mem_append_left _ (List.mem_append_left _ (List.mem_append_left _ (List.mem_append_left _ (List.mem_append_left _ (List.mem_of_getElem? (i := 2) rfl)))))))) (fun _ h9 => h9) (v := .ref (L1 0 0)) rfl dX4_slab_29 ?_
    refine g_getN S hE hI (C := RX3) (T := TX3) (N := 5) (ref := "StonecutterYard$Stock") (host := "StonecutterYard") (fun w h => (List.mem_cons_of_mem _ (List.mem_append_left _ (List.mem_append_left _ (List.mem_append_left _ (List.mem_append_right _ h)))))) hs.1.1 rfl 2 (by decide) (List.mem_of_getElem? (i := 0) rfl) (fun _ h9 => h9) (v := .int (nI (ySc y))) rfl dX4_slab_32 ?_
    refine lv_istore (lv' := [(4, .int (nI (ySc y))), (0, .ref hy), (1, .int (nI w)), (2, .int (nI h)), (3, .int (nI g))]) hx hb dX4_slab_35 hl (by decide) rfl (fun ls hl => ?_)
    refine lv_aload_n hx hb dX4_slab_37 rfl (lv_at hl 1 rfl) ?_
    refine g_get S hE hI (C := RX4) (T := TX4) (N := 3) (ref := "StonecutterYard") (fun w h => (List.mem_cons_of_mem _ (List.mem_append_left _ (List.mem_append_left _ (List.mem_append_left _ (List.mem_append_left _ (List.mem_append_right _ h))))))) hy9 rfl 0 (by decide) (List.mem_cons_of_mem _ (List.mem_append_left _ (List.mem_append_left _ (List.mem_append_left _ (List.mem_append_left _ (List.mem_append_left _ (List.mem_append_left _ (List.mem_of_getElem? (i := 2) rfl)))))))) (fun _ h9 => h9) (v := .ref (L1 0 0)) rfl dX4_slab_38 ?_
    refine lv_iload_n hx hb dX4_slab_41 rfl (lv_at hl 2 rfl) ?_
    refine lv_iload_n hx hb dX4_slab_42 rfl (lv_at hl 3 rfl) ?_
    refine lv_iload_n hx hb dX4_slab_43 rfl (lv_at hl 4 rfl) ?_
    refine lv_iconst (v := (-1)) hx hb dX4_slab_44 (by decide) ?_
    refine g_callV (As := [.int (nI w), .int (nI h), .int (nI g), .int (-1)]) (rest := []) (b := (L1 0 0)) (n := 4) S hE hI hA (c_X3_addSlab l K _ true 1 L1 y w h g (-1) hs (by omega) (sOK.part ⟨b1, b2⟩ ⟨b3, b4⟩ b5 (by decide) (fun q hq => by cases hq))) gX4_slab_X3_addSlab rfl (by decide +kernel) ⟨Nat.le_of_ble_eq_true rfl, Nat.le_of_ble_eq_true rfl⟩ (g_hro hE hI hs.1.1 rfl) rfl hl.1 rfl (Nat.le_of_ble_eq_true rfl) dX4_slab_45 ⟨Nat.le_of_ble_eq_true rfl, Nat.le_of_ble_eq_true rfl⟩ (fun E ce q9 Gx H1 locs1 hx9 => hx9.elim) (fun rv Gc_45 H locs hp hI => ?_)
    obtain ⟨rfl, hs1, ha1⟩ := hp
    refine W.eq (g2 := F0 m 48 ls [.ref (L1 3 (ySc y))]) rfl ?_
    refine lv_pop hx hb dX4_slab_48 rfl ?_
    refine lv_iload hx hb dX4_slab_49 (lv_at hl 0 rfl) ?_
    exact g_iret S hI hr hlocks (Nat.zero_le _) (Nat.zero_le _) dX4_slab_51 (by rw [ho]; exact ⟨rfl, rfl, hy0.stock hs1 ha1 (by show ySc y + 1 ≤ 40; omega), (ha1).y (by decide)⟩)
  · skip
    have c_15 : 40 ≤ (ySc y) := Nat.not_lt.mp (fun z => c_15 ((nI_ltI (a := (ySc y)) (b := 40) (by omega) (by omega)).mpr z))
    exact absurd hroom (by omega)
set_option maxHeartbeats 4000000 in
set_option maxRecDepth 100000 in
/-- flaw -/
theorem c_flawD (l : Launch) (K : gK) (G : gW) (L1 L2 : Nat → Nat → Nat) (M : Nat → Nat) (hy : Nat) (y : YV) (i a b : Nat) (hlS : l.stackTraces = false) (hy0 : YardC K L1 L2 M hy G y) (hi : i < ySc y) (hab : a < sW (yS y i) ∧ b < sH (yS y i)) (hcond : sT (yS y i) = 0 ∧ (sL (yS y i)).length < 6) : gM l yX4_flaw wsX4_flaw 4 83 0 0 K [.ref hy, .int (nI i), .int (nI a), .int (nI b)] G (oPost K L1 L2 M hy G (oFlaw y (nI i) (nI a) (nI b))) (oX K L1 L2 M hy G (oFlaw y (nI i) (nI a) (nI b)) (ex2 eIO eIS)) := by
  refine gM.of (cc := cX4_flaw) (maxL := 5) (ret := (some .int)) (by decide) rfl (Nat.le_of_ble_eq_true rfl) ?_
  intro p e s m below meth c A S hr hlocks htab hname hE hA hI ls hl
  have hx := S.1
  have hb := S.2.1
  have hml := S.2.2.1
  have hl : lv_has ls 5 [(0, .ref hy), (1, .int (nI i)), (2, .int (nI a)), (3, .int (nI b))] := hl
  have hs := hy0.2.1
  have hy9 := hy0.1
  have h44 := hs.1.2.2.2.1
  have h6 := hs.1.2.2.2.2.1
  have hf2 := hs.1.2.2.2.2.2
  have hc40 := hy0.2.2.2.2
  have hri : inR (nI i) (ySc y) = true := inR_nI hi (by omega)
  have hiN : iN (nI i) = i := iN_nI (by omega)
  obtain ⟨P, hsl, hpt, hpk, hsok⟩ := hs.slab hi
  have hsok9 := hsok
  obtain ⟨s1, s2, s3, s4, s5, s6, s7, s8⟩ := hsok9
  have hpt9 := inPt_nI hsok hab.1 hab.2
  have haN : iN (nI a) = a := iN_nI (by omega)
  have hbN : iN (nI b) = b := iN_nI (by omega)
  have ho : oFlaw y (nI i) (nI a) (nI b) = (0, nI ((sL (yS y i)).length + 1), ySetS y i (sPut (yS y i) a b)) := by unfold oFlaw; rw [if_pos hri, hiN, if_pos hpt9, if_pos hcond, haN, hbN]
  obtain ⟨H, hHe⟩ : ∃ z, z = s.heap := ⟨_, rfl⟩
  obtain ⟨locs, hLe⟩ : ∃ z : List Loc, z = [] := ⟨_, rfl⟩
  rw [← hHe, ← hLe]
  have hI : gI K A s G H locs := by rw [hHe, hLe]; exact hI
  clear hHe hLe
  refine lv_aload_n hx hb dX4_flaw_0 rfl (lv_at hl 0 rfl) ?_
  refine lv_iload_n hx hb dX4_flaw_1 rfl (lv_at hl 1 rfl) ?_
  refine g_callV (As := [.int (nI i)]) (rest := []) (b := hy) (n := 1) S hE hI hA (c_slabOfIn l K _ L1 L2 M hy y i hlS hy0 hi) gX4_flaw_X4_slabOf rfl (by decide +kernel) ⟨Nat.le_of_ble_eq_true rfl, Nat.le_of_ble_eq_true rfl⟩ (g_hro hE hI hy9 rfl) rfl hl.1 rfl (Nat.le_of_ble_eq_true rfl) dX4_flaw_2 ⟨Nat.le_of_ble_eq_true rfl, Nat.le_of_ble_eq_true rfl⟩ (fun E ce q9 Gx H locs hx9 hI hce hcv hcl => ?_) (fun rv Gc_2 H locs hp hI => ?_)
  · skip
    exact hx9.elim
  obtain ⟨rfl, hq9⟩ := hp
  rw [hq9] at hI
  refine W.eq (g2 := F0 m 5 ls [.ref (L1 3 i)]) rfl ?_
  refine lv_astore (lv' := [(4, .ref (L1 3 i)), (0, .ref hy), (1, .int (nI i)), (2, .int (nI a)), (3, .int (nI b))]) hx hb dX4_flaw_5 hl (by decide) rfl (fun ls hl => ?_)
  refine lv_aload hx hb dX4_flaw_7 (lv_at hl 0 rfl) ?_
  refine lv_iload_n hx hb dX4_flaw_9 rfl (lv_at hl 3 rfl) ?_
  refine lv_iload_n hx hb dX4_flaw_10 rfl (lv_at hl 4 rfl) ?_
  refine g_callS (As := [.ref (L1 3 i), .int (nI a), .int (nI b)]) (rest := []) (n := 3) S hE hI hA (c_reqPointIn l K _ (1, 3, i) (L1 3 i) (yS y i) (L1 4 i) a b hlS hsl ⟨s2, s4⟩ hab) gX4_flaw_X4_requirePoint rfl (by decide +kernel) ⟨Nat.le_of_ble_eq_true rfl, Nat.le_of_ble_eq_true rfl⟩ rfl hl.1 rfl (Nat.le_of_ble_eq_true rfl) dX4_flaw_11 ⟨Nat.le_of_ble_eq_true rfl, Nat.le_of_ble_eq_true rfl⟩ (fun E ce q9 Gx H1 locs1 hx9 => hx9.elim) (fun rv Gc_11 H locs hp hI => ?_)
  obtain ⟨rfl, hq9⟩ := hp
  rw [hq9] at hI
  refine W.eq (g2 := F0 m 14 ls []) rfl ?_
  refine lv_aload hx hb dX4_flaw_14 (lv_at hl 0 rfl) ?_
  refine g_getN S hE hI (C := RX2) (T := TX2) (N := 7) (ref := "StonecutterYard$Slab") (host := "StonecutterYard") (fun w h => (List.mem_cons_of_mem _ (List.mem_append_left _ (List.mem_append_left _ (List.mem_append_left _ (List.mem_append_left _ (List.mem_append_right _ h))))))) hsl rfl 4 (by decide) (List.mem_of_getElem? (i := 1) rfl) (fun _ h9 => h9) (v := .int (nI (sT (yS y i)))) rfl dX4_flaw_16 ?_
  refine lv_if_ne (tgt := 32) hx hb dX4_flaw_19 (by decide) (fun c_19 => ?_) (fun c_19 => ?_)
  · skip
    have c_19 : (sT (yS y i)) ≠ 0 := fun z => c_19 ((nI_eq (a := (sT (yS y i))) (b := 0) (by omega) (by omega)).mpr z)
    exact absurd hcond.1 c_19
  · skip
    have c_19 : (sT (yS y i)) = 0 := (nI_eq (a := (sT (yS y i))) (b := 0) (by omega) (by omega)).mp c_19
    refine lv_aload hx hb dX4_flaw_22 (lv_at hl 0 rfl) ?_
    refine g_getN S hE hI (C := RX2) (T := TX2) (N := 7) (ref := "StonecutterYard$Slab") (host := "StonecutterYard") (fun w h => (List.mem_cons_of_mem _ (List.mem_append_left _ (List.mem_append_left _ (List.mem_append_left _ (List.mem_append_left _ (List.mem_append_right _ h))))))) hsl rfl 5 (by decide) (List.mem_of_getElem? (i := 2) rfl) (fun _ h9 => h9) (v := .int (nI ((sL (yS y i)).length))) rfl dX4_flaw_24 ?_
    refine lv_bipush (v := nI 6) hx hb dX4_flaw_27 (by decide) ?_
    refine lv_icmp_lt (tgt := 42) hx hb dX4_flaw_29 (by decide) (fun c_29 => ?_) (fun c_29 => ?_)
    · skip
      have c_29 : ((sL (yS y i)).length) < 6 := (nI_ltI (a := ((sL (yS y i)).length)) (b := 6) (by omega) (by omega)).mp c_29
      refine lv_aload hx hb dX4_flaw_42 (lv_at hl 0 rfl) ?_
      refine lv_iload_n hx hb dX4_flaw_44 rfl (lv_at hl 3 rfl) ?_
      refine lv_iload_n hx hb dX4_flaw_45 rfl (lv_at hl 4 rfl) ?_
      refine g_callV (As := [.int (nI a), .int (nI b)]) (rest := []) (b := (L1 3 i)) (n := 2) S hE hI hA (c_X2_addFlaw l K _ (1, 3, i) (1, 4, i) (L1 3 i) (yS y i) (L1 4 i) P a b hsl hpt hcond.2 ⟨by omega, by omega⟩) gX4_flaw_X2_addFlaw rfl (by decide +kernel) ⟨Nat.le_of_ble_eq_true rfl, Nat.le_of_ble_eq_true rfl⟩ (g_hro hE hI hsl rfl) rfl hl.1 rfl (Nat.le_of_ble_eq_true rfl) dX4_flaw_46 ⟨Nat.le_of_ble_eq_true rfl, Nat.le_of_ble_eq_true rfl⟩ (fun E ce q9 Gx H1 locs1 hx9 => hx9.elim) (fun rv Gc_46 H locs hp hI => ?_)
      obtain ⟨rfl, hGc⟩ := hp
      have hsl1 : Gc_46 (1, 3, i) = some (L1 3 i, cS (sPut (yS y i) a b) (L1 4 i)) := by rw [hGc]; exact gset_eq _ _ _ _
      have hs1 : StockG K true 1 L1 Gc_46 (ySetS y i (sPut (yS y i) a b)) := hs.setS (by omega) (P' := upd P (sL (yS y i)).length (nI (a * 24 + b))) (fun _ => ⟨sPut_ok hsok hcond.2 hab.1 hab.2, hpk.add hcond.2 (by omega) (by omega)⟩) hsl1 (by rw [hGc]; exact (gset_ne (by simp)).trans (gset_eq _ _ _ _)) (fun t _ h3 h4 => by rw [hGc]; exact (gset_ne h3).trans (gset_ne h4))
      have ha1 : Ag 1 G Gc_46 := by rw [hGc]; exact Ag.rf.st.st
      refine W.eq (g2 := F0 m 49 ls []) rfl ?_
      refine lv_aload hx hb dX4_flaw_49 (lv_at hl 0 rfl) ?_
      refine g_getN S hE hI (C := RX2) (T := TX2) (N := 7) (ref := "StonecutterYard$Slab") (host := "StonecutterYard") (fun w h => (List.mem_cons_of_mem _ (List.mem_append_left _ (List.mem_append_left _ (List.mem_append_left _ (List.mem_append_left _ (List.mem_append_right _ h))))))) hsl1 rfl 5 (by decide) (List.mem_of_getElem? (i := 2) rfl) (fun _ h9 => h9) (v := .int (nI ((sL (sPut (yS y i) a b)).length))) rfl dX4_flaw_51 ?_
      have hlen9 : (sL (sPut (yS y i) a b)).length = (sL (yS y i)).length + 1 := by show (sL (yS y i) ++ [(a, b)]).length = _; rw [List.length_append]; rfl
      exact g_iret S hI hr hlocks (Nat.zero_le _) (Nat.zero_le _) dX4_flaw_54 (by rw [ho, hlen9]; exact ⟨rfl, rfl, hy0.stock hs1 ha1 hc40, ha1.y (by decide)⟩)
    · skip
      have c_29 : 6 ≤ ((sL (yS y i)).length) := Nat.not_lt.mp (fun z => c_29 ((nI_ltI (a := ((sL (yS y i)).length)) (b := 6) (by omega) (by omega)).mpr z))
      exact absurd hcond.2 (by omega)
set_option maxHeartbeats 4000000 in
set_option maxRecDepth 100000 in
/-- cut -/
theorem c_cut4 (l : Launch) (K : gK) (G : gW) (L1 L2 : Nat → Nat → Nat) (M : Nat → Nat) (hy : Nat) (y : YV) (i : Nat) (dn : Bool) (x : Nat) (hlS : l.stackTraces = false) (hy0 : YardC K L1 L2 M hy G y) (hi : i < ySc y) (hx24 : x ≤ 24) (hcan : canC (yLen (yS y i) dn) (yF y) x = true) (hcond : sT (yS y i) = 0 ∧ ySc y ≤ 38) : gM l yX4_cut wsX4_cut 5 117 0 0 K [.ref hy, .int (nI i), .int (bI dn), .int (nI x)] G (oPost K L1 L2 M hy G (oCut y (nI i) dn (nI x))) (oX K L1 L2 M hy G (oCut y (nI i) dn (nI x)) (ex3 eIO eIA eIS)) := by
  refine gM.of (cc := cX4_cut) (maxL := 5) (ret := (some .int)) (by decide) rfl (Nat.le_of_ble_eq_true rfl) ?_
  intro p e s m below meth c A S hr hlocks htab hname hE hA hI ls hl
  have hx := S.1
  have hb := S.2.1
  have hml := S.2.2.1
  have hl : lv_has ls 5 [(0, .ref hy), (1, .int (nI i)), (2, .int (bI dn)), (3, .int (nI x))] := hl
  have hs := hy0.2.1
  have hy9 := hy0.1
  have h44 := hs.1.2.2.2.1
  have h6 := hs.1.2.2.2.2.1
  have hf2 := hs.1.2.2.2.2.2
  have hc40 := hy0.2.2.2.2
  have hri : inR (nI i) (ySc y) = true := inR_nI hi (by omega)
  have hiN : iN (nI i) = i := iN_nI (by omega)
  obtain ⟨P, hsl, hpt, hpk, hsok⟩ := hs.slab hi
  have hsok9 := hsok
  obtain ⟨s1, s2, s3, s4, s5, s6, s7, s8⟩ := hsok9
  have ho : oCut y (nI i) dn (nI x) = (0, nI (ySc y), yCut y i dn x) := by unfold oCut; rw [if_pos hri, hiN, if_pos (by rw [canI_nI (by omega)]; exact hcan), if_pos hcond, iN_nI (by omega)]
  obtain ⟨H, hHe⟩ : ∃ z, z = s.heap := ⟨_, rfl⟩
  obtain ⟨locs, hLe⟩ : ∃ z : List Loc, z = [] := ⟨_, rfl⟩
  rw [← hHe, ← hLe]
  have hI : gI K A s G H locs := by rw [hHe, hLe]; exact hI
  clear hHe hLe
  refine lv_aload_n hx hb dX4_cut_0 rfl (lv_at hl 0 rfl) ?_
  refine lv_iload_n hx hb dX4_cut_1 rfl (lv_at hl 1 rfl) ?_
  refine g_callV (As := [.int (nI i)]) (rest := []) (b := hy) (n := 1) S hE hI hA (c_slabOfIn l K _ L1 L2 M hy y i hlS hy0 hi) gX4_cut_X4_slabOf rfl (by decide +kernel) ⟨Nat.le_of_ble_eq_true rfl, Nat.le_of_ble_eq_true rfl⟩ (g_hro hE hI hy9 rfl) rfl hl.1 rfl (Nat.le_of_ble_eq_true rfl) dX4_cut_2 ⟨Nat.le_of_ble_eq_true rfl, Nat.le_of_ble_eq_true rfl⟩ (fun E ce q9 Gx H locs hx9 hI hce hcv hcl => ?_) (fun rv Gc_2 H locs hp hI => ?_)
  · skip
    exact hx9.elim
  obtain ⟨rfl, hq9⟩ := hp
  rw [hq9] at hI
  refine W.eq (g2 := F0 m 5 ls [.ref (L1 3 i)]) rfl ?_
  refine lv_astore (lv' := [(4, .ref (L1 3 i)), (0, .ref hy), (1, .int (nI i)), (2, .int (bI dn)), (3, .int (nI x))]) hx hb dX4_cut_5 hl (by decide) rfl (fun ls hl => ?_)
  refine lv_aload_n hx hb dX4_cut_7 rfl (lv_at hl 1 rfl) ?_
  refine g_get S hE hI (C := RX4) (T := TX4) (N := 3) (ref := "StonecutterYard") (fun w h => (List.mem_cons_of_mem _ (List.mem_append_left _ (List.mem_append_left _ (List.mem_append_left _ (List.mem_append_left _ (List.mem_append_left _ (List.mem_append_right _ h)))))))) hy9 rfl 0 (by decide) (List.mem_cons_of_mem _ (List.mem_append_left _ (List.mem_append_left _ (List.mem_append_left _ (List.mem_append_left _ (List.mem_append_left _ (List.mem_append_left _ (List.mem_append_left _ (List.mem_of_getElem? (i := 4) rfl))))))))) (fun _ h9 => h9) (v := .ref (L1 0 0)) rfl dX4_cut_8 ?_
  refine lv_aload hx hb dX4_cut_11 (lv_at hl 0 rfl) ?_
  refine lv_iload_n hx hb dX4_cut_13 rfl (lv_at hl 3 rfl) ?_
  refine lv_iload_n hx hb dX4_cut_14 rfl (lv_at hl 4 rfl) ?_
  refine g_callV (As := [.ref (L1 3 i), .int (bI dn), .int (nI x)]) (rest := []) (b := (L1 0 0)) (n := 3) S hE hI hA (c_X3_canCut l K _ 1 L1 (ySc y) (yKc y) (yF y) (1, 3, i) (L1 3 i) (yS y i) (L1 4 i) dn (nI x) hs.1 hsl ⟨⟨s1, s2⟩, s3, s4⟩) gX4_cut_X3_canCut rfl (by decide +kernel) ⟨Nat.le_of_ble_eq_true rfl, Nat.le_of_ble_eq_true rfl⟩ (g_hro hE hI hs.1.1 rfl) rfl hl.1 rfl (Nat.le_of_ble_eq_true rfl) dX4_cut_15 ⟨Nat.le_of_ble_eq_true rfl, Nat.le_of_ble_eq_true rfl⟩ (fun E ce q9 Gx H1 locs1 hx9 => hx9.elim) (fun rv Gc_15 H locs hp hI => ?_)
  obtain ⟨rfl, hq9⟩ := hp
  rw [hq9] at hI
  rw [canI_nI (by omega)]
  refine W.eq (g2 := F0 m 18 ls [.int (bI (canC (yLen (yS y i) dn) (yF y) x))]) rfl ?_
  refine lv_if_ne (tgt := 31) hx hb dX4_cut_18 (by decide) (fun c_18 => ?_) (fun c_18 => ?_)
  · skip
    have c_18 : (canC (yLen (yS y i) dn) (yF y) x) = true := bI_1.mp c_18
    refine lv_aload hx hb dX4_cut_31 (lv_at hl 0 rfl) ?_
    refine g_getN S hE hI (C := RX2) (T := TX2) (N := 7) (ref := "StonecutterYard$Slab") (host := "StonecutterYard") (fun w h => (List.mem_cons_of_mem _ (List.mem_append_left _ (List.mem_append_left _ (List.mem_append_left _ (List.mem_append_left _ (List.mem_append_right _ h))))))) hsl rfl 4 (by decide) (List.mem_of_getElem? (i := 1) rfl) (fun _ h9 => h9) (v := .int (nI (sT (yS y i)))) rfl dX4_cut_33 ?_
    refine lv_if_ne (tgt := 51) hx hb dX4_cut_36 (by decide) (fun c_36 => ?_) (fun c_36 => ?_)
    · skip
      have c_36 : (sT (yS y i)) ≠ 0 := fun z => c_36 ((nI_eq (a := (sT (yS y i))) (b := 0) (by omega) (by omega)).mpr z)
      exact absurd hcond.1 c_36
    · skip
      have c_36 : (sT (yS y i)) = 0 := (nI_eq (a := (sT (yS y i))) (b := 0) (by omega) (by omega)).mp c_36
      refine lv_aload_n hx hb dX4_cut_39 rfl (lv_at hl 1 rfl) ?_
      refine g_get S hE hI (C := RX4) (T := TX4) (N := 3) (ref := "StonecutterYard") (fun w h => (List.mem_cons_of_mem _ (List.mem_append_left _ (List.mem_append_left _ (List.mem_append_left _ (List.mem_append_left _ (List.mem_append_left _ (List.mem_append_right _ h)))))))) hy9 rfl 0 (by decide) (List.mem_cons_of_mem _ (List.mem_append_left _ (List.mem_append_left _ (List.mem_append_left _ (List.mem_append_left _ (List.mem_append_left _ (List.mem_append_left _ (List.mem_append_left _ (List.mem_of_getElem? (i := 4) rfl))))))))) (fun _ h9 => h9) (v := .ref (L1 0 0)) rfl dX4_cut_40 ?_
      refine g_getN S hE hI (C := RX3) (T := TX3) (N := 5) (ref := "StonecutterYard$Stock") (host := "StonecutterYard") (fun w h => (List.mem_cons_of_mem _ (List.mem_append_left _ (List.mem_append_left _ (List.mem_append_left _ (List.mem_append_right _ h)))))) hs.1.1 rfl 2 (by decide) (List.mem_of_getElem? (i := 0) rfl) (fun _ h9 => h9) (v := .int (nI (ySc y))) rfl dX4_cut_43 ?_
      refine lv_bipush (v := nI 38) hx hb dX4_cut_46 (by decide) ?_
      refine lv_icmp_le (tgt := 61) hx hb dX4_cut_48 (by decide) (fun c_48 => ?_) (fun c_48 => ?_)
      · skip
        have c_48 : (ySc y) ≤ 38 := (nI_leI (a := (ySc y)) (b := 38) (by omega) (by omega)).mp c_48
        refine lv_aload_n hx hb dX4_cut_61 rfl (lv_at hl 1 rfl) ?_
        refine g_get S hE hI (C := RX4) (T := TX4) (N := 3) (ref := "StonecutterYard") (fun w h => (List.mem_cons_of_mem _ (List.mem_append_left _ (List.mem_append_left _ (List.mem_append_left _ (List.mem_append_left _ (List.mem_append_left _ (List.mem_append_right _ h)))))))) hy9 rfl 0 (by decide) (List.mem_cons_of_mem _ (List.mem_append_left _ (List.mem_append_left _ (List.mem_append_left _ (List.mem_append_left _ (List.mem_append_left _ (List.mem_append_left _ (List.mem_append_left _ (List.mem_of_getElem? (i := 4) rfl))))))))) (fun _ h9 => h9) (v := .ref (L1 0 0)) rfl dX4_cut_62 ?_
        refine lv_iload_n hx hb dX4_cut_65 rfl (lv_at hl 2 rfl) ?_
        refine lv_iload_n hx hb dX4_cut_66 rfl (lv_at hl 3 rfl) ?_
        refine lv_iload_n hx hb dX4_cut_67 rfl (lv_at hl 4 rfl) ?_
        refine g_callV (As := [.int (nI i), .int (bI dn), .int (nI x)]) (rest := []) (b := (L1 0 0)) (n := 3) S hE hI hA (c_cutDA l K _ true 1 L1 y i x dn hs hi hx24 (fun _ => by omega)) gX4_cut_X3_cutSlab rfl (by decide +kernel) ⟨Nat.le_of_ble_eq_true rfl, Nat.le_of_ble_eq_true rfl⟩ (g_hro hE hI hs.1.1 rfl) rfl hl.1 rfl (Nat.le_of_ble_eq_true rfl) dX4_cut_68 ⟨Nat.le_of_ble_eq_true rfl, Nat.le_of_ble_eq_true rfl⟩ (fun E ce q9 Gx H1 locs1 hx9 => hx9.elim) (fun rv Gc_68 H locs hp hI => ?_)
        obtain ⟨rfl, hs1, ha1⟩ := hp
        have hle := yCut_le (y := y) (i := i) (dn := dn) (x := x)
        refine W.eq (g2 := F0 m 71 ls [.int (nI (yCutR y i dn x))]) rfl ?_
        exact g_iret S hI hr hlocks (Nat.zero_le _) (Nat.zero_le _) dX4_cut_71 (by rw [ho, yCutR_yes hcan]; exact ⟨rfl, rfl, hy0.stock hs1 ha1 (by show ySc (yCut y i dn x) ≤ 40; omega), ha1.y (by decide)⟩)
      · skip
        have c_48 : 38 < (ySc y) := Nat.not_le.mp (fun z => c_48 ((nI_leI (a := (ySc y)) (b := 38) (by omega) (by omega)).mpr z))
        exact absurd hcond.2 (by omega)
  · skip
    have c_18 : (canC (yLen (yS y i) dn) (yF y) x) = false := bI_0.mp c_18
    rw [hcan] at c_18; cases c_18
set_option maxHeartbeats 4000000 in
set_option maxRecDepth 100000 in
/-- ofSlab 0 -/
theorem c_ofSlab0 (l : Launch) (K : gK) (G : gW) (L1 L2 : Nat → Nat → Nat) (M : Nat → Nat) (hy : Nat) (y : YV) (i : Nat) (hlS : l.stackTraces = false) (hy0 : YardC K L1 L2 M hy G y) (hi : i < ySc y) : gM l yX4_ofSlab wsX4_ofSlab 4 83 0 0 K [.ref hy, .int (nI i), .int (nI 0)] G (oPost K L1 L2 M hy G (oOfSlab y (nI i) (nI 0))) (oX K L1 L2 M hy G (oOfSlab y (nI i) (nI 0)) (ex2 eIO eIA)) := by
  refine gM.of (cc := cX4_ofSlab) (maxL := 4) (ret := (some .int)) (by decide) rfl (Nat.le_of_ble_eq_true rfl) ?_
  intro p e s m below meth c A S hr hlocks htab hname hE hA hI ls hl
  have hx := S.1
  have hb := S.2.1
  have hml := S.2.2.1
  have hl : lv_has ls 4 [(0, .ref hy), (1, .int (nI i)), (2, .int (nI 0))] := hl
  have hs := hy0.2.1
  have hy9 := hy0.1
  have h44 := hs.1.2.2.2.1
  have h6 := hs.1.2.2.2.2.1
  have hf2 := hs.1.2.2.2.2.2
  have hc40 := hy0.2.2.2.2
  have hri : inR (nI i) (ySc y) = true := inR_nI hi (by omega)
  have hiN : iN (nI i) = i := iN_nI (by omega)
  obtain ⟨P, hsl, hpt, hpk, hsok⟩ := hs.slab hi
  have hsok9 := hsok
  obtain ⟨s1, s2, s3, s4, s5, s6, s7, s8⟩ := hsok9
  have ho : oOfSlab y (nI i) (nI 0) = (0, sOf (yS y i) 0, y) := by unfold oOfSlab; rw [if_pos hri, if_pos (by decide), hiN, iN_nI (by decide)]
  obtain ⟨H, hHe⟩ : ∃ z, z = s.heap := ⟨_, rfl⟩
  obtain ⟨locs, hLe⟩ : ∃ z : List Loc, z = [] := ⟨_, rfl⟩
  rw [← hHe, ← hLe]
  have hI : gI K A s G H locs := by rw [hHe, hLe]; exact hI
  clear hHe hLe
  refine lv_aload_n hx hb dX4_ofSlab_0 rfl (lv_at hl 0 rfl) ?_
  refine lv_iload_n hx hb dX4_ofSlab_1 rfl (lv_at hl 1 rfl) ?_
  refine g_callV (As := [.int (nI i)]) (rest := []) (b := hy) (n := 1) S hE hI hA (c_slabOfIn l K _ L1 L2 M hy y i hlS hy0 hi) gX4_ofSlab_X4_slabOf rfl (by decide +kernel) ⟨Nat.le_of_ble_eq_true rfl, Nat.le_of_ble_eq_true rfl⟩ (g_hro hE hI hy9 rfl) rfl hl.1 rfl (Nat.le_of_ble_eq_true rfl) dX4_ofSlab_2 ⟨Nat.le_of_ble_eq_true rfl, Nat.le_of_ble_eq_true rfl⟩ (fun E ce q9 Gx H locs hx9 hI hce hcv hcl => ?_) (fun rv Gc_2 H locs hp hI => ?_)
  · skip
    exact hx9.elim
  obtain ⟨rfl, hq9⟩ := hp
  rw [hq9] at hI
  refine W.eq (g2 := F0 m 5 ls [.ref (L1 3 i)]) rfl ?_
  refine lv_astore_n (lv' := [(3, .ref (L1 3 i)), (0, .ref hy), (1, .int (nI i)), (2, .int (nI 0))]) hx hb dX4_ofSlab_5 rfl hl (by decide) rfl (fun ls hl => ?_)
  refine lv_iload_n hx hb dX4_ofSlab_6 rfl (lv_at hl 3 rfl) ?_
  refine lv_tableIn (tgt := 44) (off := 37) hx hb dX4_ofSlab_7 (by decide +kernel) (by decide +kernel) (by decide +kernel) (by decide) ?_
  refine lv_aload_n hx hb dX4_ofSlab_44 rfl (lv_at hl 0 rfl) ?_
  refine g_getN S hE hI (C := RX2) (T := TX2) (N := 7) (ref := "StonecutterYard$Slab") (host := "StonecutterYard") (fun w h => (List.mem_cons_of_mem _ (List.mem_append_left _ (List.mem_append_left _ (List.mem_append_left _ (List.mem_append_left _ (List.mem_append_right _ h))))))) hsl rfl 0 (by decide) (List.mem_of_getElem? (i := 3) rfl) (fun _ h9 => h9) (v := .int (nI (sW (yS y i)))) rfl dX4_ofSlab_45 ?_
  exact g_iret S hI hr hlocks (Nat.zero_le _) (Nat.zero_le _) dX4_ofSlab_48 (by rw [ho]; exact ⟨rfl, rfl, hy0, AgY.rf⟩)
set_option maxHeartbeats 4000000 in
set_option maxRecDepth 100000 in
/-- ofSlab 1 -/
theorem c_ofSlab1 (l : Launch) (K : gK) (G : gW) (L1 L2 : Nat → Nat → Nat) (M : Nat → Nat) (hy : Nat) (y : YV) (i : Nat) (hlS : l.stackTraces = false) (hy0 : YardC K L1 L2 M hy G y) (hi : i < ySc y) : gM l yX4_ofSlab wsX4_ofSlab 4 83 0 0 K [.ref hy, .int (nI i), .int (nI 1)] G (oPost K L1 L2 M hy G (oOfSlab y (nI i) (nI 1))) (oX K L1 L2 M hy G (oOfSlab y (nI i) (nI 1)) (ex2 eIO eIA)) := by
  refine gM.of (cc := cX4_ofSlab) (maxL := 4) (ret := (some .int)) (by decide) rfl (Nat.le_of_ble_eq_true rfl) ?_
  intro p e s m below meth c A S hr hlocks htab hname hE hA hI ls hl
  have hx := S.1
  have hb := S.2.1
  have hml := S.2.2.1
  have hl : lv_has ls 4 [(0, .ref hy), (1, .int (nI i)), (2, .int (nI 1))] := hl
  have hs := hy0.2.1
  have hy9 := hy0.1
  have h44 := hs.1.2.2.2.1
  have h6 := hs.1.2.2.2.2.1
  have hf2 := hs.1.2.2.2.2.2
  have hc40 := hy0.2.2.2.2
  have hri : inR (nI i) (ySc y) = true := inR_nI hi (by omega)
  have hiN : iN (nI i) = i := iN_nI (by omega)
  obtain ⟨P, hsl, hpt, hpk, hsok⟩ := hs.slab hi
  have hsok9 := hsok
  obtain ⟨s1, s2, s3, s4, s5, s6, s7, s8⟩ := hsok9
  have ho : oOfSlab y (nI i) (nI 1) = (0, sOf (yS y i) 1, y) := by unfold oOfSlab; rw [if_pos hri, if_pos (by decide), hiN, iN_nI (by decide)]
  obtain ⟨H, hHe⟩ : ∃ z, z = s.heap := ⟨_, rfl⟩
  obtain ⟨locs, hLe⟩ : ∃ z : List Loc, z = [] := ⟨_, rfl⟩
  rw [← hHe, ← hLe]
  have hI : gI K A s G H locs := by rw [hHe, hLe]; exact hI
  clear hHe hLe
  refine lv_aload_n hx hb dX4_ofSlab_0 rfl (lv_at hl 0 rfl) ?_
  refine lv_iload_n hx hb dX4_ofSlab_1 rfl (lv_at hl 1 rfl) ?_
  refine g_callV (As := [.int (nI i)]) (rest := []) (b := hy) (n := 1) S hE hI hA (c_slabOfIn l K _ L1 L2 M hy y i hlS hy0 hi) gX4_ofSlab_X4_slabOf rfl (by decide +kernel) ⟨Nat.le_of_ble_eq_true rfl, Nat.le_of_ble_eq_true rfl⟩ (g_hro hE hI hy9 rfl) rfl hl.1 rfl (Nat.le_of_ble_eq_true rfl) dX4_ofSlab_2 ⟨Nat.le_of_ble_eq_true rfl, Nat.le_of_ble_eq_true rfl⟩ (fun E ce q9 Gx H locs hx9 hI hce hcv hcl => ?_) (fun rv Gc_2 H locs hp hI => ?_)
  · skip
    exact hx9.elim
  obtain ⟨rfl, hq9⟩ := hp
  rw [hq9] at hI
  refine W.eq (g2 := F0 m 5 ls [.ref (L1 3 i)]) rfl ?_
  refine lv_astore_n (lv' := [(3, .ref (L1 3 i)), (0, .ref hy), (1, .int (nI i)), (2, .int (nI 1))]) hx hb dX4_ofSlab_5 rfl hl (by decide) rfl (fun ls hl => ?_)
  refine lv_iload_n hx hb dX4_ofSlab_6 rfl (lv_at hl 3 rfl) ?_
  refine lv_tableIn (tgt := 49) (off := 42) hx hb dX4_ofSlab_7 (by decide +kernel) (by decide +kernel) (by decide +kernel) (by decide) ?_
  refine lv_aload_n hx hb dX4_ofSlab_49 rfl (lv_at hl 0 rfl) ?_
  refine g_getN S hE hI (C := RX2) (T := TX2) (N := 7) (ref := "StonecutterYard$Slab") (host := "StonecutterYard") (fun w h => (List.mem_cons_of_mem _ (List.mem_append_left _ (List.mem_append_left _ (List.mem_append_left _ (List.mem_append_left _ (List.mem_append_right _ h))))))) hsl rfl 1 (by decide) (List.mem_of_getElem? (i := 4) rfl) (fun _ h9 => h9) (v := .int (nI (sH (yS y i)))) rfl dX4_ofSlab_50 ?_
  exact g_iret S hI hr hlocks (Nat.zero_le _) (Nat.zero_le _) dX4_ofSlab_53 (by rw [ho]; exact ⟨rfl, rfl, hy0, AgY.rf⟩)
set_option maxHeartbeats 4000000 in
set_option maxRecDepth 100000 in
/-- ofSlab 2 -/
theorem c_ofSlab2 (l : Launch) (K : gK) (G : gW) (L1 L2 : Nat → Nat → Nat) (M : Nat → Nat) (hy : Nat) (y : YV) (i : Nat) (hlS : l.stackTraces = false) (hy0 : YardC K L1 L2 M hy G y) (hi : i < ySc y) : gM l yX4_ofSlab wsX4_ofSlab 4 83 0 0 K [.ref hy, .int (nI i), .int (nI 2)] G (oPost K L1 L2 M hy G (oOfSlab y (nI i) (nI 2))) (oX K L1 L2 M hy G (oOfSlab y (nI i) (nI 2)) (ex2 eIO eIA)) := by
  refine gM.of (cc := cX4_ofSlab) (maxL := 4) (ret := (some .int)) (by decide) rfl (Nat.le_of_ble_eq_true rfl) ?_
  intro p e s m below meth c A S hr hlocks htab hname hE hA hI ls hl
  have hx := S.1
  have hb := S.2.1
  have hml := S.2.2.1
  have hl : lv_has ls 4 [(0, .ref hy), (1, .int (nI i)), (2, .int (nI 2))] := hl
  have hs := hy0.2.1
  have hy9 := hy0.1
  have h44 := hs.1.2.2.2.1
  have h6 := hs.1.2.2.2.2.1
  have hf2 := hs.1.2.2.2.2.2
  have hc40 := hy0.2.2.2.2
  have hri : inR (nI i) (ySc y) = true := inR_nI hi (by omega)
  have hiN : iN (nI i) = i := iN_nI (by omega)
  obtain ⟨P, hsl, hpt, hpk, hsok⟩ := hs.slab hi
  have hsok9 := hsok
  obtain ⟨s1, s2, s3, s4, s5, s6, s7, s8⟩ := hsok9
  have ho : oOfSlab y (nI i) (nI 2) = (0, sOf (yS y i) 2, y) := by unfold oOfSlab; rw [if_pos hri, if_pos (by decide), hiN, iN_nI (by decide)]
  obtain ⟨H, hHe⟩ : ∃ z, z = s.heap := ⟨_, rfl⟩
  obtain ⟨locs, hLe⟩ : ∃ z : List Loc, z = [] := ⟨_, rfl⟩
  rw [← hHe, ← hLe]
  have hI : gI K A s G H locs := by rw [hHe, hLe]; exact hI
  clear hHe hLe
  refine lv_aload_n hx hb dX4_ofSlab_0 rfl (lv_at hl 0 rfl) ?_
  refine lv_iload_n hx hb dX4_ofSlab_1 rfl (lv_at hl 1 rfl) ?_
  refine g_callV (As := [.int (nI i)]) (rest := []) (b := hy) (n := 1) S hE hI hA (c_slabOfIn l K _ L1 L2 M hy y i hlS hy0 hi) gX4_ofSlab_X4_slabOf rfl (by decide +kernel) ⟨Nat.le_of_ble_eq_true rfl, Nat.le_of_ble_eq_true rfl⟩ (g_hro hE hI hy9 rfl) rfl hl.1 rfl (Nat.le_of_ble_eq_true rfl) dX4_ofSlab_2 ⟨Nat.le_of_ble_eq_true rfl, Nat.le_of_ble_eq_true rfl⟩ (fun E ce q9 Gx H locs hx9 hI hce hcv hcl => ?_) (fun rv Gc_2 H locs hp hI => ?_)
  · skip
    exact hx9.elim
  obtain ⟨rfl, hq9⟩ := hp
  rw [hq9] at hI
  refine W.eq (g2 := F0 m 5 ls [.ref (L1 3 i)]) rfl ?_
  refine lv_astore_n (lv' := [(3, .ref (L1 3 i)), (0, .ref hy), (1, .int (nI i)), (2, .int (nI 2))]) hx hb dX4_ofSlab_5 rfl hl (by decide) rfl (fun ls hl => ?_)
  refine lv_iload_n hx hb dX4_ofSlab_6 rfl (lv_at hl 3 rfl) ?_
  refine lv_tableIn (tgt := 54) (off := 47) hx hb dX4_ofSlab_7 (by decide +kernel) (by decide +kernel) (by decide +kernel) (by decide) ?_
  refine lv_aload_n hx hb dX4_ofSlab_54 rfl (lv_at hl 0 rfl) ?_
  refine g_getN S hE hI (C := RX2) (T := TX2) (N := 7) (ref := "StonecutterYard$Slab") (host := "StonecutterYard") (fun w h => (List.mem_cons_of_mem _ (List.mem_append_left _ (List.mem_append_left _ (List.mem_append_left _ (List.mem_append_left _ (List.mem_append_right _ h))))))) hsl rfl 2 (by decide) (List.mem_of_getElem? (i := 5) rfl) (fun _ h9 => h9) (v := .int (nI (sG (yS y i)))) rfl dX4_ofSlab_55 ?_
  exact g_iret S hI hr hlocks (Nat.zero_le _) (Nat.zero_le _) dX4_ofSlab_58 (by rw [ho]; exact ⟨rfl, rfl, hy0, AgY.rf⟩)
set_option maxHeartbeats 4000000 in
set_option maxRecDepth 100000 in
/-- ofSlab 3 -/
theorem c_ofSlab3 (l : Launch) (K : gK) (G : gW) (L1 L2 : Nat → Nat → Nat) (M : Nat → Nat) (hy : Nat) (y : YV) (i : Nat) (hlS : l.stackTraces = false) (hy0 : YardC K L1 L2 M hy G y) (hi : i < ySc y) : gM l yX4_ofSlab wsX4_ofSlab 4 83 0 0 K [.ref hy, .int (nI i), .int (nI 3)] G (oPost K L1 L2 M hy G (oOfSlab y (nI i) (nI 3))) (oX K L1 L2 M hy G (oOfSlab y (nI i) (nI 3)) (ex2 eIO eIA)) := by
  refine gM.of (cc := cX4_ofSlab) (maxL := 4) (ret := (some .int)) (by decide) rfl (Nat.le_of_ble_eq_true rfl) ?_
  intro p e s m below meth c A S hr hlocks htab hname hE hA hI ls hl
  have hx := S.1
  have hb := S.2.1
  have hml := S.2.2.1
  have hl : lv_has ls 4 [(0, .ref hy), (1, .int (nI i)), (2, .int (nI 3))] := hl
  have hs := hy0.2.1
  have hy9 := hy0.1
  have h44 := hs.1.2.2.2.1
  have h6 := hs.1.2.2.2.2.1
  have hf2 := hs.1.2.2.2.2.2
  have hc40 := hy0.2.2.2.2
  have hri : inR (nI i) (ySc y) = true := inR_nI hi (by omega)
  have hiN : iN (nI i) = i := iN_nI (by omega)
  obtain ⟨P, hsl, hpt, hpk, hsok⟩ := hs.slab hi
  have hsok9 := hsok
  obtain ⟨s1, s2, s3, s4, s5, s6, s7, s8⟩ := hsok9
  have ho : oOfSlab y (nI i) (nI 3) = (0, sOf (yS y i) 3, y) := by unfold oOfSlab; rw [if_pos hri, if_pos (by decide), hiN, iN_nI (by decide)]
  obtain ⟨H, hHe⟩ : ∃ z, z = s.heap := ⟨_, rfl⟩
  obtain ⟨locs, hLe⟩ : ∃ z : List Loc, z = [] := ⟨_, rfl⟩
  rw [← hHe, ← hLe]
  have hI : gI K A s G H locs := by rw [hHe, hLe]; exact hI
  clear hHe hLe
  refine lv_aload_n hx hb dX4_ofSlab_0 rfl (lv_at hl 0 rfl) ?_
  refine lv_iload_n hx hb dX4_ofSlab_1 rfl (lv_at hl 1 rfl) ?_
  refine g_callV (As := [.int (nI i)]) (rest := []) (b := hy) (n := 1) S hE hI hA (c_slabOfIn l K _ L1 L2 M hy y i hlS hy0 hi) gX4_ofSlab_X4_slabOf rfl (by decide +kernel) ⟨Nat.le_of_ble_eq_true rfl, Nat.le_of_ble_eq_true rfl⟩ (g_hro hE hI hy9 rfl) rfl hl.1 rfl (Nat.le_of_ble_eq_true rfl) dX4_ofSlab_2 ⟨Nat.le_of_ble_eq_true rfl, Nat.le_of_ble_eq_true rfl⟩ (fun E ce q9 Gx H locs hx9 hI hce hcv hcl => ?_) (fun rv Gc_2 H locs hp hI => ?_)
  · skip
    exact hx9.elim
  obtain ⟨rfl, hq9⟩ := hp
  rw [hq9] at hI
  refine W.eq (g2 := F0 m 5 ls [.ref (L1 3 i)]) rfl ?_
  refine lv_astore_n (lv' := [(3, .ref (L1 3 i)), (0, .ref hy), (1, .int (nI i)), (2, .int (nI 3))]) hx hb dX4_ofSlab_5 rfl hl (by decide) rfl (fun ls hl => ?_)
  refine lv_iload_n hx hb dX4_ofSlab_6 rfl (lv_at hl 3 rfl) ?_
  refine lv_tableIn (tgt := 59) (off := 52) hx hb dX4_ofSlab_7 (by decide +kernel) (by decide +kernel) (by decide +kernel) (by decide) ?_
  refine lv_aload_n hx hb dX4_ofSlab_59 rfl (lv_at hl 0 rfl) ?_
  refine g_getN S hE hI (C := RX2) (T := TX2) (N := 7) (ref := "StonecutterYard$Slab") (host := "StonecutterYard") (fun w h => (List.mem_cons_of_mem _ (List.mem_append_left _ (List.mem_append_left _ (List.mem_append_left _ (List.mem_append_left _ (List.mem_append_right _ h))))))) hsl rfl 5 (by decide) (List.mem_of_getElem? (i := 2) rfl) (fun _ h9 => h9) (v := .int (nI ((sL (yS y i)).length))) rfl dX4_ofSlab_60 ?_
  exact g_iret S hI hr hlocks (Nat.zero_le _) (Nat.zero_le _) dX4_ofSlab_63 (by rw [ho]; exact ⟨rfl, rfl, hy0, AgY.rf⟩)
set_option maxHeartbeats 4000000 in
set_option maxRecDepth 100000 in
/-- ofSlab 4 -/
theorem c_ofSlab4 (l : Launch) (K : gK) (G : gW) (L1 L2 : Nat → Nat → Nat) (M : Nat → Nat) (hy : Nat) (y : YV) (i : Nat) (hlS : l.stackTraces = false) (hy0 : YardC K L1 L2 M hy G y) (hi : i < ySc y) : gM l yX4_ofSlab wsX4_ofSlab 4 83 0 0 K [.ref hy, .int (nI i), .int (nI 4)] G (oPost K L1 L2 M hy G (oOfSlab y (nI i) (nI 4))) (oX K L1 L2 M hy G (oOfSlab y (nI i) (nI 4)) (ex2 eIO eIA)) := by
  refine gM.of (cc := cX4_ofSlab) (maxL := 4) (ret := (some .int)) (by decide) rfl (Nat.le_of_ble_eq_true rfl) ?_
  intro p e s m below meth c A S hr hlocks htab hname hE hA hI ls hl
  have hx := S.1
  have hb := S.2.1
  have hml := S.2.2.1
  have hl : lv_has ls 4 [(0, .ref hy), (1, .int (nI i)), (2, .int (nI 4))] := hl
  have hs := hy0.2.1
  have hy9 := hy0.1
  have h44 := hs.1.2.2.2.1
  have h6 := hs.1.2.2.2.2.1
  have hf2 := hs.1.2.2.2.2.2
  have hc40 := hy0.2.2.2.2
  have hri : inR (nI i) (ySc y) = true := inR_nI hi (by omega)
  have hiN : iN (nI i) = i := iN_nI (by omega)
  obtain ⟨P, hsl, hpt, hpk, hsok⟩ := hs.slab hi
  have hsok9 := hsok
  obtain ⟨s1, s2, s3, s4, s5, s6, s7, s8⟩ := hsok9
  have ho : oOfSlab y (nI i) (nI 4) = (0, sOf (yS y i) 4, y) := by unfold oOfSlab; rw [if_pos hri, if_pos (by decide), hiN, iN_nI (by decide)]
  obtain ⟨H, hHe⟩ : ∃ z, z = s.heap := ⟨_, rfl⟩
  obtain ⟨locs, hLe⟩ : ∃ z : List Loc, z = [] := ⟨_, rfl⟩
  rw [← hHe, ← hLe]
  have hI : gI K A s G H locs := by rw [hHe, hLe]; exact hI
  clear hHe hLe
  refine lv_aload_n hx hb dX4_ofSlab_0 rfl (lv_at hl 0 rfl) ?_
  refine lv_iload_n hx hb dX4_ofSlab_1 rfl (lv_at hl 1 rfl) ?_
  refine g_callV (As := [.int (nI i)]) (rest := []) (b := hy) (n := 1) S hE hI hA (c_slabOfIn l K _ L1 L2 M hy y i hlS hy0 hi) gX4_ofSlab_X4_slabOf rfl (by decide +kernel) ⟨Nat.le_of_ble_eq_true rfl, Nat.le_of_ble_eq_true rfl⟩ (g_hro hE hI hy9 rfl) rfl hl.1 rfl (Nat.le_of_ble_eq_true rfl) dX4_ofSlab_2 ⟨Nat.le_of_ble_eq_true rfl, Nat.le_of_ble_eq_true rfl⟩ (fun E ce q9 Gx H locs hx9 hI hce hcv hcl => ?_) (fun rv Gc_2 H locs hp hI => ?_)
  · skip
    exact hx9.elim
  obtain ⟨rfl, hq9⟩ := hp
  rw [hq9] at hI
  refine W.eq (g2 := F0 m 5 ls [.ref (L1 3 i)]) rfl ?_
  refine lv_astore_n (lv' := [(3, .ref (L1 3 i)), (0, .ref hy), (1, .int (nI i)), (2, .int (nI 4))]) hx hb dX4_ofSlab_5 rfl hl (by decide) rfl (fun ls hl => ?_)
  refine lv_iload_n hx hb dX4_ofSlab_6 rfl (lv_at hl 3 rfl) ?_
  refine lv_tableIn (tgt := 64) (off := 57) hx hb dX4_ofSlab_7 (by decide +kernel) (by decide +kernel) (by decide +kernel) (by decide) ?_
  refine lv_aload_n hx hb dX4_ofSlab_64 rfl (lv_at hl 0 rfl) ?_
  refine g_getN S hE hI (C := RX2) (T := TX2) (N := 7) (ref := "StonecutterYard$Slab") (host := "StonecutterYard") (fun w h => (List.mem_cons_of_mem _ (List.mem_append_left _ (List.mem_append_left _ (List.mem_append_left _ (List.mem_append_left _ (List.mem_append_right _ h))))))) hsl rfl 3 (by decide) (List.mem_of_getElem? (i := 6) rfl) (fun _ h9 => h9) (v := .int (sF (yS y i))) rfl dX4_ofSlab_65 ?_
  exact g_iret S hI hr hlocks (Nat.zero_le _) (Nat.zero_le _) dX4_ofSlab_68 (by rw [ho]; exact ⟨rfl, rfl, hy0, AgY.rf⟩)
set_option maxHeartbeats 4000000 in
set_option maxRecDepth 100000 in
/-- ofSlab 5 -/
theorem c_ofSlab5 (l : Launch) (K : gK) (G : gW) (L1 L2 : Nat → Nat → Nat) (M : Nat → Nat) (hy : Nat) (y : YV) (i : Nat) (hlS : l.stackTraces = false) (hy0 : YardC K L1 L2 M hy G y) (hi : i < ySc y) : gM l yX4_ofSlab wsX4_ofSlab 4 83 0 0 K [.ref hy, .int (nI i), .int (nI 5)] G (oPost K L1 L2 M hy G (oOfSlab y (nI i) (nI 5))) (oX K L1 L2 M hy G (oOfSlab y (nI i) (nI 5)) (ex2 eIO eIA)) := by
  refine gM.of (cc := cX4_ofSlab) (maxL := 4) (ret := (some .int)) (by decide) rfl (Nat.le_of_ble_eq_true rfl) ?_
  intro p e s m below meth c A S hr hlocks htab hname hE hA hI ls hl
  have hx := S.1
  have hb := S.2.1
  have hml := S.2.2.1
  have hl : lv_has ls 4 [(0, .ref hy), (1, .int (nI i)), (2, .int (nI 5))] := hl
  have hs := hy0.2.1
  have hy9 := hy0.1
  have h44 := hs.1.2.2.2.1
  have h6 := hs.1.2.2.2.2.1
  have hf2 := hs.1.2.2.2.2.2
  have hc40 := hy0.2.2.2.2
  have hri : inR (nI i) (ySc y) = true := inR_nI hi (by omega)
  have hiN : iN (nI i) = i := iN_nI (by omega)
  obtain ⟨P, hsl, hpt, hpk, hsok⟩ := hs.slab hi
  have hsok9 := hsok
  obtain ⟨s1, s2, s3, s4, s5, s6, s7, s8⟩ := hsok9
  have ho : oOfSlab y (nI i) (nI 5) = (0, sOf (yS y i) 5, y) := by unfold oOfSlab; rw [if_pos hri, if_pos (by decide), hiN, iN_nI (by decide)]
  obtain ⟨H, hHe⟩ : ∃ z, z = s.heap := ⟨_, rfl⟩
  obtain ⟨locs, hLe⟩ : ∃ z : List Loc, z = [] := ⟨_, rfl⟩
  rw [← hHe, ← hLe]
  have hI : gI K A s G H locs := by rw [hHe, hLe]; exact hI
  clear hHe hLe
  refine lv_aload_n hx hb dX4_ofSlab_0 rfl (lv_at hl 0 rfl) ?_
  refine lv_iload_n hx hb dX4_ofSlab_1 rfl (lv_at hl 1 rfl) ?_
  refine g_callV (As := [.int (nI i)]) (rest := []) (b := hy) (n := 1) S hE hI hA (c_slabOfIn l K _ L1 L2 M hy y i hlS hy0 hi) gX4_ofSlab_X4_slabOf rfl (by decide +kernel) ⟨Nat.le_of_ble_eq_true rfl, Nat.le_of_ble_eq_true rfl⟩ (g_hro hE hI hy9 rfl) rfl hl.1 rfl (Nat.le_of_ble_eq_true rfl) dX4_ofSlab_2 ⟨Nat.le_of_ble_eq_true rfl, Nat.le_of_ble_eq_true rfl⟩ (fun E ce q9 Gx H locs hx9 hI hce hcv hcl => ?_) (fun rv Gc_2 H locs hp hI => ?_)
  · skip
    exact hx9.elim
  obtain ⟨rfl, hq9⟩ := hp
  rw [hq9] at hI
  refine W.eq (g2 := F0 m 5 ls [.ref (L1 3 i)]) rfl ?_
  refine lv_astore_n (lv' := [(3, .ref (L1 3 i)), (0, .ref hy), (1, .int (nI i)), (2, .int (nI 5))]) hx hb dX4_ofSlab_5 rfl hl (by decide) rfl (fun ls hl => ?_)
  refine lv_iload_n hx hb dX4_ofSlab_6 rfl (lv_at hl 3 rfl) ?_
  refine lv_tableIn (tgt := 69) (off := 62) hx hb dX4_ofSlab_7 (by decide +kernel) (by decide +kernel) (by decide +kernel) (by decide) ?_
  refine lv_aload_n hx hb dX4_ofSlab_69 rfl (lv_at hl 0 rfl) ?_
  refine g_getN S hE hI (C := RX2) (T := TX2) (N := 7) (ref := "StonecutterYard$Slab") (host := "StonecutterYard") (fun w h => (List.mem_cons_of_mem _ (List.mem_append_left _ (List.mem_append_left _ (List.mem_append_left _ (List.mem_append_left _ (List.mem_append_right _ h))))))) hsl rfl 4 (by decide) (List.mem_of_getElem? (i := 1) rfl) (fun _ h9 => h9) (v := .int (nI (sT (yS y i)))) rfl dX4_ofSlab_70 ?_
  exact g_iret S hI hr hlocks (Nat.zero_le _) (Nat.zero_le _) dX4_ofSlab_73 (by rw [ho]; exact ⟨rfl, rfl, hy0, AgY.rf⟩)
set_option maxHeartbeats 4000000 in
set_option maxRecDepth 100000 in
/-- ofKind 0 -/
theorem c_ofKind0 (l : Launch) (K : gK) (G : gW) (L1 L2 : Nat → Nat → Nat) (M : Nat → Nat) (hy : Nat) (y : YV) (i : Nat) (hlS : l.stackTraces = false) (hy0 : YardC K L1 L2 M hy G y) (hi : i < yKc y) : gM l yX4_ofKind wsX4_ofKind 4 83 0 0 K [.ref hy, .int (nI i), .int (nI 0)] G (oPost K L1 L2 M hy G (oOfKind y (nI i) (nI 0))) (oX K L1 L2 M hy G (oOfKind y (nI i) (nI 0)) (ex2 eIO eIA)) := by
  refine gM.of (cc := cX4_ofKind) (maxL := 4) (ret := (some .int)) (by decide) rfl (Nat.le_of_ble_eq_true rfl) ?_
  intro p e s m below meth c A S hr hlocks htab hname hE hA hI ls hl
  have hx := S.1
  have hb := S.2.1
  have hml := S.2.2.1
  have hl : lv_has ls 4 [(0, .ref hy), (1, .int (nI i)), (2, .int (nI 0))] := hl
  have hs := hy0.2.1
  have hy9 := hy0.1
  have h44 := hs.1.2.2.2.1
  have h6 := hs.1.2.2.2.2.1
  have hf2 := hs.1.2.2.2.2.2
  have hc40 := hy0.2.2.2.2
  have hri : inR (nI i) (yKc y) = true := inR_nI hi (by omega)
  have hiN : iN (nI i) = i := iN_nI (by omega)
  obtain ⟨hkd, hkok⟩ := hs.kind hi
  have hkok9 := hkok
  obtain ⟨k1, k2, k3, k4, k5, k6, k7, k8, k9⟩ := hkok9
  have ho : oOfKind y (nI i) (nI 0) = (0, kOf (yK y i) 0, y) := by unfold oOfKind; rw [if_pos hri, if_pos (by decide), hiN, iN_nI (by decide)]
  obtain ⟨H, hHe⟩ : ∃ z, z = s.heap := ⟨_, rfl⟩
  obtain ⟨locs, hLe⟩ : ∃ z : List Loc, z = [] := ⟨_, rfl⟩
  rw [← hHe, ← hLe]
  have hI : gI K A s G H locs := by rw [hHe, hLe]; exact hI
  clear hHe hLe
  refine lv_aload_n hx hb dX4_ofKind_0 rfl (lv_at hl 0 rfl) ?_
  refine lv_iload_n hx hb dX4_ofKind_1 rfl (lv_at hl 1 rfl) ?_
  refine g_callV (As := [.int (nI i)]) (rest := []) (b := hy) (n := 1) S hE hI hA (c_kindOfIn l K _ L1 L2 M hy y i hlS hy0 hi) gX4_ofKind_X4_kindOf rfl (by decide +kernel) ⟨Nat.le_of_ble_eq_true rfl, Nat.le_of_ble_eq_true rfl⟩ (g_hro hE hI hy9 rfl) rfl hl.1 rfl (Nat.le_of_ble_eq_true rfl) dX4_ofKind_2 ⟨Nat.le_of_ble_eq_true rfl, Nat.le_of_ble_eq_true rfl⟩ (fun E ce q9 Gx H locs hx9 hI hce hcv hcl => ?_) (fun rv Gc_2 H locs hp hI => ?_)
  · skip
    exact hx9.elim
  obtain ⟨rfl, hq9⟩ := hp
  rw [hq9] at hI
  refine W.eq (g2 := F0 m 5 ls [.ref (L1 5 i)]) rfl ?_
  refine lv_astore_n (lv' := [(3, .ref (L1 5 i)), (0, .ref hy), (1, .int (nI i)), (2, .int (nI 0))]) hx hb dX4_ofKind_5 rfl hl (by decide) rfl (fun ls hl => ?_)
  refine lv_iload_n hx hb dX4_ofKind_6 rfl (lv_at hl 3 rfl) ?_
  refine lv_tableIn (tgt := 52) (off := 45) hx hb dX4_ofKind_7 (by decide +kernel) (by decide +kernel) (by decide +kernel) (by decide) ?_
  refine lv_aload_n hx hb dX4_ofKind_52 rfl (lv_at hl 0 rfl) ?_
  refine g_getN S hE hI (C := RX0) (T := TX0) (N := 8) (ref := "StonecutterYard$Kind") (host := "StonecutterYard") (fun w h => (List.mem_cons_of_mem _ (List.mem_append_left _ (List.mem_append_left _ (List.mem_append_left _ (List.mem_append_left _ (List.mem_append_right _ h))))))) hkd rfl 0 (by decide) (List.mem_of_getElem? (i := 11) rfl) (fun _ h9 => h9) (v := .int (nI (kL (yK y i)))) rfl dX4_ofKind_53 ?_
  exact g_iret S hI hr hlocks (Nat.zero_le _) (Nat.zero_le _) dX4_ofKind_56 (by rw [ho]; exact ⟨rfl, rfl, hy0, AgY.rf⟩)
set_option maxHeartbeats 4000000 in
set_option maxRecDepth 100000 in
/-- ofKind 1 -/
theorem c_ofKind1 (l : Launch) (K : gK) (G : gW) (L1 L2 : Nat → Nat → Nat) (M : Nat → Nat) (hy : Nat) (y : YV) (i : Nat) (hlS : l.stackTraces = false) (hy0 : YardC K L1 L2 M hy G y) (hi : i < yKc y) : gM l yX4_ofKind wsX4_ofKind 4 83 0 0 K [.ref hy, .int (nI i), .int (nI 1)] G (oPost K L1 L2 M hy G (oOfKind y (nI i) (nI 1))) (oX K L1 L2 M hy G (oOfKind y (nI i) (nI 1)) (ex2 eIO eIA)) := by
  refine gM.of (cc := cX4_ofKind) (maxL := 4) (ret := (some .int)) (by decide) rfl (Nat.le_of_ble_eq_true rfl) ?_
  intro p e s m below meth c A S hr hlocks htab hname hE hA hI ls hl
  have hx := S.1
  have hb := S.2.1
  have hml := S.2.2.1
  have hl : lv_has ls 4 [(0, .ref hy), (1, .int (nI i)), (2, .int (nI 1))] := hl
  have hs := hy0.2.1
  have hy9 := hy0.1
  have h44 := hs.1.2.2.2.1
  have h6 := hs.1.2.2.2.2.1
  have hf2 := hs.1.2.2.2.2.2
  have hc40 := hy0.2.2.2.2
  have hri : inR (nI i) (yKc y) = true := inR_nI hi (by omega)
  have hiN : iN (nI i) = i := iN_nI (by omega)
  obtain ⟨hkd, hkok⟩ := hs.kind hi
  have hkok9 := hkok
  obtain ⟨k1, k2, k3, k4, k5, k6, k7, k8, k9⟩ := hkok9
  have ho : oOfKind y (nI i) (nI 1) = (0, kOf (yK y i) 1, y) := by unfold oOfKind; rw [if_pos hri, if_pos (by decide), hiN, iN_nI (by decide)]
  obtain ⟨H, hHe⟩ : ∃ z, z = s.heap := ⟨_, rfl⟩
  obtain ⟨locs, hLe⟩ : ∃ z : List Loc, z = [] := ⟨_, rfl⟩
  rw [← hHe, ← hLe]
  have hI : gI K A s G H locs := by rw [hHe, hLe]; exact hI
  clear hHe hLe
  refine lv_aload_n hx hb dX4_ofKind_0 rfl (lv_at hl 0 rfl) ?_
  refine lv_iload_n hx hb dX4_ofKind_1 rfl (lv_at hl 1 rfl) ?_
  refine g_callV (As := [.int (nI i)]) (rest := []) (b := hy) (n := 1) S hE hI hA (c_kindOfIn l K _ L1 L2 M hy y i hlS hy0 hi) gX4_ofKind_X4_kindOf rfl (by decide +kernel) ⟨Nat.le_of_ble_eq_true rfl, Nat.le_of_ble_eq_true rfl⟩ (g_hro hE hI hy9 rfl) rfl hl.1 rfl (Nat.le_of_ble_eq_true rfl) dX4_ofKind_2 ⟨Nat.le_of_ble_eq_true rfl, Nat.le_of_ble_eq_true rfl⟩ (fun E ce q9 Gx H locs hx9 hI hce hcv hcl => ?_) (fun rv Gc_2 H locs hp hI => ?_)
  · skip
    exact hx9.elim
  obtain ⟨rfl, hq9⟩ := hp
  rw [hq9] at hI
  refine W.eq (g2 := F0 m 5 ls [.ref (L1 5 i)]) rfl ?_
  refine lv_astore_n (lv' := [(3, .ref (L1 5 i)), (0, .ref hy), (1, .int (nI i)), (2, .int (nI 1))]) hx hb dX4_ofKind_5 rfl hl (by decide) rfl (fun ls hl => ?_)
  refine lv_iload_n hx hb dX4_ofKind_6 rfl (lv_at hl 3 rfl) ?_
  refine lv_tableIn (tgt := 57) (off := 50) hx hb dX4_ofKind_7 (by decide +kernel) (by decide +kernel) (by decide +kernel) (by decide) ?_
  refine lv_aload_n hx hb dX4_ofKind_57 rfl (lv_at hl 0 rfl) ?_
  refine g_getN S hE hI (C := RX0) (T := TX0) (N := 8) (ref := "StonecutterYard$Kind") (host := "StonecutterYard") (fun w h => (List.mem_cons_of_mem _ (List.mem_append_left _ (List.mem_append_left _ (List.mem_append_left _ (List.mem_append_left _ (List.mem_append_right _ h))))))) hkd rfl 1 (by decide) (List.mem_of_getElem? (i := 12) rfl) (fun _ h9 => h9) (v := .int (nI (kB (yK y i)))) rfl dX4_ofKind_58 ?_
  exact g_iret S hI hr hlocks (Nat.zero_le _) (Nat.zero_le _) dX4_ofKind_61 (by rw [ho]; exact ⟨rfl, rfl, hy0, AgY.rf⟩)
set_option maxHeartbeats 4000000 in
set_option maxRecDepth 100000 in
/-- ofKind 2 -/
theorem c_ofKind2 (l : Launch) (K : gK) (G : gW) (L1 L2 : Nat → Nat → Nat) (M : Nat → Nat) (hy : Nat) (y : YV) (i : Nat) (hlS : l.stackTraces = false) (hy0 : YardC K L1 L2 M hy G y) (hi : i < yKc y) : gM l yX4_ofKind wsX4_ofKind 4 83 0 0 K [.ref hy, .int (nI i), .int (nI 2)] G (oPost K L1 L2 M hy G (oOfKind y (nI i) (nI 2))) (oX K L1 L2 M hy G (oOfKind y (nI i) (nI 2)) (ex2 eIO eIA)) := by
  refine gM.of (cc := cX4_ofKind) (maxL := 4) (ret := (some .int)) (by decide) rfl (Nat.le_of_ble_eq_true rfl) ?_
  intro p e s m below meth c A S hr hlocks htab hname hE hA hI ls hl
  have hx := S.1
  have hb := S.2.1
  have hml := S.2.2.1
  have hl : lv_has ls 4 [(0, .ref hy), (1, .int (nI i)), (2, .int (nI 2))] := hl
  have hs := hy0.2.1
  have hy9 := hy0.1
  have h44 := hs.1.2.2.2.1
  have h6 := hs.1.2.2.2.2.1
  have hf2 := hs.1.2.2.2.2.2
  have hc40 := hy0.2.2.2.2
  have hri : inR (nI i) (yKc y) = true := inR_nI hi (by omega)
  have hiN : iN (nI i) = i := iN_nI (by omega)
  obtain ⟨hkd, hkok⟩ := hs.kind hi
  have hkok9 := hkok
  obtain ⟨k1, k2, k3, k4, k5, k6, k7, k8, k9⟩ := hkok9
  have ho : oOfKind y (nI i) (nI 2) = (0, kOf (yK y i) 2, y) := by unfold oOfKind; rw [if_pos hri, if_pos (by decide), hiN, iN_nI (by decide)]
  obtain ⟨H, hHe⟩ : ∃ z, z = s.heap := ⟨_, rfl⟩
  obtain ⟨locs, hLe⟩ : ∃ z : List Loc, z = [] := ⟨_, rfl⟩
  rw [← hHe, ← hLe]
  have hI : gI K A s G H locs := by rw [hHe, hLe]; exact hI
  clear hHe hLe
  refine lv_aload_n hx hb dX4_ofKind_0 rfl (lv_at hl 0 rfl) ?_
  refine lv_iload_n hx hb dX4_ofKind_1 rfl (lv_at hl 1 rfl) ?_
  refine g_callV (As := [.int (nI i)]) (rest := []) (b := hy) (n := 1) S hE hI hA (c_kindOfIn l K _ L1 L2 M hy y i hlS hy0 hi) gX4_ofKind_X4_kindOf rfl (by decide +kernel) ⟨Nat.le_of_ble_eq_true rfl, Nat.le_of_ble_eq_true rfl⟩ (g_hro hE hI hy9 rfl) rfl hl.1 rfl (Nat.le_of_ble_eq_true rfl) dX4_ofKind_2 ⟨Nat.le_of_ble_eq_true rfl, Nat.le_of_ble_eq_true rfl⟩ (fun E ce q9 Gx H locs hx9 hI hce hcv hcl => ?_) (fun rv Gc_2 H locs hp hI => ?_)
  · skip
    exact hx9.elim
  obtain ⟨rfl, hq9⟩ := hp
  rw [hq9] at hI
  refine W.eq (g2 := F0 m 5 ls [.ref (L1 5 i)]) rfl ?_
  refine lv_astore_n (lv' := [(3, .ref (L1 5 i)), (0, .ref hy), (1, .int (nI i)), (2, .int (nI 2))]) hx hb dX4_ofKind_5 rfl hl (by decide) rfl (fun ls hl => ?_)
  refine lv_iload_n hx hb dX4_ofKind_6 rfl (lv_at hl 3 rfl) ?_
  refine lv_tableIn (tgt := 62) (off := 55) hx hb dX4_ofKind_7 (by decide +kernel) (by decide +kernel) (by decide +kernel) (by decide) ?_
  refine lv_aload_n hx hb dX4_ofKind_62 rfl (lv_at hl 0 rfl) ?_
  refine g_getN S hE hI (C := RX0) (T := TX0) (N := 8) (ref := "StonecutterYard$Kind") (host := "StonecutterYard") (fun w h => (List.mem_cons_of_mem _ (List.mem_append_left _ (List.mem_append_left _ (List.mem_append_left _ (List.mem_append_left _ (List.mem_append_right _ h))))))) hkd rfl 2 (by decide) (List.mem_of_getElem? (i := 8) rfl) (fun _ h9 => h9) (v := .int (nI (kW (yK y i)))) rfl dX4_ofKind_63 ?_
  exact g_iret S hI hr hlocks (Nat.zero_le _) (Nat.zero_le _) dX4_ofKind_66 (by rw [ho]; exact ⟨rfl, rfl, hy0, AgY.rf⟩)
set_option maxHeartbeats 4000000 in
set_option maxRecDepth 100000 in
/-- ofKind 3 -/
theorem c_ofKind3 (l : Launch) (K : gK) (G : gW) (L1 L2 : Nat → Nat → Nat) (M : Nat → Nat) (hy : Nat) (y : YV) (i : Nat) (hlS : l.stackTraces = false) (hy0 : YardC K L1 L2 M hy G y) (hi : i < yKc y) : gM l yX4_ofKind wsX4_ofKind 4 83 0 0 K [.ref hy, .int (nI i), .int (nI 3)] G (oPost K L1 L2 M hy G (oOfKind y (nI i) (nI 3))) (oX K L1 L2 M hy G (oOfKind y (nI i) (nI 3)) (ex2 eIO eIA)) := by
  refine gM.of (cc := cX4_ofKind) (maxL := 4) (ret := (some .int)) (by decide) rfl (Nat.le_of_ble_eq_true rfl) ?_
  intro p e s m below meth c A S hr hlocks htab hname hE hA hI ls hl
  have hx := S.1
  have hb := S.2.1
  have hml := S.2.2.1
  have hl : lv_has ls 4 [(0, .ref hy), (1, .int (nI i)), (2, .int (nI 3))] := hl
  have hs := hy0.2.1
  have hy9 := hy0.1
  have h44 := hs.1.2.2.2.1
  have h6 := hs.1.2.2.2.2.1
  have hf2 := hs.1.2.2.2.2.2
  have hc40 := hy0.2.2.2.2
  have hri : inR (nI i) (yKc y) = true := inR_nI hi (by omega)
  have hiN : iN (nI i) = i := iN_nI (by omega)
  obtain ⟨hkd, hkok⟩ := hs.kind hi
  have hkok9 := hkok
  obtain ⟨k1, k2, k3, k4, k5, k6, k7, k8, k9⟩ := hkok9
  have ho : oOfKind y (nI i) (nI 3) = (0, kOf (yK y i) 3, y) := by unfold oOfKind; rw [if_pos hri, if_pos (by decide), hiN, iN_nI (by decide)]
  obtain ⟨H, hHe⟩ : ∃ z, z = s.heap := ⟨_, rfl⟩
  obtain ⟨locs, hLe⟩ : ∃ z : List Loc, z = [] := ⟨_, rfl⟩
  rw [← hHe, ← hLe]
  have hI : gI K A s G H locs := by rw [hHe, hLe]; exact hI
  clear hHe hLe
  refine lv_aload_n hx hb dX4_ofKind_0 rfl (lv_at hl 0 rfl) ?_
  refine lv_iload_n hx hb dX4_ofKind_1 rfl (lv_at hl 1 rfl) ?_
  refine g_callV (As := [.int (nI i)]) (rest := []) (b := hy) (n := 1) S hE hI hA (c_kindOfIn l K _ L1 L2 M hy y i hlS hy0 hi) gX4_ofKind_X4_kindOf rfl (by decide +kernel) ⟨Nat.le_of_ble_eq_true rfl, Nat.le_of_ble_eq_true rfl⟩ (g_hro hE hI hy9 rfl) rfl hl.1 rfl (Nat.le_of_ble_eq_true rfl) dX4_ofKind_2 ⟨Nat.le_of_ble_eq_true rfl, Nat.le_of_ble_eq_true rfl⟩ (fun E ce q9 Gx H locs hx9 hI hce hcv hcl => ?_) (fun rv Gc_2 H locs hp hI => ?_)
  · skip
    exact hx9.elim
  obtain ⟨rfl, hq9⟩ := hp
  rw [hq9] at hI
  refine W.eq (g2 := F0 m 5 ls [.ref (L1 5 i)]) rfl ?_
  refine lv_astore_n (lv' := [(3, .ref (L1 5 i)), (0, .ref hy), (1, .int (nI i)), (2, .int (nI 3))]) hx hb dX4_ofKind_5 rfl hl (by decide) rfl (fun ls hl => ?_)
  refine lv_iload_n hx hb dX4_ofKind_6 rfl (lv_at hl 3 rfl) ?_
  refine lv_tableIn (tgt := 67) (off := 60) hx hb dX4_ofKind_7 (by decide +kernel) (by decide +kernel) (by decide +kernel) (by decide) ?_
  refine lv_aload_n hx hb dX4_ofKind_67 rfl (lv_at hl 0 rfl) ?_
  refine g_getN S hE hI (C := RX0) (T := TX0) (N := 8) (ref := "StonecutterYard$Kind") (host := "StonecutterYard") (fun w h => (List.mem_cons_of_mem _ (List.mem_append_left _ (List.mem_append_left _ (List.mem_append_left _ (List.mem_append_left _ (List.mem_append_right _ h))))))) hkd rfl 3 (by decide) (List.mem_of_getElem? (i := 9) rfl) (fun _ h9 => h9) (v := .int (nI (kF (yK y i)))) rfl dX4_ofKind_68 ?_
  exact g_iret S hI hr hlocks (Nat.zero_le _) (Nat.zero_le _) dX4_ofKind_71 (by rw [ho]; exact ⟨rfl, rfl, hy0, AgY.rf⟩)
set_option maxHeartbeats 4000000 in
set_option maxRecDepth 100000 in
/-- ofKind 4 -/
theorem c_ofKind4 (l : Launch) (K : gK) (G : gW) (L1 L2 : Nat → Nat → Nat) (M : Nat → Nat) (hy : Nat) (y : YV) (i : Nat) (hlS : l.stackTraces = false) (hy0 : YardC K L1 L2 M hy G y) (hi : i < yKc y) : gM l yX4_ofKind wsX4_ofKind 4 83 0 0 K [.ref hy, .int (nI i), .int (nI 4)] G (oPost K L1 L2 M hy G (oOfKind y (nI i) (nI 4))) (oX K L1 L2 M hy G (oOfKind y (nI i) (nI 4)) (ex2 eIO eIA)) := by
  refine gM.of (cc := cX4_ofKind) (maxL := 4) (ret := (some .int)) (by decide) rfl (Nat.le_of_ble_eq_true rfl) ?_
  intro p e s m below meth c A S hr hlocks htab hname hE hA hI ls hl
  have hx := S.1
  have hb := S.2.1
  have hml := S.2.2.1
  have hl : lv_has ls 4 [(0, .ref hy), (1, .int (nI i)), (2, .int (nI 4))] := hl
  have hs := hy0.2.1
  have hy9 := hy0.1
  have h44 := hs.1.2.2.2.1
  have h6 := hs.1.2.2.2.2.1
  have hf2 := hs.1.2.2.2.2.2
  have hc40 := hy0.2.2.2.2
  have hri : inR (nI i) (yKc y) = true := inR_nI hi (by omega)
  have hiN : iN (nI i) = i := iN_nI (by omega)
  obtain ⟨hkd, hkok⟩ := hs.kind hi
  have hkok9 := hkok
  obtain ⟨k1, k2, k3, k4, k5, k6, k7, k8, k9⟩ := hkok9
  have ho : oOfKind y (nI i) (nI 4) = (0, kOf (yK y i) 4, y) := by unfold oOfKind; rw [if_pos hri, if_pos (by decide), hiN, iN_nI (by decide)]
  obtain ⟨H, hHe⟩ : ∃ z, z = s.heap := ⟨_, rfl⟩
  obtain ⟨locs, hLe⟩ : ∃ z : List Loc, z = [] := ⟨_, rfl⟩
  rw [← hHe, ← hLe]
  have hI : gI K A s G H locs := by rw [hHe, hLe]; exact hI
  clear hHe hLe
  refine lv_aload_n hx hb dX4_ofKind_0 rfl (lv_at hl 0 rfl) ?_
  refine lv_iload_n hx hb dX4_ofKind_1 rfl (lv_at hl 1 rfl) ?_
  refine g_callV (As := [.int (nI i)]) (rest := []) (b := hy) (n := 1) S hE hI hA (c_kindOfIn l K _ L1 L2 M hy y i hlS hy0 hi) gX4_ofKind_X4_kindOf rfl (by decide +kernel) ⟨Nat.le_of_ble_eq_true rfl, Nat.le_of_ble_eq_true rfl⟩ (g_hro hE hI hy9 rfl) rfl hl.1 rfl (Nat.le_of_ble_eq_true rfl) dX4_ofKind_2 ⟨Nat.le_of_ble_eq_true rfl, Nat.le_of_ble_eq_true rfl⟩ (fun E ce q9 Gx H locs hx9 hI hce hcv hcl => ?_) (fun rv Gc_2 H locs hp hI => ?_)
  · skip
    exact hx9.elim
  obtain ⟨rfl, hq9⟩ := hp
  rw [hq9] at hI
  refine W.eq (g2 := F0 m 5 ls [.ref (L1 5 i)]) rfl ?_
  refine lv_astore_n (lv' := [(3, .ref (L1 5 i)), (0, .ref hy), (1, .int (nI i)), (2, .int (nI 4))]) hx hb dX4_ofKind_5 rfl hl (by decide) rfl (fun ls hl => ?_)
  refine lv_iload_n hx hb dX4_ofKind_6 rfl (lv_at hl 3 rfl) ?_
  refine lv_tableIn (tgt := 72) (off := 65) hx hb dX4_ofKind_7 (by decide +kernel) (by decide +kernel) (by decide +kernel) (by decide) ?_
  refine lv_aload_n hx hb dX4_ofKind_72 rfl (lv_at hl 0 rfl) ?_
  refine g_getN S hE hI (C := RX0) (T := TX0) (N := 8) (ref := "StonecutterYard$Kind") (host := "StonecutterYard") (fun w h => (List.mem_cons_of_mem _ (List.mem_append_left _ (List.mem_append_left _ (List.mem_append_left _ (List.mem_append_left _ (List.mem_append_right _ h))))))) hkd rfl 4 (by decide) (List.mem_of_getElem? (i := 13) rfl) (fun _ h9 => h9) (v := .int (nI (kP (yK y i)))) rfl dX4_ofKind_73 ?_
  exact g_iret S hI hr hlocks (Nat.zero_le _) (Nat.zero_le _) dX4_ofKind_76 (by rw [ho]; exact ⟨rfl, rfl, hy0, AgY.rf⟩)
set_option maxHeartbeats 4000000 in
set_option maxRecDepth 100000 in
/-- ofKind 5 -/
theorem c_ofKind5 (l : Launch) (K : gK) (G : gW) (L1 L2 : Nat → Nat → Nat) (M : Nat → Nat) (hy : Nat) (y : YV) (i : Nat) (hlS : l.stackTraces = false) (hy0 : YardC K L1 L2 M hy G y) (hi : i < yKc y) : gM l yX4_ofKind wsX4_ofKind 4 83 0 0 K [.ref hy, .int (nI i), .int (nI 5)] G (oPost K L1 L2 M hy G (oOfKind y (nI i) (nI 5))) (oX K L1 L2 M hy G (oOfKind y (nI i) (nI 5)) (ex2 eIO eIA)) := by
  refine gM.of (cc := cX4_ofKind) (maxL := 4) (ret := (some .int)) (by decide) rfl (Nat.le_of_ble_eq_true rfl) ?_
  intro p e s m below meth c A S hr hlocks htab hname hE hA hI ls hl
  have hx := S.1
  have hb := S.2.1
  have hml := S.2.2.1
  have hl : lv_has ls 4 [(0, .ref hy), (1, .int (nI i)), (2, .int (nI 5))] := hl
  have hs := hy0.2.1
  have hy9 := hy0.1
  have h44 := hs.1.2.2.2.1
  have h6 := hs.1.2.2.2.2.1
  have hf2 := hs.1.2.2.2.2.2
  have hc40 := hy0.2.2.2.2
  have hri : inR (nI i) (yKc y) = true := inR_nI hi (by omega)
  have hiN : iN (nI i) = i := iN_nI (by omega)
  obtain ⟨hkd, hkok⟩ := hs.kind hi
  have hkok9 := hkok
  obtain ⟨k1, k2, k3, k4, k5, k6, k7, k8, k9⟩ := hkok9
  have ho : oOfKind y (nI i) (nI 5) = (0, kOf (yK y i) 5, y) := by unfold oOfKind; rw [if_pos hri, if_pos (by decide), hiN, iN_nI (by decide)]
  obtain ⟨H, hHe⟩ : ∃ z, z = s.heap := ⟨_, rfl⟩
  obtain ⟨locs, hLe⟩ : ∃ z : List Loc, z = [] := ⟨_, rfl⟩
  rw [← hHe, ← hLe]
  have hI : gI K A s G H locs := by rw [hHe, hLe]; exact hI
  clear hHe hLe
  refine lv_aload_n hx hb dX4_ofKind_0 rfl (lv_at hl 0 rfl) ?_
  refine lv_iload_n hx hb dX4_ofKind_1 rfl (lv_at hl 1 rfl) ?_
  refine g_callV (As := [.int (nI i)]) (rest := []) (b := hy) (n := 1) S hE hI hA (c_kindOfIn l K _ L1 L2 M hy y i hlS hy0 hi) gX4_ofKind_X4_kindOf rfl (by decide +kernel) ⟨Nat.le_of_ble_eq_true rfl, Nat.le_of_ble_eq_true rfl⟩ (g_hro hE hI hy9 rfl) rfl hl.1 rfl (Nat.le_of_ble_eq_true rfl) dX4_ofKind_2 ⟨Nat.le_of_ble_eq_true rfl, Nat.le_of_ble_eq_true rfl⟩ (fun E ce q9 Gx H locs hx9 hI hce hcv hcl => ?_) (fun rv Gc_2 H locs hp hI => ?_)
  · skip
    exact hx9.elim
  obtain ⟨rfl, hq9⟩ := hp
  rw [hq9] at hI
  refine W.eq (g2 := F0 m 5 ls [.ref (L1 5 i)]) rfl ?_
  refine lv_astore_n (lv' := [(3, .ref (L1 5 i)), (0, .ref hy), (1, .int (nI i)), (2, .int (nI 5))]) hx hb dX4_ofKind_5 rfl hl (by decide) rfl (fun ls hl => ?_)
  refine lv_iload_n hx hb dX4_ofKind_6 rfl (lv_at hl 3 rfl) ?_
  refine lv_tableIn (tgt := 77) (off := 70) hx hb dX4_ofKind_7 (by decide +kernel) (by decide +kernel) (by decide +kernel) (by decide) ?_
  refine lv_aload_n hx hb dX4_ofKind_77 rfl (lv_at hl 0 rfl) ?_
  refine g_getN S hE hI (C := RX0) (T := TX0) (N := 8) (ref := "StonecutterYard$Kind") (host := "StonecutterYard") (fun w h => (List.mem_cons_of_mem _ (List.mem_append_left _ (List.mem_append_left _ (List.mem_append_left _ (List.mem_append_left _ (List.mem_append_right _ h))))))) hkd rfl 5 (by decide) (List.mem_of_getElem? (i := 10) rfl) (fun _ h9 => h9) (v := .int (nI (kN (yK y i)))) rfl dX4_ofKind_78 ?_
  exact g_iret S hI hr hlocks (Nat.zero_le _) (Nat.zero_le _) dX4_ofKind_81 (by rw [ho]; exact ⟨rfl, rfl, hy0, AgY.rf⟩)
set_option maxHeartbeats 4000000 in
set_option maxRecDepth 100000 in
/-- ofKind 6 -/
theorem c_ofKind6 (l : Launch) (K : gK) (G : gW) (L1 L2 : Nat → Nat → Nat) (M : Nat → Nat) (hy : Nat) (y : YV) (i : Nat) (hlS : l.stackTraces = false) (hy0 : YardC K L1 L2 M hy G y) (hi : i < yKc y) : gM l yX4_ofKind wsX4_ofKind 4 83 0 0 K [.ref hy, .int (nI i), .int (nI 6)] G (oPost K L1 L2 M hy G (oOfKind y (nI i) (nI 6))) (oX K L1 L2 M hy G (oOfKind y (nI i) (nI 6)) (ex2 eIO eIA)) := by
  refine gM.of (cc := cX4_ofKind) (maxL := 4) (ret := (some .int)) (by decide) rfl (Nat.le_of_ble_eq_true rfl) ?_
  intro p e s m below meth c A S hr hlocks htab hname hE hA hI ls hl
  have hx := S.1
  have hb := S.2.1
  have hml := S.2.2.1
  have hl : lv_has ls 4 [(0, .ref hy), (1, .int (nI i)), (2, .int (nI 6))] := hl
  have hs := hy0.2.1
  have hy9 := hy0.1
  have h44 := hs.1.2.2.2.1
  have h6 := hs.1.2.2.2.2.1
  have hf2 := hs.1.2.2.2.2.2
  have hc40 := hy0.2.2.2.2
  have hri : inR (nI i) (yKc y) = true := inR_nI hi (by omega)
  have hiN : iN (nI i) = i := iN_nI (by omega)
  obtain ⟨hkd, hkok⟩ := hs.kind hi
  have hkok9 := hkok
  obtain ⟨k1, k2, k3, k4, k5, k6, k7, k8, k9⟩ := hkok9
  have ho : oOfKind y (nI i) (nI 6) = (0, kOf (yK y i) 6, y) := by unfold oOfKind; rw [if_pos hri, if_pos (by decide), hiN, iN_nI (by decide)]
  obtain ⟨H, hHe⟩ : ∃ z, z = s.heap := ⟨_, rfl⟩
  obtain ⟨locs, hLe⟩ : ∃ z : List Loc, z = [] := ⟨_, rfl⟩
  rw [← hHe, ← hLe]
  have hI : gI K A s G H locs := by rw [hHe, hLe]; exact hI
  clear hHe hLe
  refine lv_aload_n hx hb dX4_ofKind_0 rfl (lv_at hl 0 rfl) ?_
  refine lv_iload_n hx hb dX4_ofKind_1 rfl (lv_at hl 1 rfl) ?_
  refine g_callV (As := [.int (nI i)]) (rest := []) (b := hy) (n := 1) S hE hI hA (c_kindOfIn l K _ L1 L2 M hy y i hlS hy0 hi) gX4_ofKind_X4_kindOf rfl (by decide +kernel) ⟨Nat.le_of_ble_eq_true rfl, Nat.le_of_ble_eq_true rfl⟩ (g_hro hE hI hy9 rfl) rfl hl.1 rfl (Nat.le_of_ble_eq_true rfl) dX4_ofKind_2 ⟨Nat.le_of_ble_eq_true rfl, Nat.le_of_ble_eq_true rfl⟩ (fun E ce q9 Gx H locs hx9 hI hce hcv hcl => ?_) (fun rv Gc_2 H locs hp hI => ?_)
  · skip
    exact hx9.elim
  obtain ⟨rfl, hq9⟩ := hp
  rw [hq9] at hI
  refine W.eq (g2 := F0 m 5 ls [.ref (L1 5 i)]) rfl ?_
  refine lv_astore_n (lv' := [(3, .ref (L1 5 i)), (0, .ref hy), (1, .int (nI i)), (2, .int (nI 6))]) hx hb dX4_ofKind_5 rfl hl (by decide) rfl (fun ls hl => ?_)
  refine lv_iload_n hx hb dX4_ofKind_6 rfl (lv_at hl 3 rfl) ?_
  refine lv_tableIn (tgt := 82) (off := 75) hx hb dX4_ofKind_7 (by decide +kernel) (by decide +kernel) (by decide +kernel) (by decide) ?_
  refine lv_aload_n hx hb dX4_ofKind_82 rfl (lv_at hl 0 rfl) ?_
  refine g_getN S hE hI (C := RX0) (T := TX0) (N := 8) (ref := "StonecutterYard$Kind") (host := "StonecutterYard") (fun w h => (List.mem_cons_of_mem _ (List.mem_append_left _ (List.mem_append_left _ (List.mem_append_left _ (List.mem_append_left _ (List.mem_append_right _ h))))))) hkd rfl 6 (by decide) (List.mem_of_getElem? (i := 14) rfl) (fun _ h9 => h9) (v := .int (nI (kT (yK y i)))) rfl dX4_ofKind_83 ?_
  exact g_iret S hI hr hlocks (Nat.zero_le _) (Nat.zero_le _) dX4_ofKind_86 (by rw [ho]; exact ⟨rfl, rfl, hy0, AgY.rf⟩)
set_option maxHeartbeats 4000000 in
set_option maxRecDepth 100000 in
/-- ofKind 7 -/
theorem c_ofKind7 (l : Launch) (K : gK) (G : gW) (L1 L2 : Nat → Nat → Nat) (M : Nat → Nat) (hy : Nat) (y : YV) (i : Nat) (hlS : l.stackTraces = false) (hy0 : YardC K L1 L2 M hy G y) (hi : i < yKc y) : gM l yX4_ofKind wsX4_ofKind 4 83 0 0 K [.ref hy, .int (nI i), .int (nI 7)] G (oPost K L1 L2 M hy G (oOfKind y (nI i) (nI 7))) (oX K L1 L2 M hy G (oOfKind y (nI i) (nI 7)) (ex2 eIO eIA)) := by
  refine gM.of (cc := cX4_ofKind) (maxL := 4) (ret := (some .int)) (by decide) rfl (Nat.le_of_ble_eq_true rfl) ?_
  intro p e s m below meth c A S hr hlocks htab hname hE hA hI ls hl
  have hx := S.1
  have hb := S.2.1
  have hml := S.2.2.1
  have hl : lv_has ls 4 [(0, .ref hy), (1, .int (nI i)), (2, .int (nI 7))] := hl
  have hs := hy0.2.1
  have hy9 := hy0.1
  have h44 := hs.1.2.2.2.1
  have h6 := hs.1.2.2.2.2.1
  have hf2 := hs.1.2.2.2.2.2
  have hc40 := hy0.2.2.2.2
  have hri : inR (nI i) (yKc y) = true := inR_nI hi (by omega)
  have hiN : iN (nI i) = i := iN_nI (by omega)
  obtain ⟨hkd, hkok⟩ := hs.kind hi
  have hkok9 := hkok
  obtain ⟨k1, k2, k3, k4, k5, k6, k7, k8, k9⟩ := hkok9
  have ho : oOfKind y (nI i) (nI 7) = (0, kOf (yK y i) 7, y) := by unfold oOfKind; rw [if_pos hri, if_pos (by decide), hiN, iN_nI (by decide)]
  obtain ⟨H, hHe⟩ : ∃ z, z = s.heap := ⟨_, rfl⟩
  obtain ⟨locs, hLe⟩ : ∃ z : List Loc, z = [] := ⟨_, rfl⟩
  rw [← hHe, ← hLe]
  have hI : gI K A s G H locs := by rw [hHe, hLe]; exact hI
  clear hHe hLe
  refine lv_aload_n hx hb dX4_ofKind_0 rfl (lv_at hl 0 rfl) ?_
  refine lv_iload_n hx hb dX4_ofKind_1 rfl (lv_at hl 1 rfl) ?_
  refine g_callV (As := [.int (nI i)]) (rest := []) (b := hy) (n := 1) S hE hI hA (c_kindOfIn l K _ L1 L2 M hy y i hlS hy0 hi) gX4_ofKind_X4_kindOf rfl (by decide +kernel) ⟨Nat.le_of_ble_eq_true rfl, Nat.le_of_ble_eq_true rfl⟩ (g_hro hE hI hy9 rfl) rfl hl.1 rfl (Nat.le_of_ble_eq_true rfl) dX4_ofKind_2 ⟨Nat.le_of_ble_eq_true rfl, Nat.le_of_ble_eq_true rfl⟩ (fun E ce q9 Gx H locs hx9 hI hce hcv hcl => ?_) (fun rv Gc_2 H locs hp hI => ?_)
  · skip
    exact hx9.elim
  obtain ⟨rfl, hq9⟩ := hp
  rw [hq9] at hI
  refine W.eq (g2 := F0 m 5 ls [.ref (L1 5 i)]) rfl ?_
  refine lv_astore_n (lv' := [(3, .ref (L1 5 i)), (0, .ref hy), (1, .int (nI i)), (2, .int (nI 7))]) hx hb dX4_ofKind_5 rfl hl (by decide) rfl (fun ls hl => ?_)
  refine lv_iload_n hx hb dX4_ofKind_6 rfl (lv_at hl 3 rfl) ?_
  refine lv_tableIn (tgt := 87) (off := 80) hx hb dX4_ofKind_7 (by decide +kernel) (by decide +kernel) (by decide +kernel) (by decide) ?_
  refine lv_aload_n hx hb dX4_ofKind_87 rfl (lv_at hl 0 rfl) ?_
  refine g_getN S hE hI (C := RX0) (T := TX0) (N := 8) (ref := "StonecutterYard$Kind") (host := "StonecutterYard") (fun w h => (List.mem_cons_of_mem _ (List.mem_append_left _ (List.mem_append_left _ (List.mem_append_left _ (List.mem_append_left _ (List.mem_append_right _ h))))))) hkd rfl 7 (by decide) (List.mem_of_getElem? (i := 15) rfl) (fun _ h9 => h9) (v := .int (nI (kD (yK y i)))) rfl dX4_ofKind_88 ?_
  exact g_iret S hI hr hlocks (Nat.zero_le _) (Nat.zero_le _) dX4_ofKind_91 (by rw [ho]; exact ⟨rfl, rfl, hy0, AgY.rf⟩)
