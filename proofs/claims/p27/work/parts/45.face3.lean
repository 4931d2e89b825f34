set_option maxHeartbeats 4000000 in
set_option maxRecDepth 100000 in
/-- worth -/
theorem c_worthB (l : Launch) (K : gK) (G : gW) (L1 L2 : Nat → Nat → Nat) (M : Nat → Nat) (hy : Nat) (y : YV) (w h g : Nat) (hlS : l.stackTraces = false) (hy0 : YardC K L1 L2 M hy G y) (hb9 : (1 ≤ w ∧ w ≤ 24) ∧ (1 ≤ h ∧ h ≤ 24) ∧ g ≤ 1) : gM l yX4_worth wsX4_worth 6 144 0 0 K [.ref hy, .int (nI w), .int (nI h), .int (nI g)] G (oPost K L1 L2 M hy G (oWorth y (nI w) (nI h) (nI g))) (oX K L1 L2 M hy G (oWorth y (nI w) (nI h) (nI g)) (ex1 eIA)) := by
  refine gM.of (cc := cX4_worth) (maxL := 4) (ret := (some .int)) (by decide) rfl (Nat.le_of_ble_eq_true rfl) ?_
  intro p e s m below meth c A S hr hlocks htab hname hE hA hI ls hl
  have hx := S.1
  have hb := S.2.1
  have hml := S.2.2.1
  have hl : lv_has ls 4 [(0, .ref hy), (1, .int (nI w)), (2, .int (nI h)), (3, .int (nI g))] := hl
  have hs := hy0.2.1
  have hy9 := hy0.1
  have h44 := hs.1.2.2.2.1
  have h6 := hs.1.2.2.2.2.1
  have hf2 := hs.1.2.2.2.2.2
  have hc40 := hy0.2.2.2.2
  have hp9 := inP_nI hb9
  obtain ⟨⟨b1, b2⟩, ⟨b3, b4⟩, b5⟩ := hb9
  obtain ⟨vW, vC, vT, vN, kf0, hw0⟩ := hy0.2.2.2.1
  have ho : oWorth y (nI w) (nI h) (nI g) = (0, nI (wV (ySt2 y g) (yF y) w h), y) := by unfold oWorth; rw [if_pos hp9, iN_nI (by omega), iN_nI (by omega), iN_nI (by omega)]
  obtain ⟨H, hHe⟩ : ∃ z, z = s.heap := ⟨_, rfl⟩
  obtain ⟨locs, hLe⟩ : ∃ z : List Loc, z = [] := ⟨_, rfl⟩
  rw [← hHe, ← hLe]
  have hI : gI K A s G H locs := by rw [hHe, hLe]; exact hI
  clear hHe hLe
  refine lv_iload_n hx hb dX4_worth_0 rfl (lv_at hl 1 rfl) ?_
  refine lv_iload_n hx hb dX4_worth_1 rfl (lv_at hl 2 rfl) ?_
  refine lv_iload_n hx hb dX4_worth_2 rfl (lv_at hl 3 rfl) ?_
  refine g_callS (As := [.int (nI w), .int (nI h), .int (nI g)]) (rest := []) (n := 3) S hE hI hA (c_reqPieceIn l K _ (nI w) (nI h) (nI g) hlS hp9) gX4_worth_X4_requirePiece rfl (by decide +kernel) ⟨Nat.le_of_ble_eq_true rfl, Nat.le_of_ble_eq_true rfl⟩ rfl hl.1 rfl (Nat.le_of_ble_eq_true rfl) dX4_worth_3 ⟨Nat.le_of_ble_eq_true rfl, Nat.le_of_ble_eq_true rfl⟩ (fun E ce q9 Gx H1 locs1 hx9 => hx9.elim) (fun rv Gc_3 H locs hp hI => ?_)
  obtain ⟨rfl, hq9⟩ := hp
  rw [hq9] at hI
  refine W.eq (g2 := F0 m 6 ls []) rfl ?_
  refine lv_aload_n hx hb dX4_worth_6 rfl (lv_at hl 0 rfl) ?_
  refine g_get S hE hI (C := RX4) (T := TX4) (N := 3) (ref := "StonecutterYard") (fun w h => (List.mem_cons_of_mem _ (List.mem_append_left _ (List.mem_append_left _ (List.mem_append_left _ (List.mem_append_left _ (List.mem_append_right _ h))))))) hy9 rfl 2 (by decide) (List.mem_cons_of_mem _ (List.mem_append_left _ (List.mem_append_left _ (List.mem_append_left _ (List.mem_append_left _ (List.mem_append_left _ (List.mem_append_left _ (List.mem_of_getElem? (i := 0) rfl)))))))) (fun _ h9 => h9) (v := .ref (M 0)) rfl dX4_worth_7 ?_
  refine lv_aload_n hx hb dX4_worth_10 rfl (lv_at hl 0 rfl) ?_
  refine g_get S hE hI (C := RX4) (T := TX4) (N := 3) (ref := "StonecutterYard") (fun w h => (List.mem_cons_of_mem _ (List.mem_append_left _ (List.mem_append_left _ (List.mem_append_left _ (List.mem_append_left _ (List.mem_append_right _ h))))))) hy9 rfl 0 (by decide) (List.mem_cons_of_mem _ (List.mem_append_left _ (List.mem_append_left _ (List.mem_append_left _ (List.mem_append_left _ (List.mem_append_left _ (List.mem_append_left _ (List.mem_of_getElem? (i := 1) rfl)))))))) (fun _ h9 => h9) (v := .ref (L1 0 0)) rfl dX4_worth_11 ?_
  refine lv_iload_n hx hb dX4_worth_14 rfl (lv_at hl 1 rfl) ?_
  refine lv_iload_n hx hb dX4_worth_15 rfl (lv_at hl 2 rfl) ?_
  refine lv_iload_n hx hb dX4_worth_16 rfl (lv_at hl 3 rfl) ?_
  refine g_callV (As := [.ref (L1 0 0), .int (nI w), .int (nI h), .int (nI g)]) (rest := []) (b := (M 0)) (n := 4) S hE hI hA (c_X1_measure l K _ 3 M vW vC vT vN kf0 true 1 L1 y w h g hw0 hs (by decide) ⟨by omega, by omega, by omega⟩) gX4_worth_X1_measure rfl (by decide +kernel) ⟨Nat.le_of_ble_eq_true rfl, Nat.le_of_ble_eq_true rfl⟩ (g_hro hE hI hw0.1 rfl) rfl hl.1 rfl (Nat.le_of_ble_eq_true rfl) dX4_worth_17 ⟨Nat.le_of_ble_eq_true rfl, Nat.le_of_ble_eq_true rfl⟩ (fun E ce q9 Gx H1 locs1 hx9 => hx9.elim) (fun rv Gc_17 H locs hp hI => ?_)
  obtain ⟨rfl, ⟨W1, C1, T1, hw1, htb⟩, ha1⟩ := hp
  have hy1 : YardC K L1 L2 M hy Gc_17 y := hy0.saw hw1 ha1
  have hcell := htb w h (by omega) (by omega) (Nat.le_refl _) (Nat.le_refl _)
  refine W.eq (g2 := F0 m 20 ls []) rfl ?_
  refine lv_aload_n hx hb dX4_worth_20 rfl (lv_at hl 0 rfl) ?_
  refine g_get S hE hI (C := RX4) (T := TX4) (N := 3) (ref := "StonecutterYard") (fun w h => (List.mem_cons_of_mem _ (List.mem_append_left _ (List.mem_append_left _ (List.mem_append_left _ (List.mem_append_left _ (List.mem_append_right _ h))))))) hy1.1 rfl 2 (by decide) (List.mem_cons_of_mem _ (List.mem_append_left _ (List.mem_append_left _ (List.mem_append_left _ (List.mem_append_left _ (List.mem_append_left _ (List.mem_append_left _ (List.mem_of_getElem? (i := 0) rfl)))))))) (fun _ h9 => h9) (v := .ref (M 0)) rfl dX4_worth_21 ?_
  refine lv_iload_n hx hb dX4_worth_24 rfl (lv_at hl 1 rfl) ?_
  refine lv_iload_n hx hb dX4_worth_25 rfl (lv_at hl 2 rfl) ?_
  refine g_callV (As := [.int (nI w), .int (nI h)]) (rest := []) (b := (M 0)) (n := 2) S hE hI hA (c_X1_worthOf l K _ 3 M W1 C1 T1 vN (yF y) w h hw1 ⟨b2, b4⟩) gX4_worth_X1_worthOf rfl (by decide +kernel) ⟨Nat.le_of_ble_eq_true rfl, Nat.le_of_ble_eq_true rfl⟩ (g_hro hE hI hw1.1 rfl) rfl hl.1 rfl (Nat.le_of_ble_eq_true rfl) dX4_worth_26 ⟨Nat.le_of_ble_eq_true rfl, Nat.le_of_ble_eq_true rfl⟩ (fun E ce q9 Gx H1 locs1 hx9 => hx9.elim) (fun rv Gc_26 H locs hp hI => ?_)
  obtain ⟨rfl, hq9⟩ := hp
  rw [hq9] at hI
  rw [hcell.1]
  refine W.eq (g2 := F0 m 29 ls [.int (nI (wV (ySt2 y g) (yF y) w h))]) rfl ?_
  exact g_iret S hI hr hlocks (Nat.zero_le _) (Nat.zero_le _) dX4_worth_29 (by rw [ho]; exact ⟨rfl, rfl, hy1, ha1.y (by decide)⟩)
set_option maxHeartbeats 4000000 in
set_option maxRecDepth 100000 in
/-- best -/
theorem c_bestB (l : Launch) (K : gK) (G : gW) (L1 L2 : Nat → Nat → Nat) (M : Nat → Nat) (hy : Nat) (y : YV) (w h g : Nat) (hlS : l.stackTraces = false) (hy0 : YardC K L1 L2 M hy G y) (hb9 : (1 ≤ w ∧ w ≤ 24) ∧ (1 ≤ h ∧ h ≤ 24) ∧ g ≤ 1) : gM l yX4_bestCut wsX4_bestCut 6 144 0 0 K [.ref hy, .int (nI w), .int (nI h), .int (nI g)] G (oPost K L1 L2 M hy G (oBest y (nI w) (nI h) (nI g))) (oX K L1 L2 M hy G (oBest y (nI w) (nI h) (nI g)) (ex1 eIA)) := by
  refine gM.of (cc := cX4_bestCut) (maxL := 4) (ret := (some .int)) (by decide) rfl (Nat.le_of_ble_eq_true rfl) ?_
  intro p e s m below meth c A S hr hlocks htab hname hE hA hI ls hl
  have hx := S.1
  have hb := S.2.1
  have hml := S.2.2.1
  have hl : lv_has ls 4 [(0, .ref hy), (1, .int (nI w)), (2, .int (nI h)), (3, .int (nI g))] := hl
  have hs := hy0.2.1
  have hy9 := hy0.1
  have h44 := hs.1.2.2.2.1
  have h6 := hs.1.2.2.2.2.1
  have hf2 := hs.1.2.2.2.2.2
  have hc40 := hy0.2.2.2.2
  have hp9 := inP_nI hb9
  obtain ⟨⟨b1, b2⟩, ⟨b3, b4⟩, b5⟩ := hb9
  obtain ⟨vW, vC, vT, vN, kf0, hw0⟩ := hy0.2.2.2.1
  have ho : oBest y (nI w) (nI h) (nI g) = (0, cE (qV (ySt2 y g) (yF y) w h).2, y) := by unfold oBest; rw [if_pos hp9, iN_nI (by omega), iN_nI (by omega), iN_nI (by omega)]
  obtain ⟨H, hHe⟩ : ∃ z, z = s.heap := ⟨_, rfl⟩
  obtain ⟨locs, hLe⟩ : ∃ z : List Loc, z = [] := ⟨_, rfl⟩
  rw [← hHe, ← hLe]
  have hI : gI K A s G H locs := by rw [hHe, hLe]; exact hI
  clear hHe hLe
  refine lv_iload_n hx hb dX4_bestCut_0 rfl (lv_at hl 1 rfl) ?_
  refine lv_iload_n hx hb dX4_bestCut_1 rfl (lv_at hl 2 rfl) ?_
  refine lv_iload_n hx hb dX4_bestCut_2 rfl (lv_at hl 3 rfl) ?_
  refine g_callS (As := [.int (nI w), .int (nI h), .int (nI g)]) (rest := []) (n := 3) S hE hI hA (c_reqPieceIn l K _ (nI w) (nI h) (nI g) hlS hp9) gX4_bestCut_X4_requirePiece rfl (by decide +kernel) ⟨Nat.le_of_ble_eq_true rfl, Nat.le_of_ble_eq_true rfl⟩ rfl hl.1 rfl (Nat.le_of_ble_eq_true rfl) dX4_bestCut_3 ⟨Nat.le_of_ble_eq_true rfl, Nat.le_of_ble_eq_true rfl⟩ (fun E ce q9 Gx H1 locs1 hx9 => hx9.elim) (fun rv Gc_3 H locs hp hI => ?_)
  obtain ⟨rfl, hq9⟩ := hp
  rw [hq9] at hI
  refine W.eq (g2 := F0 m 6 ls []) rfl ?_
  refine lv_aload_n hx hb dX4_bestCut_6 rfl (lv_at hl 0 rfl) ?_
  refine g_get S hE hI (C := RX4) (T := TX4) (N := 3) (ref := "StonecutterYard") (fun w h => (List.mem_cons_of_mem _ (List.mem_append_left _ (List.mem_append_left _ (List.mem_append_left _ (List.mem_append_left _ (List.mem_append_right _ h))))))) hy9 rfl 2 (by decide) (List.mem_cons_of_mem _ (List.mem_append_left _ (List.mem_append_left _ (List.mem_append_left _ (List.mem_append_left _ (List.mem_append_left _ (List.mem_append_left _ (List.mem_of_getElem? (i := 0) rfl)))))))) (fun _ h9 => h9) (v := .ref (M 0)) rfl dX4_bestCut_7 ?_
  refine lv_aload_n hx hb dX4_bestCut_10 rfl (lv_at hl 0 rfl) ?_
  refine g_get S hE hI (C := RX4) (T := TX4) (N := 3) (ref := "StonecutterYard") (fun w h => (List.mem_cons_of_mem _ (List.mem_append_left _ (List.mem_append_left _ (List.mem_append_left _ (List.mem_append_left _ (List.mem_append_right _ h))))))) hy9 rfl 0 (by decide) (List.mem_cons_of_mem _ (List.mem_append_left _ (List.mem_append_left _ (List.mem_append_left _ (List.mem_append_left _ (List.mem_append_left _ (List.mem_append_left _ (List.mem_of_getElem? (i := 1) rfl)))))))) (fun _ h9 => h9) (v := .ref (L1 0 0)) rfl dX4_bestCut_11 ?_
  refine lv_iload_n hx hb dX4_bestCut_14 rfl (lv_at hl 1 rfl) ?_
  refine lv_iload_n hx hb dX4_bestCut_15 rfl (lv_at hl 2 rfl) ?_
  refine lv_iload_n hx hb dX4_bestCut_16 rfl (lv_at hl 3 rfl) ?_
  refine g_callV (As := [.ref (L1 0 0), .int (nI w), .int (nI h), .int (nI g)]) (rest := []) (b := (M 0)) (n := 4) S hE hI hA (c_X1_measure l K _ 3 M vW vC vT vN kf0 true 1 L1 y w h g hw0 hs (by decide) ⟨by omega, by omega, by omega⟩) gX4_bestCut_X1_measure rfl (by decide +kernel) ⟨Nat.le_of_ble_eq_true rfl, Nat.le_of_ble_eq_true rfl⟩ (g_hro hE hI hw0.1 rfl) rfl hl.1 rfl (Nat.le_of_ble_eq_true rfl) dX4_bestCut_17 ⟨Nat.le_of_ble_eq_true rfl, Nat.le_of_ble_eq_true rfl⟩ (fun E ce q9 Gx H1 locs1 hx9 => hx9.elim) (fun rv Gc_17 H locs hp hI => ?_)
  obtain ⟨rfl, ⟨W1, C1, T1, hw1, htb⟩, ha1⟩ := hp
  have hy1 : YardC K L1 L2 M hy Gc_17 y := hy0.saw hw1 ha1
  have hcell := htb w h (by omega) (by omega) (Nat.le_refl _) (Nat.le_refl _)
  refine W.eq (g2 := F0 m 20 ls []) rfl ?_
  refine lv_aload_n hx hb dX4_bestCut_20 rfl (lv_at hl 0 rfl) ?_
  refine g_get S hE hI (C := RX4) (T := TX4) (N := 3) (ref := "StonecutterYard") (fun w h => (List.mem_cons_of_mem _ (List.mem_append_left _ (List.mem_append_left _ (List.mem_append_left _ (List.mem_append_left _ (List.mem_append_right _ h))))))) hy1.1 rfl 2 (by decide) (List.mem_cons_of_mem _ (List.mem_append_left _ (List.mem_append_left _ (List.mem_append_left _ (List.mem_append_left _ (List.mem_append_left _ (List.mem_append_left _ (List.mem_of_getElem? (i := 0) rfl)))))))) (fun _ h9 => h9) (v := .ref (M 0)) rfl dX4_bestCut_21 ?_
  refine lv_iload_n hx hb dX4_bestCut_24 rfl (lv_at hl 1 rfl) ?_
  refine lv_iload_n hx hb dX4_bestCut_25 rfl (lv_at hl 2 rfl) ?_
  refine g_callV (As := [.int (nI w), .int (nI h)]) (rest := []) (b := (M 0)) (n := 2) S hE hI hA (c_X1_cutOf l K _ 3 M W1 C1 T1 vN (yF y) w h hw1 ⟨b2, b4⟩) gX4_bestCut_X1_cutOf rfl (by decide +kernel) ⟨Nat.le_of_ble_eq_true rfl, Nat.le_of_ble_eq_true rfl⟩ (g_hro hE hI hw1.1 rfl) rfl hl.1 rfl (Nat.le_of_ble_eq_true rfl) dX4_bestCut_26 ⟨Nat.le_of_ble_eq_true rfl, Nat.le_of_ble_eq_true rfl⟩ (fun E ce q9 Gx H1 locs1 hx9 => hx9.elim) (fun rv Gc_26 H locs hp hI => ?_)
  obtain ⟨rfl, hq9⟩ := hp
  rw [hq9] at hI
  rw [hcell.2.1]
  refine W.eq (g2 := F0 m 29 ls [.int (cE (qV (ySt2 y g) (yF y) w h).2)]) rfl ?_
  exact g_iret S hI hr hlocks (Nat.zero_le _) (Nat.zero_le _) dX4_bestCut_29 (by rw [ho]; exact ⟨rfl, rfl, hy1, ha1.y (by decide)⟩)
set_option maxHeartbeats 4000000 in
set_option maxRecDepth 100000 in
/-- column -/
theorem c_columnC (l : Launch) (K : gK) (G : gW) (L1 L2 : Nat → Nat → Nat) (M : Nat → Nat) (hy : Nat) (y : YV) (w h g i : Nat) (hlS : l.stackTraces = false) (hy0 : YardC K L1 L2 M hy G y) (hi : i < yKc y) (hb9 : (1 ≤ w ∧ w ≤ 24) ∧ (1 ≤ h ∧ h ≤ 24) ∧ g ≤ 1) : gM l yX4_column wsX4_column 6 144 0 0 K [.ref hy, .int (nI w), .int (nI h), .int (nI g), .int (nI i)] G (oPost K L1 L2 M hy G (oColumn y (nI w) (nI h) (nI g) (nI i))) (oX K L1 L2 M hy G (oColumn y (nI w) (nI h) (nI g) (nI i)) (ex2 eIO eIA)) := by
  refine gM.of (cc := cX4_column) (maxL := 5) (ret := (some .int)) (by decide) rfl (Nat.le_of_ble_eq_true rfl) ?_
  intro p e s m below meth c A S hr hlocks htab hname hE hA hI ls hl
  have hx := S.1
  have hb := S.2.1
  have hml := S.2.2.1
  have hl : lv_has ls 5 [(0, .ref hy), (1, .int (nI w)), (2, .int (nI h)), (3, .int (nI g)), (4, .int (nI i))] := hl
  have hs := hy0.2.1
  have hy9 := hy0.1
  have h44 := hs.1.2.2.2.1
  have h6 := hs.1.2.2.2.2.1
  have hf2 := hs.1.2.2.2.2.2
  have hc40 := hy0.2.2.2.2
  have hri : inR (nI i) (yKc y) = true := inR_nI hi (by omega)
  have hiN : iN (nI i) = i := iN_nI (by omega)
  have hp9 := inP_nI hb9
  obtain ⟨⟨b1, b2⟩, ⟨b3, b4⟩, b5⟩ := hb9
  obtain ⟨vW, vC, vT, vN, kf0, hw0⟩ := hy0.2.2.2.1
  have ho : oColumn y (nI w) (nI h) (nI g) (nI i) = (0, nI (nV (ySt2 y g) (yF y) i w h), y) := by unfold oColumn; rw [if_pos hri, if_pos hp9, hiN, iN_nI (by omega), iN_nI (by omega), iN_nI (by omega)]
  obtain ⟨H, hHe⟩ : ∃ z, z = s.heap := ⟨_, rfl⟩
  obtain ⟨locs, hLe⟩ : ∃ z : List Loc, z = [] := ⟨_, rfl⟩
  rw [← hHe, ← hLe]
  have hI : gI K A s G H locs := by rw [hHe, hLe]; exact hI
  clear hHe hLe
  refine lv_aload_n hx hb dX4_column_0 rfl (lv_at hl 0 rfl) ?_
  refine lv_iload hx hb dX4_column_1 (lv_at hl 4 rfl) ?_
  refine g_callV (As := [.int (nI i)]) (rest := []) (b := hy) (n := 1) S hE hI hA (c_kindOfIn l K _ L1 L2 M hy y i hlS hy0 hi) gX4_column_X4_kindOf rfl (by decide +kernel) ⟨Nat.le_of_ble_eq_true rfl, Nat.le_of_ble_eq_true rfl⟩ (g_hro hE hI hy9 rfl) rfl hl.1 rfl (Nat.le_of_ble_eq_true rfl) dX4_column_3 ⟨Nat.le_of_ble_eq_true rfl, Nat.le_of_ble_eq_true rfl⟩ (fun E ce q9 Gx H locs hx9 hI hce hcv hcl => ?_) (fun rv Gc_3 H locs hp hI => ?_)
  · skip
    exact hx9.elim
  obtain ⟨rfl, hq9⟩ := hp
  rw [hq9] at hI
  refine W.eq (g2 := F0 m 6 ls [.ref (L1 5 i)]) rfl ?_
  refine lv_pop hx hb dX4_column_6 rfl ?_
  refine lv_iload_n hx hb dX4_column_7 rfl (lv_at hl 1 rfl) ?_
  refine lv_iload_n hx hb dX4_column_8 rfl (lv_at hl 2 rfl) ?_
  refine lv_iload_n hx hb dX4_column_9 rfl (lv_at hl 3 rfl) ?_
  refine g_callS (As := [.int (nI w), .int (nI h), .int (nI g)]) (rest := []) (n := 3) S hE hI hA (c_reqPieceIn l K _ (nI w) (nI h) (nI g) hlS hp9) gX4_column_X4_requirePiece rfl (by decide +kernel) ⟨Nat.le_of_ble_eq_true rfl, Nat.le_of_ble_eq_true rfl⟩ rfl hl.1 rfl (Nat.le_of_ble_eq_true rfl) dX4_column_10 ⟨Nat.le_of_ble_eq_true rfl, Nat.le_of_ble_eq_true rfl⟩ (fun E ce q9 Gx H1 locs1 hx9 => hx9.elim) (fun rv Gc_10 H locs hp hI => ?_)
  obtain ⟨rfl, hq9⟩ := hp
  rw [hq9] at hI
  refine W.eq (g2 := F0 m 13 ls []) rfl ?_
  refine lv_aload_n hx hb dX4_column_13 rfl (lv_at hl 0 rfl) ?_
  refine g_get S hE hI (C := RX4) (T := TX4) (N := 3) (ref := "StonecutterYard") (fun w h => (List.mem_cons_of_mem _ (List.mem_append_left _ (List.mem_append_left _ (List.mem_append_left _ (List.mem_append_left _ (List.mem_append_left _ (List.mem_append_right _ h)))))))) hy9 rfl 2 (by decide) (List.mem_cons_of_mem _ (List.mem_append_left _ (List.mem_append_left _ (List.mem_append_left _ (List.mem_append_left _ (List.mem_append_left _ (List.mem_append_left _ (List.mem_append_left _ (List.mem_of_getElem? (i := 0) rfl))))))))) (fun _ h9 => h9) (v := .ref (M 0)) rfl dX4_column_14 ?_
  refine lv_aload_n hx hb dX4_column_17 rfl (lv_at hl 0 rfl) ?_
  refine g_get S hE hI (C := RX4) (T := TX4) (N := 3) (ref := "StonecutterYard") (fun w h => (List.mem_cons_of_mem _ (List.mem_append_left _ (List.mem_append_left _ (List.mem_append_left _ (List.mem_append_left _ (List.mem_append_left _ (List.mem_append_right _ h)))))))) hy9 rfl 0 (by decide) (List.mem_cons_of_mem _ (List.mem_append_left _ (List.mem_append_left _ (List.mem_append_left _ (List.mem_append_left _ (List.mem_append_left _ (List.mem_append_left _ (List.mem_append_left _ (List.mem_of_getElem? (i := 1) rfl))))))))) (fun _ h9 => h9) (v := .ref (L1 0 0)) rfl dX4_column_18 ?_
  refine lv_iload_n hx hb dX4_column_21 rfl (lv_at hl 1 rfl) ?_
  refine lv_iload_n hx hb dX4_column_22 rfl (lv_at hl 2 rfl) ?_
  refine lv_iload_n hx hb dX4_column_23 rfl (lv_at hl 3 rfl) ?_
  refine g_callV (As := [.ref (L1 0 0), .int (nI w), .int (nI h), .int (nI g)]) (rest := []) (b := (M 0)) (n := 4) S hE hI hA (c_X1_measure l K _ 3 M vW vC vT vN kf0 true 1 L1 y w h g hw0 hs (by decide) ⟨by omega, by omega, by omega⟩) gX4_column_X1_measure rfl (by decide +kernel) ⟨Nat.le_of_ble_eq_true rfl, Nat.le_of_ble_eq_true rfl⟩ (g_hro hE hI hw0.1 rfl) rfl hl.1 rfl (Nat.le_of_ble_eq_true rfl) dX4_column_24 ⟨Nat.le_of_ble_eq_true rfl, Nat.le_of_ble_eq_true rfl⟩ (fun E ce q9 Gx H1 locs1 hx9 => hx9.elim) (fun rv Gc_24 H locs hp hI => ?_)
  obtain ⟨rfl, ⟨W1, C1, T1, hw1, htb⟩, ha1⟩ := hp
  have hy1 : YardC K L1 L2 M hy Gc_24 y := hy0.saw hw1 ha1
  have hcell := htb w h (by omega) (by omega) (Nat.le_refl _) (Nat.le_refl _)
  refine W.eq (g2 := F0 m 27 ls []) rfl ?_
  refine lv_aload_n hx hb dX4_column_27 rfl (lv_at hl 0 rfl) ?_
  refine g_get S hE hI (C := RX4) (T := TX4) (N := 3) (ref := "StonecutterYard") (fun w h => (List.mem_cons_of_mem _ (List.mem_append_left _ (List.mem_append_left _ (List.mem_append_left _ (List.mem_append_left _ (List.mem_append_left _ (List.mem_append_right _ h)))))))) hy1.1 rfl 2 (by decide) (List.mem_cons_of_mem _ (List.mem_append_left _ (List.mem_append_left _ (List.mem_append_left _ (List.mem_append_left _ (List.mem_append_left _ (List.mem_append_left _ (List.mem_append_left _ (List.mem_of_getElem? (i := 0) rfl))))))))) (fun _ h9 => h9) (v := .ref (M 0)) rfl dX4_column_28 ?_
  refine lv_iload_n hx hb dX4_column_31 rfl (lv_at hl 1 rfl) ?_
  refine lv_iload_n hx hb dX4_column_32 rfl (lv_at hl 2 rfl) ?_
  refine lv_iload hx hb dX4_column_33 (lv_at hl 4 rfl) ?_
  refine g_callV (As := [.int (nI w), .int (nI h), .int (nI i)]) (rest := []) (b := (M 0)) (n := 3) S hE hI hA (c_X1_countStones l K _ 3 M W1 C1 T1 vN (yF y) (ySt2 y g) w h i hw1 htb (fun a b n hn => Nat.lt_trans (bestN_some hn).1 (by omega)) ⟨⟨b1, b2⟩, ⟨b3, b4⟩, hf2, by omega⟩) gX4_column_X1_countStones rfl (by decide +kernel) ⟨Nat.le_of_ble_eq_true rfl, Nat.le_of_ble_eq_true rfl⟩ (g_hro hE hI hw1.1 rfl) rfl hl.1 rfl (Nat.le_of_ble_eq_true rfl) dX4_column_35 ⟨Nat.le_of_ble_eq_true rfl, Nat.le_of_ble_eq_true rfl⟩ (fun E ce q9 Gx H1 locs1 hx9 => hx9.elim) (fun rv Gc_35 H locs hp hI => ?_)
  obtain ⟨rfl, ⟨N1, hw2⟩, ha2⟩ := hp
  refine W.eq (g2 := F0 m 38 ls [.int (nI (nV (ySt2 y g) (yF y) i w h))]) rfl ?_
  exact g_iret S hI hr hlocks (Nat.zero_le _) (Nat.zero_le _) dX4_column_38 (by rw [ho]; exact ⟨rfl, rfl, hy1.saw hw2 ha2, (ha1.tr ha2).y (by decide)⟩)
theorem yLong_ge {y : YV} {g : Nat} {b : Bool} : ∀ {n i : Nat}, i < n → sT (yS y i) = 0 → sG (yS y i) = g → yLen (yS y i) b ≤ yLong y g b n
  | 0, i, h, _, _ => absurd h (Nat.not_lt_zero i)
  | n + 1, i, h, h1, h2 => by
    rcases Nat.lt_succ_iff_lt_or_eq.mp h with h3 | rfl
    · have h4 := yLong_ge (b := b) h3 h1 h2
      by_cases c : sT (yS y n) = 0 ∧ sG (yS y n) = g
      · rw [yLong_yes c.1 c.2]; omega
      · rw [yLong_no c]; exact h4
    · rw [yLong_yes h1 h2]; exact Nat.le_max_right _ _
theorem yLong_le {K : gK} {z : Bool} {r : Nat} {L : Nat → Nat → Nat} {G : gW} {y : YV} (hs : StockG K z r L G y) {g : Nat} {b : Bool} : ∀ {n : Nat}, n ≤ ySc y → yLong y g b n ≤ 24
  | 0, _ => Nat.zero_le _
  | n + 1, h => by
    have h4 := yLong_le hs (g := g) (b := b) (Nat.le_of_succ_le h)
    obtain ⟨P, -, -, -, s1, s2, s3, s4, -⟩ := hs.slab (show n < ySc y from h)
    by_cases c : sT (yS y n) = 0 ∧ sG (yS y n) = g
    · rw [yLong_yes c.1 c.2]
      have : yLen (yS y n) b ≤ 24 := by unfold yLen; split <;> assumption
      omega
    · rw [yLong_no c]; exact h4
set_option maxHeartbeats 4000000 in
set_option maxRecDepth 100000 in
/-- worthOfAll(of) -/
theorem c_X4_worthOfAll (l : Launch) (K : gK) (G : gW) (M : Nat → Nat) (vW vC vT vN : Nat → Int32) (kf0 : Nat) (a9 b9 hy : Nat) (z : Bool) (r : Nat) (L : Nat → Nat → Nat) (y : YV) (hyd : G (4, 20, 0) = some (hy, .inr (5, [.ref a9, .ref b9, .ref (M 0)]))) (hw0 : SawG K 3 M G vW vC vT vN kf0) (hs : StockG K z r L G y) (hne : r ≠ 3) : gM l yX4_worthOfAll wsX4_worthOfAll 6 144 0 0 K [.ref hy, .ref (L 0 0)] G (fun v G1 => v = some (.int (nI (yAll y))) ∧ (∃ W1 C1 T1 N1 kf1, SawG K 3 M G1 W1 C1 T1 N1 kf1) ∧ Ag 3 G G1) (gNo) := by
  refine gM.of (cc := cX4_worthOfAll) (maxL := 6) (ret := (some .int)) (by decide) rfl (Nat.le_of_ble_eq_true rfl) ?_
  intro p e s m below meth c A S hr hlocks htab hname hE hA hI ls hl
  have hx := S.1
  have hb := S.2.1
  have hml := S.2.2.1
  have hl : lv_has ls 6 [(0, .ref hy), (1, .ref (L 0 0))] := hl
  have g44 := hs.1.2.2.2.1
  have g6 := hs.1.2.2.2.2.1
  have g2 := hs.1.2.2.2.2.2
  have hai9 := hne
  obtain ⟨H, hHe⟩ : ∃ z, z = s.heap := ⟨_, rfl⟩
  obtain ⟨locs, hLe⟩ : ∃ z : List Loc, z = [] := ⟨_, rfl⟩
  rw [← hHe, ← hLe]
  have hI : gI K A s G H locs := by rw [hHe, hLe]; exact hI
  clear hHe hLe
  refine lv_iconst (v := nI 0) hx hb dX4_worthOfAll_0 (by decide) ?_
  refine lv_istore_n (lv' := [(2, .int (nI 0)), (0, .ref hy), (1, .ref (L 0 0))]) hx hb dX4_worthOfAll_1 rfl hl (by decide) rfl (fun ls hl => ?_)
  refine lv_iconst (v := nI 0) hx hb dX4_worthOfAll_2 (by decide) ?_
  refine lv_istore_n (lv' := [(3, .int (nI 0)), (2, .int (nI 0)), (0, .ref hy), (1, .ref (L 0 0))]) hx hb dX4_worthOfAll_3 rfl hl (by decide) rfl (fun ls hl => ?_)
  have L4 : ∀ (n : Nat) (g acc : Nat) (W1 C1 T1 : Nat → Int32) (kf1 : Nat) (G1 : gW) (H : Heap) (locs : List Loc) (ls : Array Slot) (hn : 2 - g < n) (hg2 : g ≤ 2) (hacc : acc = sumN (fun g => yAllG y g) g) (hwi : SawG K 3 M G1 W1 C1 T1 vN kf1) (hai : Ag 3 G G1), gI K A s G1 H locs → lv_has ls 6 [(0, .ref hy), (1, .ref (L 0 0)), (2, .int (nI acc)), (3, .int (nI g))] → W p l e (gRoom 6 144 0 0) s m ([.ref hy, .ref (L 0 0)] : List Value).toArray below meth c H locs 0 0 (gEnd K below (fun v G1 => v = some (.int (nI (yAll y))) ∧ (∃ W1 C1 T1 N1 kf1, SawG K 3 M G1 W1 C1 T1 N1 kf1) ∧ Ag 3 G G1) (gNo) A ([.ref hy, .ref (L 0 0)] : List Value).toArray s 0 0) (F0 m 4 ls []) := by
    clear hI hl
    intro n
    induction n with
    | zero =>
      intro g acc W1 C1 T1 kf1 G1 H locs ls hn hg2 hacc hwi hai hI hl
      exact absurd hn (Nat.not_lt_zero _)
    | succ n ih =>
      intro g acc W1 C1 T1 kf1 G1 H locs ls hn hg2 hacc hwi hai hI hl
      have hsm : StockG K z r L G1 y := hs.moved (fun t ht => hai t (by rw [ht]; exact hne))
      have hyd1 : G1 (4, 20, 0) = some (hy, .inr (5, [.ref a9, .ref b9, .ref (M 0)])) := (hai _ (by show (4 : Nat) ≠ 3; decide)).trans hyd
      have g44 := hs.1.2.2.2.1
      have g6 := hs.1.2.2.2.2.1
      have g2 := hs.1.2.2.2.2.2
      refine lv_iload_n hx hb dX4_worthOfAll_4 rfl (lv_at hl 3 rfl) ?_
      refine lv_iconst (v := nI 2) hx hb dX4_worthOfAll_5 (by decide) ?_
      refine lv_icmp_ge (tgt := 104) hx hb dX4_worthOfAll_6 (by decide) (fun c_6 => ?_) (fun c_6 => ?_)
      · skip
        have c_6 : 2 ≤ g := (nI_leI (a := 2) (b := g) (by omega) (by omega)).mp c_6
        refine lv_iload_n hx hb dX4_worthOfAll_104 rfl (lv_at hl 2 rfl) ?_
        exact g_iret S hI hr hlocks (Nat.zero_le _) (Nat.zero_le _) dX4_worthOfAll_105 ⟨by rw [hacc, show g = 2 by omega]; show some (Value.int (nI (0 + yAllG y 0 + yAllG y 1))) = _; rw [Nat.zero_add]; rfl, ⟨W1, C1, T1, vN, kf1, hwi⟩, hai⟩
      · skip
        have c_6 : g < 2 := Nat.not_le.mp (fun z => c_6 ((nI_leI (a := 2) (b := g) (by omega) (by omega)).mpr z))
        refine lv_aload_n hx hb dX4_worthOfAll_9 rfl (lv_at hl 0 rfl) ?_
        refine g_get S hE hI (C := RX4) (T := TX4) (N := 3) (ref := "StonecutterYard") (fun w h => (List.mem_cons_of_mem _ (List.mem_append_left _ (List.mem_append_left _ (List.mem_append_left _ (List.mem_append_left _ (List.mem_append_right _ h))))))) hyd1 rfl 2 (by decide) (List.mem_cons_of_mem _ (List.mem_append_left _ (List.mem_append_left _ (List.mem_append_left _ (List.mem_append_left _ (List.mem_append_left _ (List.mem_append_left _ (List.mem_of_getElem? (i := 0) rfl)))))))) (fun _ h9 => h9) (v := .ref (M 0)) rfl dX4_worthOfAll_10 ?_
        refine lv_aload_n hx hb dX4_worthOfAll_13 rfl (lv_at hl 1 rfl) ?_
        refine lv_aload_n hx hb dX4_worthOfAll_14 rfl (lv_at hl 1 rfl) ?_
        refine lv_iload_n hx hb dX4_worthOfAll_15 rfl (lv_at hl 3 rfl) ?_
        refine lv_iconst (v := nI 1) hx hb dX4_worthOfAll_16 (by decide) ?_
        refine g_callV (As := [.int (nI g), .int (nI 1)]) (rest := [.ref (L 0 0), .ref (M 0)]) (b := (L 0 0)) (n := 2) S hE hI hA (c_X3_longestThere l K _ z r L y g true hsm (by omega)) gX4_worthOfAll_X3_longestThere rfl (by decide +kernel) ⟨Nat.le_of_ble_eq_true rfl, Nat.le_of_ble_eq_true rfl⟩ (g_hro hE hI hsm.1.1 rfl) rfl hl.1 rfl (Nat.le_of_ble_eq_true rfl) dX4_worthOfAll_17 ⟨Nat.le_of_ble_eq_true rfl, Nat.le_of_ble_eq_true rfl⟩ (fun E ce q9 Gx H1 locs1 hx9 => hx9.elim) (fun rv Gc_17 H locs hp hI => ?_)
        obtain ⟨rfl, hq9⟩ := hp
        rw [hq9] at hI
        have hlt := yLong_le hsm (g := g) (b := true) (Nat.le_refl _)
        refine W.eq (g2 := F0 m 20 ls [.int (nI (yLong y g true (ySc y))), .ref (L 0 0), .ref (M 0)]) rfl ?_
        refine lv_aload_n hx hb dX4_worthOfAll_20 rfl (lv_at hl 1 rfl) ?_
        refine lv_iload_n hx hb dX4_worthOfAll_21 rfl (lv_at hl 3 rfl) ?_
        refine lv_iconst (v := nI 0) hx hb dX4_worthOfAll_22 (by decide) ?_
        refine g_callV (As := [.int (nI g), .int (nI 0)]) (rest := [.int (nI (yLong y g true (ySc y))), .ref (L 0 0), .ref (M 0)]) (b := (L 0 0)) (n := 2) S hE hI hA (c_X3_longestThere l K _ z r L y g false hsm (by omega)) gX4_worthOfAll_X3_longestThere rfl (by decide +kernel) ⟨Nat.le_of_ble_eq_true rfl, Nat.le_of_ble_eq_true rfl⟩ (g_hro hE hI hsm.1.1 rfl) rfl hl.1 rfl (Nat.le_of_ble_eq_true rfl) dX4_worthOfAll_23 ⟨Nat.le_of_ble_eq_true rfl, Nat.le_of_ble_eq_true rfl⟩ (fun E ce q9 Gx H1 locs1 hx9 => hx9.elim) (fun rv Gc_23 H locs hp hI => ?_)
        obtain ⟨rfl, hq9⟩ := hp
        rw [hq9] at hI
        have hlf := yLong_le hsm (g := g) (b := false) (Nat.le_refl _)
        refine W.eq (g2 := F0 m 26 ls [.int (nI (yLong y g false (ySc y))), .int (nI (yLong y g true (ySc y))), .ref (L 0 0), .ref (M 0)]) rfl ?_
        refine lv_iload_n hx hb dX4_worthOfAll_26 rfl (lv_at hl 3 rfl) ?_
        refine g_callV (As := [.ref (L 0 0), .int (nI (yLong y g true (ySc y))), .int (nI (yLong y g false (ySc y))), .int (nI g)]) (rest := []) (b := (M 0)) (n := 4) S hE hI hA (c_X1_measure l K _ 3 M W1 C1 T1 vN kf1 z r L y (yLong y g true (ySc y)) (yLong y g false (ySc y)) g hwi hsm hne ⟨hlt, hlf, by omega⟩) gX4_worthOfAll_X1_measure rfl (by decide +kernel) ⟨Nat.le_of_ble_eq_true rfl, Nat.le_of_ble_eq_true rfl⟩ (g_hro hE hI hwi.1 rfl) rfl hl.1 rfl (Nat.le_of_ble_eq_true rfl) dX4_worthOfAll_27 ⟨Nat.le_of_ble_eq_true rfl, Nat.le_of_ble_eq_true rfl⟩ (fun E ce q9 Gx H1 locs1 hx9 => hx9.elim) (fun rv Gc_27 H locs hp hI => ?_)
        obtain ⟨rfl, ⟨W2, C2, T2, hw2, htb⟩, ha2⟩ := hp
        refine W.eq (g2 := F0 m 30 ls []) rfl ?_
        refine lv_iconst (v := nI 0) hx hb dX4_worthOfAll_30 (by decide) ?_
        refine lv_istore (lv' := [(4, .int (nI 0)), (0, .ref hy), (1, .ref (L 0 0)), (2, .int (nI acc)), (3, .int (nI g))]) hx hb dX4_worthOfAll_31 hl (by decide) rfl (fun ls hl => ?_)
        have L33 : ∀ (n : Nat) (i acc : Nat) (W1 C1 T1 : Nat → Int32) (G1 : gW) (H : Heap) (locs : List Loc) (ls : Array Slot) (hn : ySc y - i < n) (hi : i ≤ ySc y) (hacc : acc = sumN (fun g => yAllG y g) g + sumN (fun i => if sT (yS y i) = 0 ∧ sG (yS y i) = g then wV (ySt2 y g) (yF y) (sW (yS y i)) (sH (yS y i)) else 0) i) (htb : TabOK (ySt2 y g) (yF y) W1 C1 T1 (yLong y g true (ySc y)) (yLong y g false (ySc y))) (hwi : SawG K 3 M G1 W1 C1 T1 vN (yF y)) (hai : Ag 3 G G1), gI K A s G1 H locs → lv_has ls 6 [(0, .ref hy), (1, .ref (L 0 0)), (2, .int (nI acc)), (3, .int (nI g)), (4, .int (nI i))] → W p l e (gRoom 6 144 0 0) s m ([.ref hy, .ref (L 0 0)] : List Value).toArray below meth c H locs 0 0 (gEnd K below (fun v G1 => v = some (.int (nI (yAll y))) ∧ (∃ W1 C1 T1 N1 kf1, SawG K 3 M G1 W1 C1 T1 N1 kf1) ∧ Ag 3 G G1) (gNo) A ([.ref hy, .ref (L 0 0)] : List Value).toArray s 0 0) (F0 m 33 ls []) := by
          clear hI hl
          intro n
          induction n with
          | zero =>
            intro i acc W1 C1 T1 G1 H locs ls hn hi hacc htb hwi hai hI hl
            exact absurd hn (Nat.not_lt_zero _)
          | succ n ih33 =>
            intro i acc W1 C1 T1 G1 H locs ls hn hi hacc htb hwi hai hI hl
            have hsm : StockG K z r L G1 y := hs.moved (fun t ht => hai t (by rw [ht]; exact hne))
            have hyd1 : G1 (4, 20, 0) = some (hy, .inr (5, [.ref a9, .ref b9, .ref (M 0)])) := (hai _ (by show (4 : Nat) ≠ 3; decide)).trans hyd
            have g44 := hs.1.2.2.2.1
            have g6 := hs.1.2.2.2.2.1
            have g2 := hs.1.2.2.2.2.2
            refine lv_iload hx hb dX4_worthOfAll_33 (lv_at hl 4 rfl) ?_
            refine lv_aload_n hx hb dX4_worthOfAll_35 rfl (lv_at hl 1 rfl) ?_
            refine g_getN S hE hI (C := RX3) (T := TX3) (N := 5) (ref := "StonecutterYard$Stock") (host := "StonecutterYard") (fun w h => (List.mem_cons_of_mem _ (List.mem_append_left _ (List.mem_append_left _ (List.mem_append_left _ (List.mem_append_right _ h)))))) hsm.1.1 rfl 2 (by decide) (List.mem_of_getElem? (i := 0) rfl) (fun _ h9 => h9) (v := .int (nI (ySc y))) rfl dX4_worthOfAll_36 ?_
            refine lv_icmp_ge (tgt := 98) hx hb dX4_worthOfAll_39 (by decide) (fun c_39 => ?_) (fun c_39 => ?_)
            · skip
              have c_39 : (ySc y) ≤ i := (nI_leI (a := (ySc y)) (b := i) (by omega) (by omega)).mp c_39
              refine lv_iinc (v := nI (g + 1)) (lv' := [(3, .int (nI (g + 1))), (0, .ref hy), (1, .ref (L 0 0)), (2, .int (nI acc)), (4, .int (nI i))]) hx hb dX4_worthOfAll_98 hl (k := 3) rfl (nI_add _ 1) (by decide) rfl (fun ls hl => ?_)
              refine lv_goto (tgt := 4) hx hb dX4_worthOfAll_101 (by decide) ?_
              exact ih (g + 1) _ W1 C1 T1 (yF y) G1 H locs ls (by omega) (by omega) (by rw [hacc, show i = ySc y by omega]; rfl) hwi hai hI (lv_sub hl [1,2,3,0] rfl)
            · skip
              have c_39 : i < (ySc y) := Nat.not_le.mp (fun z => c_39 ((nI_leI (a := (ySc y)) (b := i) (by omega) (by omega)).mpr z))
              refine lv_aload_n hx hb dX4_worthOfAll_42 rfl (lv_at hl 1 rfl) ?_
              refine lv_iload hx hb dX4_worthOfAll_43 (lv_at hl 4 rfl) ?_
              refine g_callV (As := [.int (nI i)]) (rest := []) (b := (L 0 0)) (n := 1) S hE hI hA (c_slabIn l K _ r L (ySc y) (yKc y) (yF y) i hsm.1 c_39) gX4_worthOfAll_X3_slabOrNull rfl (by decide +kernel) ⟨Nat.le_of_ble_eq_true rfl, Nat.le_of_ble_eq_true rfl⟩ (g_hro hE hI hsm.1.1 rfl) rfl hl.1 rfl (Nat.le_of_ble_eq_true rfl) dX4_worthOfAll_45 ⟨Nat.le_of_ble_eq_true rfl, Nat.le_of_ble_eq_true rfl⟩ (fun E ce q9 Gx H1 locs1 hx9 => hx9.elim) (fun rv Gc_45 H locs hp hI => ?_)
              obtain ⟨rfl, hq9⟩ := hp
              rw [hq9] at hI
              obtain ⟨P, hsl, hpt, hpk, hsok⟩ := hsm.slab c_39
              have hsok9 := hsok
              obtain ⟨s1, s2, s3, s4, s5, s6, s7, s8⟩ := hsok9
              refine W.eq (g2 := F0 m 48 ls [.ref (L 3 i)]) rfl ?_
              refine lv_astore (lv' := [(5, .ref (L 3 i)), (0, .ref hy), (1, .ref (L 0 0)), (2, .int (nI acc)), (3, .int (nI g)), (4, .int (nI i))]) hx hb dX4_worthOfAll_48 hl (by decide) rfl (fun ls hl => ?_)
              refine lv_aload hx hb dX4_worthOfAll_50 (lv_at hl 0 rfl) ?_
              refine lv_ifnull hx hb dX4_worthOfAll_52 ?_
              refine lv_aload hx hb dX4_worthOfAll_55 (lv_at hl 0 rfl) ?_
              refine g_getN S hE hI (C := RX2) (T := TX2) (N := 7) (ref := "StonecutterYard$Slab") (host := "StonecutterYard") (fun w h => (List.mem_cons_of_mem _ (List.mem_append_left _ (List.mem_append_left _ (List.mem_append_right _ h))))) hsl rfl 4 (by decide) (List.mem_of_getElem? (i := 1) rfl) (fun _ h9 => h9) (v := .int (nI (sT (yS y i)))) rfl dX4_worthOfAll_57 ?_
              refine lv_if_ne (tgt := 92) hx hb dX4_worthOfAll_60 (by decide) (fun c_60 => ?_) (fun c_60 => ?_)
              · skip
                have c_60 : (sT (yS y i)) ≠ 0 := fun z => c_60 ((nI_eq (a := (sT (yS y i))) (b := 0) (by omega) (by omega)).mpr z)
                have hno : ¬ (sT (yS y i) = 0 ∧ sG (yS y i) = g) := fun z9 => c_60 z9.1
                refine lv_iinc (v := nI (i + 1)) (lv' := [(4, .int (nI (i + 1))), (5, .ref (L 3 i)), (0, .ref hy), (1, .ref (L 0 0)), (2, .int (nI acc)), (3, .int (nI g))]) hx hb dX4_worthOfAll_92 hl (k := 5) rfl (nI_add _ 1) (by decide) rfl (fun ls hl => ?_)
                refine lv_goto (tgt := 33) hx hb dX4_worthOfAll_95 (by decide) ?_
                exact ih33 (i + 1) _ W1 C1 T1 G1 H locs ls (by omega) (by omega) (by rw [hacc, sumN_s, if_neg hno]; omega) htb hwi hai hI (lv_sub hl [2,3,4,5,0] rfl)
              · skip
                have c_60 : (sT (yS y i)) = 0 := (nI_eq (a := (sT (yS y i))) (b := 0) (by omega) (by omega)).mp c_60
                refine lv_aload hx hb dX4_worthOfAll_63 (lv_at hl 0 rfl) ?_
                refine g_getN S hE hI (C := RX2) (T := TX2) (N := 7) (ref := "StonecutterYard$Slab") (host := "StonecutterYard") (fun w h => (List.mem_cons_of_mem _ (List.mem_append_left _ (List.mem_append_left _ (List.mem_append_right _ h))))) hsl rfl 2 (by decide) (List.mem_of_getElem? (i := 5) rfl) (fun _ h9 => h9) (v := .int (nI (sG (yS y i)))) rfl dX4_worthOfAll_65 ?_
                refine lv_iload_n hx hb dX4_worthOfAll_68 rfl (lv_at hl 4 rfl) ?_
                refine lv_icmp_ne (tgt := 92) hx hb dX4_worthOfAll_69 (by decide) (fun c_69 => ?_) (fun c_69 => ?_)
                · skip
                  have c_69 : (sG (yS y i)) ≠ g := fun z => c_69 ((nI_eq (a := (sG (yS y i))) (b := g) (by omega) (by omega)).mpr z)
                  have hno : ¬ (sT (yS y i) = 0 ∧ sG (yS y i) = g) := fun z9 => c_69 z9.2
                  refine lv_iinc (v := nI (i + 1)) (lv' := [(4, .int (nI (i + 1))), (5, .ref (L 3 i)), (0, .ref hy), (1, .ref (L 0 0)), (2, .int (nI acc)), (3, .int (nI g))]) hx hb dX4_worthOfAll_92 hl (k := 5) rfl (nI_add _ 1) (by decide) rfl (fun ls hl => ?_)
                  refine lv_goto (tgt := 33) hx hb dX4_worthOfAll_95 (by decide) ?_
                  exact ih33 (i + 1) _ W1 C1 T1 G1 H locs ls (by omega) (by omega) (by rw [hacc, sumN_s, if_neg hno]; omega) htb hwi hai hI (lv_sub hl [2,3,4,5,0] rfl)
                · skip
                  have c_69 : (sG (yS y i)) = g := (nI_eq (a := (sG (yS y i))) (b := g) (by omega) (by omega)).mp c_69
                  refine lv_iload_n hx hb dX4_worthOfAll_72 rfl (lv_at hl 3 rfl) ?_
                  refine lv_aload_n hx hb dX4_worthOfAll_73 rfl (lv_at hl 1 rfl) ?_
                  refine g_get S hE hI (C := RX4) (T := TX4) (N := 3) (ref := "StonecutterYard") (fun w h => (List.mem_cons_of_mem _ (List.mem_append_left _ (List.mem_append_left _ (List.mem_append_left _ (List.mem_append_left _ (List.mem_append_right _ h))))))) hyd1 rfl 2 (by decide) (List.mem_cons_of_mem _ (List.mem_append_left _ (List.mem_append_left _ (List.mem_append_left _ (List.mem_append_left _ (List.mem_append_left _ (List.mem_append_left _ (List.mem_of_getElem? (i := 0) rfl)))))))) (fun _ h9 => h9) (v := .ref (M 0)) rfl dX4_worthOfAll_74 ?_
                  refine lv_aload hx hb dX4_worthOfAll_77 (lv_at hl 0 rfl) ?_
                  refine g_getN S hE hI (C := RX2) (T := TX2) (N := 7) (ref := "StonecutterYard$Slab") (host := "StonecutterYard") (fun w h => (List.mem_cons_of_mem _ (List.mem_append_left _ (List.mem_append_left _ (List.mem_append_right _ h))))) hsl rfl 0 (by decide) (List.mem_of_getElem? (i := 3) rfl) (fun _ h9 => h9) (v := .int (nI (sW (yS y i)))) rfl dX4_worthOfAll_79 ?_
                  refine lv_aload hx hb dX4_worthOfAll_82 (lv_at hl 0 rfl) ?_
                  refine g_getN S hE hI (C := RX2) (T := TX2) (N := 7) (ref := "StonecutterYard$Slab") (host := "StonecutterYard") (fun w h => (List.mem_cons_of_mem _ (List.mem_append_left _ (List.mem_append_left _ (List.mem_append_right _ h))))) hsl rfl 1 (by decide) (List.mem_of_getElem? (i := 4) rfl) (fun _ h9 => h9) (v := .int (nI (sH (yS y i)))) rfl dX4_worthOfAll_84 ?_
                  refine g_callV (As := [.int (nI (sW (yS y i))), .int (nI (sH (yS y i)))]) (rest := [.int (nI acc)]) (b := (M 0)) (n := 2) S hE hI hA (c_X1_worthOf l K _ 3 M W1 C1 T1 vN (yF y) (sW (yS y i)) (sH (yS y i)) hwi ⟨s2, s4⟩) gX4_worthOfAll_X1_worthOf rfl (by decide +kernel) ⟨Nat.le_of_ble_eq_true rfl, Nat.le_of_ble_eq_true rfl⟩ (g_hro hE hI hwi.1 rfl) rfl hl.1 rfl (Nat.le_of_ble_eq_true rfl) dX4_worthOfAll_87 ⟨Nat.le_of_ble_eq_true rfl, Nat.le_of_ble_eq_true rfl⟩ (fun E ce q9 Gx H1 locs1 hx9 => hx9.elim) (fun rv Gc_87 H locs hp hI => ?_)
                  obtain ⟨rfl, hq9⟩ := hp
                  rw [hq9] at hI
                  rw [(htb _ _ s1 s3 (yLong_ge (b := true) c_39 c_60 c_69) (yLong_ge (b := false) c_39 c_60 c_69)).1]
                  refine W.eq (g2 := F0 m 90 ls [.int (nI (wV (ySt2 y g) (yF y) (sW (yS y i)) (sH (yS y i)))), .int (nI acc)]) rfl ?_
                  refine t_iadd hx hb dX4_worthOfAll_90 (nI_add _ _) ?_
                  refine lv_istore_n (lv' := [(2, .int (nI (acc + (wV (ySt2 y g) (yF y) (sW (yS y i)) (sH (yS y i)))))), (5, .ref (L 3 i)), (0, .ref hy), (1, .ref (L 0 0)), (3, .int (nI g)), (4, .int (nI i))]) hx hb dX4_worthOfAll_91 rfl hl (by decide) rfl (fun ls hl => ?_)
                  refine lv_iinc (v := nI (i + 1)) (lv' := [(4, .int (nI (i + 1))), (2, .int (nI (acc + (wV (ySt2 y g) (yF y) (sW (yS y i)) (sH (yS y i)))))), (5, .ref (L 3 i)), (0, .ref hy), (1, .ref (L 0 0)), (3, .int (nI g))]) hx hb dX4_worthOfAll_92 hl (k := 5) rfl (nI_add _ 1) (by decide) rfl (fun ls hl => ?_)
                  refine lv_goto (tgt := 33) hx hb dX4_worthOfAll_95 (by decide) ?_
                  exact ih33 (i + 1) _ W1 C1 T1 G1 H locs ls (by omega) (by omega) (by rw [hacc, sumN_s, if_pos ⟨c_60, c_69⟩]; omega) htb hwi hai hI (lv_sub hl [3,4,1,5,0] rfl)
        exact L33 _ 0 acc W2 C2 T2 Gc_27 H locs ls (Nat.lt_succ_self _) (Nat.zero_le _) (by rw [hacc]; rfl) htb hw2 (hai.tr ha2) hI (lv_sub hl [1,2,3,4,0] rfl)
  exact L4 _ 0 0 vW vC vT kf0 G H locs ls (Nat.lt_succ_self _) (by decide) rfl hw0 Ag.rf hI (lv_sub hl [2,3,1,0] rfl)
set_option maxHeartbeats 4000000 in
set_option maxRecDepth 100000 in
/-- worthMore -/
theorem c_moreC (l : Launch) (K : gK) (G : gW) (L1 L2 : Nat → Nat → Nat) (M : Nat → Nat) (hy : Nat) (y : YV) (i q : Nat) (hlS : l.stackTraces = false) (hy0 : YardC K L1 L2 M hy G y) (hi : i < yKc y) (hb9 : 1 ≤ q ∧ q ≤ 999) : gM l yX4_worthMore wsX4_worthMore 7 169 0 0 K [.ref hy, .int (nI i), .int (nI q)] G (oPost K L1 L2 M hy G (oMore y (nI i) (nI q))) (oX K L1 L2 M hy G (oMore y (nI i) (nI q)) (ex2 eIO eIA)) := by
  refine gM.of (cc := cX4_worthMore) (maxL := 3) (ret := (some .int)) (by decide) rfl (Nat.le_of_ble_eq_true rfl) ?_
  intro p e s m below meth c A S hr hlocks htab hname hE hA hI ls hl
  have hx := S.1
  have hb := S.2.1
  have hml := S.2.2.1
  have hl : lv_has ls 3 [(0, .ref hy), (1, .int (nI i)), (2, .int (nI q))] := hl
  have hs := hy0.2.1
  have hy9 := hy0.1
  have h44 := hs.1.2.2.2.1
  have h6 := hs.1.2.2.2.2.1
  have hf2 := hs.1.2.2.2.2.2
  have hc40 := hy0.2.2.2.2
  have hri : inR (nI i) (yKc y) = true := inR_nI hi (by omega)
  have hiN : iN (nI i) = i := iN_nI (by omega)
  obtain ⟨y2, ht0⟩ := hy0.2.2.1
  have hx3 : inB (nI q) 1 999 = true := by rw [inB_nI (by omega)]; exact decide_eq_true (by omega)
  have ho : oMore y (nI i) (nI q) = (0, nI (yAll (ySetK y i (kPr (yK y i) q))) - nI (yAll y), y) := by unfold oMore; rw [if_pos hri, hiN, if_pos (by rw [inB_nI (by omega)]; exact decide_eq_true (by omega)), iN_nI (by omega)]
  obtain ⟨H, hHe⟩ : ∃ z, z = s.heap := ⟨_, rfl⟩
  obtain ⟨locs, hLe⟩ : ∃ z : List Loc, z = [] := ⟨_, rfl⟩
  rw [← hHe, ← hLe]
  have hI : gI K A s G H locs := by rw [hHe, hLe]; exact hI
  clear hHe hLe
  refine lv_aload_n hx hb dX4_worthMore_0 rfl (lv_at hl 0 rfl) ?_
  refine lv_iload_n hx hb dX4_worthMore_1 rfl (lv_at hl 1 rfl) ?_
  refine g_callV (As := [.int (nI i)]) (rest := []) (b := hy) (n := 1) S hE hI hA (c_kindOfIn l K _ L1 L2 M hy y i hlS hy0 hi) gX4_worthMore_X4_kindOf rfl (by decide +kernel) ⟨Nat.le_of_ble_eq_true rfl, Nat.le_of_ble_eq_true rfl⟩ (g_hro hE hI hy9 rfl) rfl hl.1 rfl (Nat.le_of_ble_eq_true rfl) dX4_worthMore_2 ⟨Nat.le_of_ble_eq_true rfl, Nat.le_of_ble_eq_true rfl⟩ (fun E ce q9 Gx H locs hx9 hI hce hcv hcl => ?_) (fun rv Gc_2 H locs hp hI => ?_)
  · skip
    exact hx9.elim
  obtain ⟨rfl, hq9⟩ := hp
  rw [hq9] at hI
  refine W.eq (g2 := F0 m 5 ls [.ref (L1 5 i)]) rfl ?_
  refine lv_pop hx hb dX4_worthMore_5 rfl ?_
  refine lv_iload_n hx hb dX4_worthMore_6 rfl (lv_at hl 2 rfl) ?_
  refine g_callS (As := [.int (nI q)]) (rest := []) (n := 1) S hE hI hA (c_X4_isPrice l K _ (nI q)) gX4_worthMore_X4_isPrice rfl (by decide +kernel) ⟨Nat.le_of_ble_eq_true rfl, Nat.le_of_ble_eq_true rfl⟩ rfl hl.1 rfl (Nat.le_of_ble_eq_true rfl) dX4_worthMore_7 ⟨Nat.le_of_ble_eq_true rfl, Nat.le_of_ble_eq_true rfl⟩ (fun E ce q9 Gx H1 locs1 hx9 => hx9.elim) (fun rv Gc_7 H locs hp hI => ?_)
  obtain ⟨rfl, hq9⟩ := hp
  rw [hq9] at hI
  refine W.eq (g2 := F0 m 10 ls [.int (bI (inB (nI q) 1 999))]) rfl ?_
  refine lv_if_ne (tgt := 23) hx hb dX4_worthMore_10 (by decide) (fun c_10 => ?_) (fun c_10 => ?_)
  · skip
    have c_10 : (inB (nI q) 1 999) = true := bI_1.mp c_10
    refine lv_aload_n hx hb dX4_worthMore_23 rfl (lv_at hl 0 rfl) ?_
    refine g_get S hE hI (C := RX4) (T := TX4) (N := 3) (ref := "StonecutterYard") (fun w h => (List.mem_cons_of_mem _ (List.mem_append_left _ (List.mem_append_left _ (List.mem_append_left _ (List.mem_append_left _ (List.mem_append_left _ (List.mem_append_left _ (List.mem_append_right _ h))))))))) hy9 rfl 1 (by decide) (List.mem_cons_of_mem _ (List.mem_append_left _ (List.mem_append_left _ (List.mem_append_left _ (List.mem_append_left _ (List.mem_append_left _ (List.mem_append_left _ (List.mem_append_left _ (List.mem_append_left _ (List.mem_of_getElem? (i := 2) rfl)))))))))) (fun _ h9 => h9) (v := .ref (L2 0 0)) rfl dX4_worthMore_24 ?_
    refine lv_aload_n hx hb dX4_worthMore_27 rfl (lv_at hl 0 rfl) ?_
    refine g_get S hE hI (C := RX4) (T := TX4) (N := 3) (ref := "StonecutterYard") (fun w h => (List.mem_cons_of_mem _ (List.mem_append_left _ (List.mem_append_left _ (List.mem_append_left _ (List.mem_append_left _ (List.mem_append_left _ (List.mem_append_left _ (List.mem_append_right _ h))))))))) hy9 rfl 0 (by decide) (List.mem_cons_of_mem _ (List.mem_append_left _ (List.mem_append_left _ (List.mem_append_left _ (List.mem_append_left _ (List.mem_append_left _ (List.mem_append_left _ (List.mem_append_left _ (List.mem_append_left _ (List.mem_of_getElem? (i := 3) rfl)))))))))) (fun _ h9 => h9) (v := .ref (L1 0 0)) rfl dX4_worthMore_28 ?_
    refine g_callV (As := [.ref (L1 0 0)]) (rest := []) (b := (L2 0 0)) (n := 1) S hE hI hA (c_X3_copyFrom l K _ false 2 L2 y2 true 1 L1 y ht0 hs (by decide)) gX4_worthMore_X3_copyFrom rfl (by decide +kernel) ⟨Nat.le_of_ble_eq_true rfl, Nat.le_of_ble_eq_true rfl⟩ (g_hro hE hI ht0.1.1 rfl) rfl hl.1 rfl (Nat.le_of_ble_eq_true rfl) dX4_worthMore_31 ⟨Nat.le_of_ble_eq_true rfl, Nat.le_of_ble_eq_true rfl⟩ (fun E ce q9 Gx H1 locs1 hx9 => hx9.elim) (fun rv Gc_31 H locs hp hI => ?_)
    obtain ⟨rfl, hst, hat⟩ := hp
    have hyc : YardC K L1 L2 M hy Gc_31 y := hy0.trial hst hat
    refine W.eq (g2 := F0 m 34 ls []) rfl ?_
    refine lv_aload_n hx hb dX4_worthMore_34 rfl (lv_at hl 0 rfl) ?_
    refine g_get S hE hI (C := RX4) (T := TX4) (N := 3) (ref := "StonecutterYard") (fun w h => (List.mem_cons_of_mem _ (List.mem_append_left _ (List.mem_append_left _ (List.mem_append_left _ (List.mem_append_left _ (List.mem_append_left _ (List.mem_append_left _ (List.mem_append_right _ h))))))))) hyc.1 rfl 1 (by decide) (List.mem_cons_of_mem _ (List.mem_append_left _ (List.mem_append_left _ (List.mem_append_left _ (List.mem_append_left _ (List.mem_append_left _ (List.mem_append_left _ (List.mem_append_left _ (List.mem_append_left _ (List.mem_of_getElem? (i := 2) rfl)))))))))) (fun _ h9 => h9) (v := .ref (L2 0 0)) rfl dX4_worthMore_35 ?_
    refine lv_iload_n hx hb dX4_worthMore_38 rfl (lv_at hl 1 rfl) ?_
    refine lv_iload_n hx hb dX4_worthMore_39 rfl (lv_at hl 2 rfl) ?_
    refine g_callV (As := [.int (nI i), .int (nI q)]) (rest := []) (b := (L2 0 0)) (n := 2) S hE hI hA (c_X3_setPrice l K _ false 2 L2 y i q hst hi hb9) gX4_worthMore_X3_setPrice rfl (by decide +kernel) ⟨Nat.le_of_ble_eq_true rfl, Nat.le_of_ble_eq_true rfl⟩ (g_hro hE hI hst.1.1 rfl) rfl hl.1 rfl (Nat.le_of_ble_eq_true rfl) dX4_worthMore_40 ⟨Nat.le_of_ble_eq_true rfl, Nat.le_of_ble_eq_true rfl⟩ (fun E ce q9 Gx H1 locs1 hx9 => hx9.elim) (fun rv Gc_40 H locs hp hI => ?_)
    obtain ⟨rfl, hst2, hat2⟩ := hp
    have hyp : YardC K L1 L2 M hy Gc_40 y := hyc.trial hst2 hat2
    obtain ⟨vW, vC, vT, vN, kf0, hw0⟩ := hyp.2.2.2.1
    refine W.eq (g2 := F0 m 43 ls []) rfl ?_
    refine lv_aload_n hx hb dX4_worthMore_43 rfl (lv_at hl 0 rfl) ?_
    refine lv_aload_n hx hb dX4_worthMore_44 rfl (lv_at hl 0 rfl) ?_
    refine g_get S hE hI (C := RX4) (T := TX4) (N := 3) (ref := "StonecutterYard") (fun w h => (List.mem_cons_of_mem _ (List.mem_append_left _ (List.mem_append_left _ (List.mem_append_left _ (List.mem_append_left _ (List.mem_append_left _ (List.mem_append_left _ (List.mem_append_right _ h))))))))) hyp.1 rfl 1 (by decide) (List.mem_cons_of_mem _ (List.mem_append_left _ (List.mem_append_left _ (List.mem_append_left _ (List.mem_append_left _ (List.mem_append_left _ (List.mem_append_left _ (List.mem_append_left _ (List.mem_append_left _ (List.mem_of_getElem? (i := 2) rfl)))))))))) (fun _ h9 => h9) (v := .ref (L2 0 0)) rfl dX4_worthMore_45 ?_
    refine g_callV (As := [.ref (L2 0 0)]) (rest := []) (b := hy) (n := 1) S hE hI hA (c_X4_worthOfAll l K _ M vW vC vT vN kf0 (L1 0 0) (L2 0 0) hy false 2 L2 (ySetK y i (kPr (yK y i) q)) hyp.1 hw0 hst2 (by decide)) gX4_worthMore_X4_worthOfAll rfl (by decide +kernel) ⟨Nat.le_of_ble_eq_true rfl, Nat.le_of_ble_eq_true rfl⟩ (g_hro hE hI hyp.1 rfl) rfl hl.1 rfl (Nat.le_of_ble_eq_true rfl) dX4_worthMore_48 ⟨Nat.le_of_ble_eq_true rfl, Nat.le_of_ble_eq_true rfl⟩ (fun E ce q9 Gx H1 locs1 hx9 => hx9.elim) (fun rv Gc_48 H locs hp hI => ?_)
    obtain ⟨rfl, ⟨W48, C48, T48, N48, k489, hw48⟩, ha48⟩ := hp
    have hyw : YardC K L1 L2 M hy Gc_48 y := hyp.saw hw48 ha48
    refine W.eq (g2 := F0 m 51 ls [.int (nI (yAll (ySetK y i (kPr (yK y i) q))))]) rfl ?_
    refine lv_aload_n hx hb dX4_worthMore_51 rfl (lv_at hl 0 rfl) ?_
    refine lv_aload_n hx hb dX4_worthMore_52 rfl (lv_at hl 0 rfl) ?_
    refine g_get S hE hI (C := RX4) (T := TX4) (N := 3) (ref := "StonecutterYard") (fun w h => (List.mem_cons_of_mem _ (List.mem_append_left _ (List.mem_append_left _ (List.mem_append_left _ (List.mem_append_left _ (List.mem_append_left _ (List.mem_append_left _ (List.mem_append_right _ h))))))))) hyw.1 rfl 0 (by decide) (List.mem_cons_of_mem _ (List.mem_append_left _ (List.mem_append_left _ (List.mem_append_left _ (List.mem_append_left _ (List.mem_append_left _ (List.mem_append_left _ (List.mem_append_left _ (List.mem_append_left _ (List.mem_of_getElem? (i := 3) rfl)))))))))) (fun _ h9 => h9) (v := .ref (L1 0 0)) rfl dX4_worthMore_53 ?_
    refine g_callV (As := [.ref (L1 0 0)]) (rest := [.int (nI (yAll (ySetK y i (kPr (yK y i) q))))]) (b := hy) (n := 1) S hE hI hA (c_X4_worthOfAll l K _ M W48 C48 T48 N48 k489 (L1 0 0) (L2 0 0) hy true 1 L1 y hyw.1 hw48 hyw.2.1 (by decide)) gX4_worthMore_X4_worthOfAll rfl (by decide +kernel) ⟨Nat.le_of_ble_eq_true rfl, Nat.le_of_ble_eq_true rfl⟩ (g_hro hE hI hyw.1 rfl) rfl hl.1 rfl (Nat.le_of_ble_eq_true rfl) dX4_worthMore_56 ⟨Nat.le_of_ble_eq_true rfl, Nat.le_of_ble_eq_true rfl⟩ (fun E ce q9 Gx H1 locs1 hx9 => hx9.elim) (fun rv Gc_56 H locs hp hI => ?_)
    obtain ⟨rfl, ⟨W56, C56, T56, N56, k569, hw56⟩, ha56⟩ := hp
    have hyz : YardC K L1 L2 M hy Gc_56 y := hyw.saw hw56 ha56
    refine W.eq (g2 := F0 m 59 ls [.int (nI (yAll y)), .int (nI (yAll (ySetK y i (kPr (yK y i) q))))]) rfl ?_
    refine lv_isub hx hb dX4_worthMore_59 ?_
    exact g_iret S hI hr hlocks (Nat.zero_le _) (Nat.zero_le _) dX4_worthMore_60 (by rw [ho]; exact ⟨rfl, rfl, hyz, ((hat.y (by decide)).tr (hat2.y (by decide))).tr ((ha48.y (by decide)).tr (ha56.y (by decide)))⟩)
  · skip
    have c_10 : (inB (nI q) 1 999) = false := bI_0.mp c_10
    rw [hx3] at c_10; cases c_10
set_option maxHeartbeats 4000000 in
set_option maxRecDepth 100000 in
/-- wasteBy: it does not fit -/
theorem c_wasteByC (l : Launch) (K : gK) (G : gW) (L1 L2 : Nat → Nat → Nat) (M : Nat → Nat) (hy : Nat) (y : YV) (i j : Nat) (hlS : l.stackTraces = false) (hy0 : YardC K L1 L2 M hy G y) (hi : i < ySc y) (hj : j < yKc y) (hfit : sFits (yS y i) (yK y j) = none) : gM l yX4_wasteBy wsX4_wasteBy 6 145 0 0 K [.ref hy, .int (nI i), .int (nI j)] G (oPost K L1 L2 M hy G (oWasteBy y (nI i) (nI j))) (oX K L1 L2 M hy G (oWasteBy y (nI i) (nI j)) (ex1 eIO)) := by
  refine gM.of (cc := cX4_wasteBy) (maxL := 3) (ret := (some .int)) (by decide) rfl (Nat.le_of_ble_eq_true rfl) ?_
  intro p e s m below meth c A S hr hlocks htab hname hE hA hI ls hl
  have hx := S.1
  have hb := S.2.1
  have hml := S.2.2.1
  have hl : lv_has ls 3 [(0, .ref hy), (1, .int (nI i)), (2, .int (nI j))] := hl
  have hs := hy0.2.1
  have hy9 := hy0.1
  have h44 := hs.1.2.2.2.1
  have h6 := hs.1.2.2.2.2.1
  have hf2 := hs.1.2.2.2.2.2
  have hc40 := hy0.2.2.2.2
  have hri : inR (nI i) (ySc y) = true := inR_nI hi (by omega)
  have hiN : iN (nI i) = i := iN_nI (by omega)
  have hrj : inR (nI j) (yKc y) = true := inR_nI hj (by omega)
  have hjN : iN (nI j) = j := iN_nI (by omega)
  obtain ⟨P, hsl, hpt, hpk, hsok⟩ := hs.slab hi
  have hsok9 := hsok
  obtain ⟨s1, s2, s3, s4, s5, s6, s7, s8⟩ := hsok9
  obtain ⟨hkd, hkok⟩ := hs.kind hj
  have hkok9 := hkok
  obtain ⟨k1, k2, k3, k4, k5, k6, k7, k8, k9⟩ := hkok9
  have ho : oWasteBy y (nI i) (nI j) = (0, -1, y) := by unfold oWasteBy; rw [if_pos (by rw [hri, hrj]; rfl), hiN, hjN, hfit]
  obtain ⟨H, hHe⟩ : ∃ z, z = s.heap := ⟨_, rfl⟩
  obtain ⟨locs, hLe⟩ : ∃ z : List Loc, z = [] := ⟨_, rfl⟩
  rw [← hHe, ← hLe]
  have hI : gI K A s G H locs := by rw [hHe, hLe]; exact hI
  clear hHe hLe
  refine lv_aload_n hx hb dX4_wasteBy_0 rfl (lv_at hl 0 rfl) ?_
  refine lv_iload_n hx hb dX4_wasteBy_1 rfl (lv_at hl 1 rfl) ?_
  refine g_callV (As := [.int (nI i)]) (rest := []) (b := hy) (n := 1) S hE hI hA (c_slabOfIn l K _ L1 L2 M hy y i hlS hy0 hi) gX4_wasteBy_X4_slabOf rfl (by decide +kernel) ⟨Nat.le_of_ble_eq_true rfl, Nat.le_of_ble_eq_true rfl⟩ (g_hro hE hI hy9 rfl) rfl hl.1 rfl (Nat.le_of_ble_eq_true rfl) dX4_wasteBy_2 ⟨Nat.le_of_ble_eq_true rfl, Nat.le_of_ble_eq_true rfl⟩ (fun E ce q9 Gx H locs hx9 hI hce hcv hcl => ?_) (fun rv Gc_2 H locs hp hI => ?_)
  · skip
    exact hx9.elim
  obtain ⟨rfl, hq9⟩ := hp
  rw [hq9] at hI
  refine W.eq (g2 := F0 m 5 ls [.ref (L1 3 i)]) rfl ?_
  refine lv_aload_n hx hb dX4_wasteBy_5 rfl (lv_at hl 0 rfl) ?_
  refine lv_iload_n hx hb dX4_wasteBy_6 rfl (lv_at hl 2 rfl) ?_
  refine g_callV (As := [.int (nI j)]) (rest := [.ref (L1 3 i)]) (b := hy) (n := 1) S hE hI hA (c_kindOfIn l K _ L1 L2 M hy y j hlS hy0 hj) gX4_wasteBy_X4_kindOf rfl (by decide +kernel) ⟨Nat.le_of_ble_eq_true rfl, Nat.le_of_ble_eq_true rfl⟩ (g_hro hE hI hy9 rfl) rfl hl.1 rfl (Nat.le_of_ble_eq_true rfl) dX4_wasteBy_7 ⟨Nat.le_of_ble_eq_true rfl, Nat.le_of_ble_eq_true rfl⟩ (fun E ce q9 Gx H locs hx9 hI hce hcv hcl => ?_) (fun rv Gc_7 H locs hp hI => ?_)
  · skip
    exact hx9.elim
  obtain ⟨rfl, hq9⟩ := hp
  rw [hq9] at hI
  refine W.eq (g2 := F0 m 10 ls [.ref (L1 5 j), .ref (L1 3 i)]) rfl ?_
  refine g_callV (As := [.ref (L1 5 j)]) (rest := []) (b := (L1 3 i)) (n := 1) S hE hI hA (c_X2_firstManner l K _ (1, 3, i) (1, 4, i) (1, 5, j) (L1 3 i) (L1 5 j) (yS y i) (L1 4 i) P (yK y j) hsl hpt hkd hsok hkok hpk) gX4_wasteBy_X2_firstManner rfl (by decide +kernel) ⟨Nat.le_of_ble_eq_true rfl, Nat.le_of_ble_eq_true rfl⟩ (g_hro hE hI hsl rfl) rfl hl.1 rfl (Nat.le_of_ble_eq_true rfl) dX4_wasteBy_10 ⟨Nat.le_of_ble_eq_true rfl, Nat.le_of_ble_eq_true rfl⟩ (fun E ce q9 Gx H1 locs1 hx9 => hx9.elim) (fun rv Gc_10 H locs hp hI => ?_)
  obtain ⟨rfl, hq9⟩ := hp
  rw [hq9] at hI
  rw [hfit]
  refine W.eq (g2 := F0 m 13 ls [.int (-1)]) rfl ?_
  refine lv_iconst (v := (-1)) hx hb dX4_wasteBy_13 (by decide) ?_
  refine lv_icmp_ne (tgt := 19) hx hb dX4_wasteBy_14 (by decide) (fun c_14 => ?_) (fun c_14 => ?_)
  · skip
    exact absurd rfl c_14
  · skip
    refine lv_iconst (v := (-1)) hx hb dX4_wasteBy_17 (by decide) ?_
    exact g_iret S hI hr hlocks (Nat.zero_le _) (Nat.zero_le _) dX4_wasteBy_18 (by rw [ho]; exact ⟨rfl, rfl, hy0, AgY.rf⟩)
set_option maxHeartbeats 4000000 in
set_option maxRecDepth 100000 in
/-- wasteBy -/
theorem c_wasteByD (l : Launch) (K : gK) (G : gW) (L1 L2 : Nat → Nat → Nat) (M : Nat → Nat) (hy : Nat) (y : YV) (i j mn : Nat) (hlS : l.stackTraces = false) (hy0 : YardC K L1 L2 M hy G y) (hi : i < ySc y) (hj : j < yKc y) (hfit : sFits (yS y i) (yK y j) = some mn) : gM l yX4_wasteBy wsX4_wasteBy 6 145 0 0 K [.ref hy, .int (nI i), .int (nI j)] G (oPost K L1 L2 M hy G (oWasteBy y (nI i) (nI j))) (oX K L1 L2 M hy G (oWasteBy y (nI i) (nI j)) (ex1 eIO)) := by
  refine gM.of (cc := cX4_wasteBy) (maxL := 3) (ret := (some .int)) (by decide) rfl (Nat.le_of_ble_eq_true rfl) ?_
  intro p e s m below meth c A S hr hlocks htab hname hE hA hI ls hl
  have hx := S.1
  have hb := S.2.1
  have hml := S.2.2.1
  have hl : lv_has ls 3 [(0, .ref hy), (1, .int (nI i)), (2, .int (nI j))] := hl
  have hs := hy0.2.1
  have hy9 := hy0.1
  have h44 := hs.1.2.2.2.1
  have h6 := hs.1.2.2.2.2.1
  have hf2 := hs.1.2.2.2.2.2
  have hc40 := hy0.2.2.2.2
  have hri : inR (nI i) (ySc y) = true := inR_nI hi (by omega)
  have hiN : iN (nI i) = i := iN_nI (by omega)
  have hrj : inR (nI j) (yKc y) = true := inR_nI hj (by omega)
  have hjN : iN (nI j) = j := iN_nI (by omega)
  obtain ⟨P, hsl, hpt, hpk, hsok⟩ := hs.slab hi
  have hsok9 := hsok
  obtain ⟨s1, s2, s3, s4, s5, s6, s7, s8⟩ := hsok9
  obtain ⟨hkd, hkok⟩ := hs.kind hj
  have hkok9 := hkok
  obtain ⟨k1, k2, k3, k4, k5, k6, k7, k8, k9⟩ := hkok9
  obtain ⟨y2, ht0⟩ := hy0.2.2.1
  have hmn := sFits_lt hfit
  have ho : oWasteBy y (nI i) (nI j) = (0, yWaste (yTake y i j mn), y) := by unfold oWasteBy; rw [if_pos (by rw [hri, hrj]; rfl), hiN, hjN, hfit]
  obtain ⟨H, hHe⟩ : ∃ z, z = s.heap := ⟨_, rfl⟩
  obtain ⟨locs, hLe⟩ : ∃ z : List Loc, z = [] := ⟨_, rfl⟩
  rw [← hHe, ← hLe]
  have hI : gI K A s G H locs := by rw [hHe, hLe]; exact hI
  clear hHe hLe
  refine lv_aload_n hx hb dX4_wasteBy_0 rfl (lv_at hl 0 rfl) ?_
  refine lv_iload_n hx hb dX4_wasteBy_1 rfl (lv_at hl 1 rfl) ?_
  refine g_callV (As := [.int (nI i)]) (rest := []) (b := hy) (n := 1) S hE hI hA (c_slabOfIn l K _ L1 L2 M hy y i hlS hy0 hi) gX4_wasteBy_X4_slabOf rfl (by decide +kernel) ⟨Nat.le_of_ble_eq_true rfl, Nat.le_of_ble_eq_true rfl⟩ (g_hro hE hI hy9 rfl) rfl hl.1 rfl (Nat.le_of_ble_eq_true rfl) dX4_wasteBy_2 ⟨Nat.le_of_ble_eq_true rfl, Nat.le_of_ble_eq_true rfl⟩ (fun E ce q9 Gx H locs hx9 hI hce hcv hcl => ?_) (fun rv Gc_2 H locs hp hI => ?_)
  · skip
    exact hx9.elim
  obtain ⟨rfl, hq9⟩ := hp
  rw [hq9] at hI
  refine W.eq (g2 := F0 m 5 ls [.ref (L1 3 i)]) rfl ?_
  refine lv_aload_n hx hb dX4_wasteBy_5 rfl (lv_at hl 0 rfl) ?_
  refine lv_iload_n hx hb dX4_wasteBy_6 rfl (lv_at hl 2 rfl) ?_
  refine g_callV (As := [.int (nI j)]) (rest := [.ref (L1 3 i)]) (b := hy) (n := 1) S hE hI hA (c_kindOfIn l K _ L1 L2 M hy y j hlS hy0 hj) gX4_wasteBy_X4_kindOf rfl (by decide +kernel) ⟨Nat.le_of_ble_eq_true rfl, Nat.le_of_ble_eq_true rfl⟩ (g_hro hE hI hy9 rfl) rfl hl.1 rfl (Nat.le_of_ble_eq_true rfl) dX4_wasteBy_7 ⟨Nat.le_of_ble_eq_true rfl, Nat.le_of_ble_eq_true rfl⟩ (fun E ce q9 Gx H locs hx9 hI hce hcv hcl => ?_) (fun rv Gc_7 H locs hp hI => ?_)
  · skip
    exact hx9.elim
  obtain ⟨rfl, hq9⟩ := hp
  rw [hq9] at hI
  refine W.eq (g2 := F0 m 10 ls [.ref (L1 5 j), .ref (L1 3 i)]) rfl ?_
  refine g_callV (As := [.ref (L1 5 j)]) (rest := []) (b := (L1 3 i)) (n := 1) S hE hI hA (c_X2_firstManner l K _ (1, 3, i) (1, 4, i) (1, 5, j) (L1 3 i) (L1 5 j) (yS y i) (L1 4 i) P (yK y j) hsl hpt hkd hsok hkok hpk) gX4_wasteBy_X2_firstManner rfl (by decide +kernel) ⟨Nat.le_of_ble_eq_true rfl, Nat.le_of_ble_eq_true rfl⟩ (g_hro hE hI hsl rfl) rfl hl.1 rfl (Nat.le_of_ble_eq_true rfl) dX4_wasteBy_10 ⟨Nat.le_of_ble_eq_true rfl, Nat.le_of_ble_eq_true rfl⟩ (fun E ce q9 Gx H1 locs1 hx9 => hx9.elim) (fun rv Gc_10 H locs hp hI => ?_)
  obtain ⟨rfl, hq9⟩ := hp
  rw [hq9] at hI
  rw [hfit]
  refine W.eq (g2 := F0 m 13 ls [.int (nI mn)]) rfl ?_
  refine lv_iconst (v := (-1)) hx hb dX4_wasteBy_13 (by decide) ?_
  refine lv_icmp_ne (tgt := 19) hx hb dX4_wasteBy_14 (by decide) (fun c_14 => ?_) (fun c_14 => ?_)
  · skip
    refine lv_aload_n hx hb dX4_wasteBy_19 rfl (lv_at hl 0 rfl) ?_
    refine g_get S hE hI (C := RX4) (T := TX4) (N := 3) (ref := "StonecutterYard") (fun w h => (List.mem_cons_of_mem _ (List.mem_append_left _ (List.mem_append_left _ (List.mem_append_left _ (List.mem_append_left _ (List.mem_append_right _ h))))))) hy9 rfl 1 (by decide) (List.mem_cons_of_mem _ (List.mem_append_left _ (List.mem_append_left _ (List.mem_append_left _ (List.mem_append_left _ (List.mem_append_left _ (List.mem_append_left _ (List.mem_of_getElem? (i := 0) rfl)))))))) (fun _ h9 => h9) (v := .ref (L2 0 0)) rfl dX4_wasteBy_20 ?_
    refine lv_aload_n hx hb dX4_wasteBy_23 rfl (lv_at hl 0 rfl) ?_
    refine g_get S hE hI (C := RX4) (T := TX4) (N := 3) (ref := "StonecutterYard") (fun w h => (List.mem_cons_of_mem _ (List.mem_append_left _ (List.mem_append_left _ (List.mem_append_left _ (List.mem_append_left _ (List.mem_append_right _ h))))))) hy9 rfl 0 (by decide) (List.mem_cons_of_mem _ (List.mem_append_left _ (List.mem_append_left _ (List.mem_append_left _ (List.mem_append_left _ (List.mem_append_left _ (List.mem_append_left _ (List.mem_of_getElem? (i := 1) rfl)))))))) (fun _ h9 => h9) (v := .ref (L1 0 0)) rfl dX4_wasteBy_24 ?_
    refine g_callV (As := [.ref (L1 0 0)]) (rest := []) (b := (L2 0 0)) (n := 1) S hE hI hA (c_X3_copyFrom l K _ false 2 L2 y2 true 1 L1 y ht0 hs (by decide)) gX4_wasteBy_X3_copyFrom rfl (by decide +kernel) ⟨Nat.le_of_ble_eq_true rfl, Nat.le_of_ble_eq_true rfl⟩ (g_hro hE hI ht0.1.1 rfl) rfl hl.1 rfl (Nat.le_of_ble_eq_true rfl) dX4_wasteBy_27 ⟨Nat.le_of_ble_eq_true rfl, Nat.le_of_ble_eq_true rfl⟩ (fun E ce q9 Gx H1 locs1 hx9 => hx9.elim) (fun rv Gc_27 H locs hp hI => ?_)
    obtain ⟨rfl, hst, hat⟩ := hp
    have hyc : YardC K L1 L2 M hy Gc_27 y := hy0.trial hst hat
    refine W.eq (g2 := F0 m 30 ls []) rfl ?_
    refine lv_aload_n hx hb dX4_wasteBy_30 rfl (lv_at hl 0 rfl) ?_
    refine g_get S hE hI (C := RX4) (T := TX4) (N := 3) (ref := "StonecutterYard") (fun w h => (List.mem_cons_of_mem _ (List.mem_append_left _ (List.mem_append_left _ (List.mem_append_left _ (List.mem_append_left _ (List.mem_append_right _ h))))))) hyc.1 rfl 1 (by decide) (List.mem_cons_of_mem _ (List.mem_append_left _ (List.mem_append_left _ (List.mem_append_left _ (List.mem_append_left _ (List.mem_append_left _ (List.mem_append_left _ (List.mem_of_getElem? (i := 0) rfl)))))))) (fun _ h9 => h9) (v := .ref (L2 0 0)) rfl dX4_wasteBy_31 ?_
    refine lv_iload_n hx hb dX4_wasteBy_34 rfl (lv_at hl 1 rfl) ?_
    refine lv_iload_n hx hb dX4_wasteBy_35 rfl (lv_at hl 2 rfl) ?_
    refine g_callV (As := [.int (nI i), .int (nI j)]) (rest := []) (b := (L2 0 0)) (n := 2) S hE hI hA (c_X3_takeStone l K _ false 2 L2 y i j mn hst hi hj hfit hc40) gX4_wasteBy_X3_takeStone rfl (by decide +kernel) ⟨Nat.le_of_ble_eq_true rfl, Nat.le_of_ble_eq_true rfl⟩ (g_hro hE hI hst.1.1 rfl) rfl hl.1 rfl (Nat.le_of_ble_eq_true rfl) dX4_wasteBy_36 ⟨Nat.le_of_ble_eq_true rfl, Nat.le_of_ble_eq_true rfl⟩ (fun E ce q9 Gx H1 locs1 hx9 => hx9.elim) (fun rv Gc_36 H locs hp hI => ?_)
    obtain ⟨rfl, hst2, hat2⟩ := hp
    have hyp : YardC K L1 L2 M hy Gc_36 y := hyc.trial hst2 hat2
    refine W.eq (g2 := F0 m 39 ls [.int (nI (sellP (yK y j)))]) rfl ?_
    refine lv_pop hx hb dX4_wasteBy_39 rfl ?_
    refine lv_aload_n hx hb dX4_wasteBy_40 rfl (lv_at hl 0 rfl) ?_
    refine g_get S hE hI (C := RX4) (T := TX4) (N := 3) (ref := "StonecutterYard") (fun w h => (List.mem_cons_of_mem _ (List.mem_append_left _ (List.mem_append_left _ (List.mem_append_left _ (List.mem_append_left _ (List.mem_append_right _ h))))))) hyp.1 rfl 1 (by decide) (List.mem_cons_of_mem _ (List.mem_append_left _ (List.mem_append_left _ (List.mem_append_left _ (List.mem_append_left _ (List.mem_append_left _ (List.mem_append_left _ (List.mem_of_getElem? (i := 0) rfl)))))))) (fun _ h9 => h9) (v := .ref (L2 0 0)) rfl dX4_wasteBy_41 ?_
    refine g_callV (As := []) (rest := []) (b := (L2 0 0)) (n := 0) S hE hI hA (c_X3_waste l K _ false 2 L2 (yTake y i j mn) hst2) gX4_wasteBy_X3_waste rfl (by decide +kernel) ⟨Nat.le_of_ble_eq_true rfl, Nat.le_of_ble_eq_true rfl⟩ (g_hro hE hI hst2.1.1 rfl) rfl hl.1 rfl (Nat.le_of_ble_eq_true rfl) dX4_wasteBy_44 ⟨Nat.le_of_ble_eq_true rfl, Nat.le_of_ble_eq_true rfl⟩ (fun E ce q9 Gx H1 locs1 hx9 => hx9.elim) (fun rv Gc_44 H locs hp hI => ?_)
    obtain ⟨rfl, hq9⟩ := hp
    rw [hq9] at hI
    refine W.eq (g2 := F0 m 47 ls [.int (yWaste (yTake y i j mn))]) rfl ?_
    exact g_iret S hI hr hlocks (Nat.zero_le _) (Nat.zero_le _) dX4_wasteBy_47 (by rw [ho]; exact ⟨rfl, rfl, hyp, (hat.y (by decide)).tr (hat2.y (by decide))⟩)
  · skip
    exact absurd c_14 (nI_m1 (by omega))
set_option maxHeartbeats 4000000 in
set_option maxRecDepth 100000 in
/-- planPays -/
theorem c_paysB (l : Launch) (K : gK) (G : gW) (L1 L2 : Nat → Nat → Nat) (M : Nat → Nat) (hy : Nat) (y : YV) (n9 : Nat) (hlS : l.stackTraces = false) (hy0 : YardC K L1 L2 M hy G y) (hn9 : 1 ≤ n9 ∧ n9 ≤ 20) : gM l yX4_planPays wsX4_planPays 7 169 0 0 K [.ref hy, .int (nI n9)] G (oPost K L1 L2 M hy G (oPays y (nI n9))) (oX K L1 L2 M hy G (oPays y (nI n9)) (ex1 eIA)) := by
  refine gM.of (cc := cX4_planPays) (maxL := 2) (ret := (some .int)) (by decide) rfl (Nat.le_of_ble_eq_true rfl) ?_
  intro p e s m below meth c A S hr hlocks htab hname hE hA hI ls hl
  have hx := S.1
  have hb := S.2.1
  have hml := S.2.2.1
  have hl : lv_has ls 2 [(0, .ref hy), (1, .int (nI n9))] := hl
  have hs := hy0.2.1
  have hy9 := hy0.1
  have h44 := hs.1.2.2.2.1
  have h6 := hs.1.2.2.2.2.1
  have hf2 := hs.1.2.2.2.2.2
  have hc40 := hy0.2.2.2.2
  obtain ⟨y2, ht0⟩ := hy0.2.2.1
  have ho : oPays y (nI n9) = (0, yPays y n9, y) := by unfold oPays; rw [if_pos (by rw [inB_nI (by omega)]; exact decide_eq_true (by omega)), iN_nI (by omega)]
  obtain ⟨H, hHe⟩ : ∃ z, z = s.heap := ⟨_, rfl⟩
  obtain ⟨locs, hLe⟩ : ∃ z : List Loc, z = [] := ⟨_, rfl⟩
  rw [← hHe, ← hLe]
  have hI : gI K A s G H locs := by rw [hHe, hLe]; exact hI
  clear hHe hLe
  refine lv_iload_n hx hb dX4_planPays_0 rfl (lv_at hl 1 rfl) ?_
  refine g_callS (As := [.int (nI n9)]) (rest := []) (n := 1) S hE hI hA (c_reqMostIn l K _ n9 hlS hn9) gX4_planPays_X4_requireMost rfl (by decide +kernel) ⟨Nat.le_of_ble_eq_true rfl, Nat.le_of_ble_eq_true rfl⟩ rfl hl.1 rfl (Nat.le_of_ble_eq_true rfl) dX4_planPays_1 ⟨Nat.le_of_ble_eq_true rfl, Nat.le_of_ble_eq_true rfl⟩ (fun E ce q9 Gx H1 locs1 hx9 => hx9.elim) (fun rv Gc_1 H locs hp hI => ?_)
  obtain ⟨rfl, hq9⟩ := hp
  rw [hq9] at hI
  refine W.eq (g2 := F0 m 4 ls []) rfl ?_
  refine lv_aload_n hx hb dX4_planPays_4 rfl (lv_at hl 0 rfl) ?_
  refine g_get S hE hI (C := RX4) (T := TX4) (N := 3) (ref := "StonecutterYard") (fun w h => (List.mem_cons_of_mem _ (List.mem_append_left _ (List.mem_append_left _ (List.mem_append_left _ (List.mem_append_left _ (List.mem_append_right _ h))))))) hy9 rfl 1 (by decide) (List.mem_cons_of_mem _ (List.mem_append_left _ (List.mem_append_left _ (List.mem_append_left _ (List.mem_append_left _ (List.mem_append_left _ (List.mem_append_left _ (List.mem_of_getElem? (i := 0) rfl)))))))) (fun _ h9 => h9) (v := .ref (L2 0 0)) rfl dX4_planPays_5 ?_
  refine lv_aload_n hx hb dX4_planPays_8 rfl (lv_at hl 0 rfl) ?_
  refine g_get S hE hI (C := RX4) (T := TX4) (N := 3) (ref := "StonecutterYard") (fun w h => (List.mem_cons_of_mem _ (List.mem_append_left _ (List.mem_append_left _ (List.mem_append_left _ (List.mem_append_left _ (List.mem_append_right _ h))))))) hy9 rfl 0 (by decide) (List.mem_cons_of_mem _ (List.mem_append_left _ (List.mem_append_left _ (List.mem_append_left _ (List.mem_append_left _ (List.mem_append_left _ (List.mem_append_left _ (List.mem_of_getElem? (i := 1) rfl)))))))) (fun _ h9 => h9) (v := .ref (L1 0 0)) rfl dX4_planPays_9 ?_
  refine g_callV (As := [.ref (L1 0 0)]) (rest := []) (b := (L2 0 0)) (n := 1) S hE hI hA (c_X3_copyFrom l K _ false 2 L2 y2 true 1 L1 y ht0 hs (by decide)) gX4_planPays_X3_copyFrom rfl (by decide +kernel) ⟨Nat.le_of_ble_eq_true rfl, Nat.le_of_ble_eq_true rfl⟩ (g_hro hE hI ht0.1.1 rfl) rfl hl.1 rfl (Nat.le_of_ble_eq_true rfl) dX4_planPays_12 ⟨Nat.le_of_ble_eq_true rfl, Nat.le_of_ble_eq_true rfl⟩ (fun E ce q9 Gx H1 locs1 hx9 => hx9.elim) (fun rv Gc_12 H locs hp hI => ?_)
  obtain ⟨rfl, hst, hat⟩ := hp
  have hyc : YardC K L1 L2 M hy Gc_12 y := hy0.trial hst hat
  refine W.eq (g2 := F0 m 15 ls []) rfl ?_
  refine lv_aload_n hx hb dX4_planPays_15 rfl (lv_at hl 0 rfl) ?_
  refine g_get S hE hI (C := RX4) (T := TX4) (N := 3) (ref := "StonecutterYard") (fun w h => (List.mem_cons_of_mem _ (List.mem_append_left _ (List.mem_append_left _ (List.mem_append_left _ (List.mem_append_left _ (List.mem_append_right _ h))))))) hyc.1 rfl 1 (by decide) (List.mem_cons_of_mem _ (List.mem_append_left _ (List.mem_append_left _ (List.mem_append_left _ (List.mem_append_left _ (List.mem_append_left _ (List.mem_append_left _ (List.mem_of_getElem? (i := 0) rfl)))))))) (fun _ h9 => h9) (v := .ref (L2 0 0)) rfl dX4_planPays_16 ?_
  refine lv_iload_n hx hb dX4_planPays_19 rfl (lv_at hl 1 rfl) ?_
  refine g_callV (As := [.int (nI n9)]) (rest := []) (b := (L2 0 0)) (n := 1) S hE hI hA (c_X3_takeByPlan l K _ false 2 L2 y n9 hst hn9.2) gX4_planPays_X3_takeByPlan rfl (by decide +kernel) ⟨Nat.le_of_ble_eq_true rfl, Nat.le_of_ble_eq_true rfl⟩ (g_hro hE hI hst.1.1 rfl) rfl hl.1 rfl (Nat.le_of_ble_eq_true rfl) dX4_planPays_20 ⟨Nat.le_of_ble_eq_true rfl, Nat.le_of_ble_eq_true rfl⟩ (fun E ce q9 Gx H1 locs1 hx9 => hx9.elim) (fun rv Gc_20 H locs hp hI => ?_)
  obtain ⟨rfl, hst2, hat2⟩ := hp
  have hyp : YardC K L1 L2 M hy Gc_20 y := hyc.trial hst2 hat2
  refine W.eq (g2 := F0 m 23 ls [.int (nI ((yPlan n9 y).1))]) rfl ?_
  refine lv_pop hx hb dX4_planPays_23 rfl ?_
  refine lv_aload_n hx hb dX4_planPays_24 rfl (lv_at hl 0 rfl) ?_
  refine g_get S hE hI (C := RX4) (T := TX4) (N := 3) (ref := "StonecutterYard") (fun w h => (List.mem_cons_of_mem _ (List.mem_append_left _ (List.mem_append_left _ (List.mem_append_left _ (List.mem_append_left _ (List.mem_append_right _ h))))))) hyp.1 rfl 1 (by decide) (List.mem_cons_of_mem _ (List.mem_append_left _ (List.mem_append_left _ (List.mem_append_left _ (List.mem_append_left _ (List.mem_append_left _ (List.mem_append_left _ (List.mem_of_getElem? (i := 0) rfl)))))))) (fun _ h9 => h9) (v := .ref (L2 0 0)) rfl dX4_planPays_25 ?_
  refine g_callV (As := []) (rest := []) (b := (L2 0 0)) (n := 0) S hE hI hA (c_X3_sumPaid l K _ false 2 L2 (yPlan n9 y).2 hst2) gX4_planPays_X3_sumPaid rfl (by decide +kernel) ⟨Nat.le_of_ble_eq_true rfl, Nat.le_of_ble_eq_true rfl⟩ (g_hro hE hI hst2.1.1 rfl) rfl hl.1 rfl (Nat.le_of_ble_eq_true rfl) dX4_planPays_28 ⟨Nat.le_of_ble_eq_true rfl, Nat.le_of_ble_eq_true rfl⟩ (fun E ce q9 Gx H1 locs1 hx9 => hx9.elim) (fun rv Gc_28 H locs hp hI => ?_)
  obtain ⟨rfl, hq9⟩ := hp
  rw [hq9] at hI
  refine W.eq (g2 := F0 m 31 ls [.int (nI (yPaid (yPlan n9 y).2))]) rfl ?_
  refine lv_aload_n hx hb dX4_planPays_31 rfl (lv_at hl 0 rfl) ?_
  refine g_get S hE hI (C := RX4) (T := TX4) (N := 3) (ref := "StonecutterYard") (fun w h => (List.mem_cons_of_mem _ (List.mem_append_left _ (List.mem_append_left _ (List.mem_append_left _ (List.mem_append_left _ (List.mem_append_right _ h))))))) hyp.1 rfl 0 (by decide) (List.mem_cons_of_mem _ (List.mem_append_left _ (List.mem_append_left _ (List.mem_append_left _ (List.mem_append_left _ (List.mem_append_left _ (List.mem_append_left _ (List.mem_of_getElem? (i := 1) rfl)))))))) (fun _ h9 => h9) (v := .ref (L1 0 0)) rfl dX4_planPays_32 ?_
  refine g_callV (As := []) (rest := [.int (nI (yPaid (yPlan n9 y).2))]) (b := (L1 0 0)) (n := 0) S hE hI hA (c_X3_sumPaid l K _ true 1 L1 y hyp.2.1) gX4_planPays_X3_sumPaid rfl (by decide +kernel) ⟨Nat.le_of_ble_eq_true rfl, Nat.le_of_ble_eq_true rfl⟩ (g_hro hE hI hyp.2.1.1.1 rfl) rfl hl.1 rfl (Nat.le_of_ble_eq_true rfl) dX4_planPays_35 ⟨Nat.le_of_ble_eq_true rfl, Nat.le_of_ble_eq_true rfl⟩ (fun E ce q9 Gx H1 locs1 hx9 => hx9.elim) (fun rv Gc_35 H locs hp hI => ?_)
  obtain ⟨rfl, hq9⟩ := hp
  rw [hq9] at hI
  refine W.eq (g2 := F0 m 38 ls [.int (nI (yPaid y)), .int (nI (yPaid (yPlan n9 y).2))]) rfl ?_
  refine lv_isub hx hb dX4_planPays_38 ?_
  exact g_iret S hI hr hlocks (Nat.zero_le _) (Nat.zero_le _) dX4_planPays_39 (by rw [ho]; exact ⟨rfl, rfl, hyp, (hat.y (by decide)).tr (hat2.y (by decide))⟩)
