theorem isI_inB {x : Int32} {a b : Nat} (ha : a < 2 ^ 31) (hb : b < 2 ^ 31) : isI x (nI a) (nI b) = inB x a b := by
  unfold isI inB
  rw [nI_toInt ha, nI_toInt hb]
theorem isI_inR {x : Int32} {n : Nat} (hn : n < 2 ^ 30) : isI x (nI 0) (nI n - nI 1) = inR x n := by
  unfold isI inR
  rw [nI_toInt (by decide), pk_sub_toInt hn (by decide)]
  congr 1
  apply propext
  omega
set_option maxHeartbeats 4000000 in
set_option maxRecDepth 100000 in
/-- isNoPiece(wide, high, grain) -/
theorem c_X8_isNoPiece (l : Launch) (K : gK) (G : gW) (w h g : Int32) : gM l yX8_isNoPiece wsX8_isNoPiece 3 62 0 0 K [.int w, .int h, .int g] G (fun v G1 => v = some (.int (bI (!inP w h g))) ∧ G1 = G) (gNo) := by
  refine gM.of (cc := cX8_isNoPiece) (maxL := 3) (ret := (some .boolean)) (by decide) rfl (Nat.le_of_ble_eq_true rfl) ?_
  intro p e s m below meth c A S hr hlocks htab hname hE hA hI ls hl
  have hx := S.1
  have hb := S.2.1
  have hml := S.2.2.1
  have hl : lv_has ls 3 [(0, .int w), (1, .int h), (2, .int g)] := hl
  obtain ⟨H, hHe⟩ : ∃ z, z = s.heap := ⟨_, rfl⟩
  obtain ⟨locs, hLe⟩ : ∃ z : List Loc, z = [] := ⟨_, rfl⟩
  rw [← hHe, ← hLe]
  have hI : gI K A s G H locs := by rw [hHe, hLe]; exact hI
  clear hHe hLe
  refine lv_iload_n hx hb dX8_isNoPiece_0 rfl (lv_at hl 0 rfl) ?_
  refine lv_iconst (v := nI 1) hx hb dX8_isNoPiece_1 (by decide) ?_
  refine lv_bipush (v := nI 24) hx hb dX8_isNoPiece_2 (by decide) ?_
  refine g_callS (As := [.int w, .int (nI 1), .int (nI 24)]) (rest := []) (n := 3) S hE hI hA (c_X8_isIn l K _ w (nI 1) (nI 24)) gX8_isNoPiece_X8_isIn rfl (by decide +kernel) ⟨Nat.le_of_ble_eq_true rfl, Nat.le_of_ble_eq_true rfl⟩ rfl hl.1 rfl (Nat.le_of_ble_eq_true rfl) dX8_isNoPiece_4 ⟨Nat.le_of_ble_eq_true rfl, Nat.le_of_ble_eq_true rfl⟩ (fun E ce q9 Gx H1 locs1 hx9 => hx9.elim) (fun rv Gc_4 H locs hp hI => ?_)
  obtain ⟨rfl, hq9⟩ := hp
  rw [hq9] at hI
  rw [isI_inB (by decide) (by decide)]
  refine W.eq (g2 := F0 m 7 ls [.int (bI (inB w 1 24))]) rfl ?_
  refine lv_if_eq (tgt := 29) hx hb dX8_isNoPiece_7 (by decide) (fun c_7 => ?_) (fun c_7 => ?_)
  · skip
    have c_7 : (inB w 1 24) = false := bI_0.mp c_7
    refine lv_iconst (v := nI 1) hx hb dX8_isNoPiece_29 (by decide) ?_
    refine lv_goto (tgt := 34) hx hb dX8_isNoPiece_30 (by decide) ?_
    exact g_zret S hI hr hlocks (Nat.zero_le _) (Nat.zero_le _) (Or.inr rfl) dX8_isNoPiece_34 ⟨by rw [show inP w h g = false by unfold inP; rw [c_7]; simp]; rfl, rfl⟩
  · skip
    have c_7 : (inB w 1 24) = true := bI_1.mp c_7
    refine lv_iload_n hx hb dX8_isNoPiece_10 rfl (lv_at hl 1 rfl) ?_
    refine lv_iconst (v := nI 1) hx hb dX8_isNoPiece_11 (by decide) ?_
    refine lv_bipush (v := nI 24) hx hb dX8_isNoPiece_12 (by decide) ?_
    refine g_callS (As := [.int h, .int (nI 1), .int (nI 24)]) (rest := []) (n := 3) S hE hI hA (c_X8_isIn l K _ h (nI 1) (nI 24)) gX8_isNoPiece_X8_isIn rfl (by decide +kernel) ⟨Nat.le_of_ble_eq_true rfl, Nat.le_of_ble_eq_true rfl⟩ rfl hl.1 rfl (Nat.le_of_ble_eq_true rfl) dX8_isNoPiece_14 ⟨Nat.le_of_ble_eq_true rfl, Nat.le_of_ble_eq_true rfl⟩ (fun E ce q9 Gx H1 locs1 hx9 => hx9.elim) (fun rv Gc_14 H locs hp hI => ?_)
    obtain ⟨rfl, hq9⟩ := hp
    rw [hq9] at hI
    rw [isI_inB (by decide) (by decide)]
    refine W.eq (g2 := F0 m 17 ls [.int (bI (inB h 1 24))]) rfl ?_
    refine lv_if_eq (tgt := 29) hx hb dX8_isNoPiece_17 (by decide) (fun c_17 => ?_) (fun c_17 => ?_)
    · skip
      have c_17 : (inB h 1 24) = false := bI_0.mp c_17
      refine lv_iconst (v := nI 1) hx hb dX8_isNoPiece_29 (by decide) ?_
      refine lv_goto (tgt := 34) hx hb dX8_isNoPiece_30 (by decide) ?_
      exact g_zret S hI hr hlocks (Nat.zero_le _) (Nat.zero_le _) (Or.inr rfl) dX8_isNoPiece_34 ⟨by rw [show inP w h g = false by unfold inP; rw [c_17]; simp]; rfl, rfl⟩
    · skip
      have c_17 : (inB h 1 24) = true := bI_1.mp c_17
      refine lv_iload_n hx hb dX8_isNoPiece_20 rfl (lv_at hl 2 rfl) ?_
      refine lv_iconst (v := nI 0) hx hb dX8_isNoPiece_21 (by decide) ?_
      refine lv_iconst (v := nI 1) hx hb dX8_isNoPiece_22 (by decide) ?_
      refine g_callS (As := [.int g, .int (nI 0), .int (nI 1)]) (rest := []) (n := 3) S hE hI hA (c_X8_isIn l K _ g (nI 0) (nI 1)) gX8_isNoPiece_X8_isIn rfl (by decide +kernel) ⟨Nat.le_of_ble_eq_true rfl, Nat.le_of_ble_eq_true rfl⟩ rfl hl.1 rfl (Nat.le_of_ble_eq_true rfl) dX8_isNoPiece_23 ⟨Nat.le_of_ble_eq_true rfl, Nat.le_of_ble_eq_true rfl⟩ (fun E ce q9 Gx H1 locs1 hx9 => hx9.elim) (fun rv Gc_23 H locs hp hI => ?_)
      obtain ⟨rfl, hq9⟩ := hp
      rw [hq9] at hI
      rw [isI_inB (by decide) (by decide)]
      refine W.eq (g2 := F0 m 26 ls [.int (bI (inB g 0 1))]) rfl ?_
      refine lv_if_ne (tgt := 33) hx hb dX8_isNoPiece_26 (by decide) (fun c_26 => ?_) (fun c_26 => ?_)
      · skip
        have c_26 : (inB g 0 1) = true := bI_1.mp c_26
        refine lv_iconst (v := nI 0) hx hb dX8_isNoPiece_33 (by decide) ?_
        exact g_zret S hI hr hlocks (Nat.zero_le _) (Nat.zero_le _) (Or.inl rfl) dX8_isNoPiece_34 ⟨by rw [show inP w h g = true by unfold inP; rw [c_7, c_17, c_26]; rfl]; rfl, rfl⟩
      · skip
        have c_26 : (inB g 0 1) = false := bI_0.mp c_26
        refine lv_iconst (v := nI 1) hx hb dX8_isNoPiece_29 (by decide) ?_
        refine lv_goto (tgt := 34) hx hb dX8_isNoPiece_30 (by decide) ?_
        exact g_zret S hI hr hlocks (Nat.zero_le _) (Nat.zero_le _) (Or.inr rfl) dX8_isNoPiece_34 ⟨by rw [show inP w h g = false by unfold inP; rw [c_7, c_17, c_26]; rfl]; rfl, rfl⟩
set_option maxHeartbeats 4000000 in
set_option maxRecDepth 100000 in
/-- X8_isNo -/
theorem c_X8_isNo (l : Launch) (K : gK) (G : gW) (h0 th : Nat) (L : Nat → Nat → Nat) (y : YV) (N : Nat) (x : Int32) (hg : G (9, 0, 0) = some (h0, cM th (L 30 0))) (hm : MY K 5 L G y N) : gM l yX8_isNo wsX8_isNo 3 62 0 0 K [.ref h0, .int x] G (fun v G1 => v = some (.int (bI (!inR x (ySc y)))) ∧ G1 = G) (gNo) := by
  refine gM.of (cc := cX8_isNo) (maxL := 2) (ret := (some .boolean)) (by decide) rfl (Nat.le_of_ble_eq_true rfl) ?_
  intro p e s m below meth c A S hr hlocks htab hname hE hA hI ls hl
  have hx := S.1
  have hb := S.2.1
  have hml := S.2.2.1
  have hl : lv_has ls 2 [(0, .ref h0), (1, .int x)] := hl
  have h44 := hm.1.2.2.1
  have h6 := hm.1.2.2.2
  obtain ⟨m9, ar9, hl9⟩ := hm.2.1.obj
  obtain ⟨H, hHe⟩ : ∃ z, z = s.heap := ⟨_, rfl⟩
  obtain ⟨locs, hLe⟩ : ∃ z : List Loc, z = [] := ⟨_, rfl⟩
  rw [← hHe, ← hLe]
  have hI : gI K A s G H locs := by rw [hHe, hLe]; exact hI
  clear hHe hLe
  refine lv_iload_n hx hb dX8_isNo_0 rfl (lv_at hl 1 rfl) ?_
  refine lv_iconst (v := nI 0) hx hb dX8_isNo_1 (by decide) ?_
  refine lv_aload_n hx hb dX8_isNo_2 rfl (lv_at hl 0 rfl) ?_
  refine g_get S hE hI (C := RX8) (T := TX8) (N := 2) (ref := "StonecutterYardModel") (fun w h => (List.mem_cons_of_mem _ (List.mem_append_left _ (List.mem_append_left _ (List.mem_append_right _ h))))) hg rfl 1 (by decide) (List.mem_cons_of_mem _ (List.mem_append_left _ (List.mem_append_left _ (List.mem_append_left _ (List.mem_of_getElem? (i := 0) rfl))))) (fun _ h9 => h9) (v := .ref (L 30 0)) rfl dX8_isNo_3 ?_
  refine g_get S hE hI (C := RX7) (T := TX7) (N := 3) (ref := "StonecutterYardModel$Yard") (fun w h => (List.mem_cons_of_mem _ (List.mem_append_left _ (List.mem_append_right _ h)))) hm.1.1 rfl 0 (by decide) (List.mem_cons_of_mem _ (List.mem_append_left _ (List.mem_append_left _ (List.mem_append_left _ (List.mem_of_getElem? (i := 1) rfl))))) (fun _ h9 => h9) (v := .ref (L 31 0)) rfl dX8_isNo_6 ?_
  refine g_callV (As := []) (rest := [.int (nI 0), .int x]) (b := (L 31 0)) (n := 0) S hE hI hA (l_size l K _ (5, 31, 0) (tbL 5 32) (L 31 0) (ySc y) (L 35) hm.2.1) gX8_isNo_Jx4a65c_size_8abf5 rfl (by decide +kernel) ⟨Nat.le_of_ble_eq_true rfl, Nat.le_of_ble_eq_true rfl⟩ (g_hro hE hI hl9 rfl) rfl hl.1 rfl (Nat.le_of_ble_eq_true rfl) dX8_isNo_9 ⟨Nat.le_of_ble_eq_true rfl, Nat.le_of_ble_eq_true rfl⟩ (fun E ce q9 Gx H1 locs1 hx9 => hx9.elim) (fun rv Gc_9 H locs hp hI => ?_)
  obtain ⟨rfl, hq9⟩ := hp
  rw [hq9] at hI
  refine W.eq (g2 := F0 m 12 ls [.int (nI (ySc y)), .int (nI 0), .int x]) rfl ?_
  refine lv_iconst (v := nI 1) hx hb dX8_isNo_12 (by decide) ?_
  refine lv_isub hx hb dX8_isNo_13 ?_
  refine g_callS (As := [.int x, .int (nI 0), .int ((nI (ySc y)) - (nI 1))]) (rest := []) (n := 3) S hE hI hA (c_X8_isIn l K _ x (nI 0) (nI (ySc y) - nI 1)) gX8_isNo_X8_isIn rfl (by decide +kernel) ⟨Nat.le_of_ble_eq_true rfl, Nat.le_of_ble_eq_true rfl⟩ rfl hl.1 rfl (Nat.le_of_ble_eq_true rfl) dX8_isNo_14 ⟨Nat.le_of_ble_eq_true rfl, Nat.le_of_ble_eq_true rfl⟩ (fun E ce q9 Gx H1 locs1 hx9 => hx9.elim) (fun rv Gc_14 H locs hp hI => ?_)
  obtain ⟨rfl, hq9⟩ := hp
  rw [hq9] at hI
  rw [isI_inR (by omega)]
  refine W.eq (g2 := F0 m 17 ls [.int (bI (inR x (ySc y)))]) rfl ?_
  refine lv_if_ne (tgt := 24) hx hb dX8_isNo_17 (by decide) (fun c_17 => ?_) (fun c_17 => ?_)
  · skip
    have c_17 : (inR x (ySc y)) = true := bI_1.mp c_17
    refine lv_iconst (v := nI 0) hx hb dX8_isNo_24 (by decide) ?_
    exact g_zret S hI hr hlocks (Nat.zero_le _) (Nat.zero_le _) (Or.inl rfl) dX8_isNo_25 ⟨by rw [c_17]; rfl, rfl⟩
  · skip
    have c_17 : (inR x (ySc y)) = false := bI_0.mp c_17
    refine lv_iconst (v := nI 1) hx hb dX8_isNo_20 (by decide) ?_
    refine lv_goto (tgt := 25) hx hb dX8_isNo_21 (by decide) ?_
    exact g_zret S hI hr hlocks (Nat.zero_le _) (Nat.zero_le _) (Or.inr rfl) dX8_isNo_25 ⟨by rw [c_17]; rfl, rfl⟩
set_option maxHeartbeats 4000000 in
set_option maxRecDepth 100000 in
/-- X8_isNoOne -/
theorem c_X8_isNoOne (l : Launch) (K : gK) (G : gW) (h0 th : Nat) (L : Nat → Nat → Nat) (y : YV) (N : Nat) (x : Int32) (hg : G (9, 0, 0) = some (h0, cM th (L 30 0))) (hm : MY K 5 L G y N) : gM l yX8_isNoOne wsX8_isNoOne 3 62 0 0 K [.ref h0, .int x] G (fun v G1 => v = some (.int (bI (!inR x (yKc y)))) ∧ G1 = G) (gNo) := by
  refine gM.of (cc := cX8_isNoOne) (maxL := 2) (ret := (some .boolean)) (by decide) rfl (Nat.le_of_ble_eq_true rfl) ?_
  intro p e s m below meth c A S hr hlocks htab hname hE hA hI ls hl
  have hx := S.1
  have hb := S.2.1
  have hml := S.2.2.1
  have hl : lv_has ls 2 [(0, .ref h0), (1, .int x)] := hl
  have h44 := hm.1.2.2.1
  have h6 := hm.1.2.2.2
  obtain ⟨m9, ar9, hl9⟩ := hm.2.2.1.obj
  obtain ⟨H, hHe⟩ : ∃ z, z = s.heap := ⟨_, rfl⟩
  obtain ⟨locs, hLe⟩ : ∃ z : List Loc, z = [] := ⟨_, rfl⟩
  rw [← hHe, ← hLe]
  have hI : gI K A s G H locs := by rw [hHe, hLe]; exact hI
  clear hHe hLe
  refine lv_iload_n hx hb dX8_isNoOne_0 rfl (lv_at hl 1 rfl) ?_
  refine lv_iconst (v := nI 0) hx hb dX8_isNoOne_1 (by decide) ?_
  refine lv_aload_n hx hb dX8_isNoOne_2 rfl (lv_at hl 0 rfl) ?_
  refine g_get S hE hI (C := RX8) (T := TX8) (N := 2) (ref := "StonecutterYardModel") (fun w h => (List.mem_cons_of_mem _ (List.mem_append_left _ (List.mem_append_left _ (List.mem_append_right _ h))))) hg rfl 1 (by decide) (List.mem_cons_of_mem _ (List.mem_append_left _ (List.mem_append_left _ (List.mem_append_left _ (List.mem_of_getElem? (i := 0) rfl))))) (fun _ h9 => h9) (v := .ref (L 30 0)) rfl dX8_isNoOne_3 ?_
  refine g_get S hE hI (C := RX7) (T := TX7) (N := 3) (ref := "StonecutterYardModel$Yard") (fun w h => (List.mem_cons_of_mem _ (List.mem_append_left _ (List.mem_append_right _ h)))) hm.1.1 rfl 1 (by decide) (List.mem_cons_of_mem _ (List.mem_append_left _ (List.mem_append_left _ (List.mem_append_left _ (List.mem_of_getElem? (i := 1) rfl))))) (fun _ h9 => h9) (v := .ref (L 33 0)) rfl dX8_isNoOne_6 ?_
  refine g_callV (As := []) (rest := [.int (nI 0), .int x]) (b := (L 33 0)) (n := 0) S hE hI hA (l_size l K _ (5, 33, 0) (tbL 5 34) (L 33 0) (yKc y) (L 38) hm.2.2.1) gX8_isNoOne_Jx4a65c_size_8abf5 rfl (by decide +kernel) ⟨Nat.le_of_ble_eq_true rfl, Nat.le_of_ble_eq_true rfl⟩ (g_hro hE hI hl9 rfl) rfl hl.1 rfl (Nat.le_of_ble_eq_true rfl) dX8_isNoOne_9 ⟨Nat.le_of_ble_eq_true rfl, Nat.le_of_ble_eq_true rfl⟩ (fun E ce q9 Gx H1 locs1 hx9 => hx9.elim) (fun rv Gc_9 H locs hp hI => ?_)
  obtain ⟨rfl, hq9⟩ := hp
  rw [hq9] at hI
  refine W.eq (g2 := F0 m 12 ls [.int (nI (yKc y)), .int (nI 0), .int x]) rfl ?_
  refine lv_iconst (v := nI 1) hx hb dX8_isNoOne_12 (by decide) ?_
  refine lv_isub hx hb dX8_isNoOne_13 ?_
  refine g_callS (As := [.int x, .int (nI 0), .int ((nI (yKc y)) - (nI 1))]) (rest := []) (n := 3) S hE hI hA (c_X8_isIn l K _ x (nI 0) (nI (yKc y) - nI 1)) gX8_isNoOne_X8_isIn rfl (by decide +kernel) ⟨Nat.le_of_ble_eq_true rfl, Nat.le_of_ble_eq_true rfl⟩ rfl hl.1 rfl (Nat.le_of_ble_eq_true rfl) dX8_isNoOne_14 ⟨Nat.le_of_ble_eq_true rfl, Nat.le_of_ble_eq_true rfl⟩ (fun E ce q9 Gx H1 locs1 hx9 => hx9.elim) (fun rv Gc_14 H locs hp hI => ?_)
  obtain ⟨rfl, hq9⟩ := hp
  rw [hq9] at hI
  rw [isI_inR (by omega)]
  refine W.eq (g2 := F0 m 17 ls [.int (bI (inR x (yKc y)))]) rfl ?_
  refine lv_if_ne (tgt := 24) hx hb dX8_isNoOne_17 (by decide) (fun c_17 => ?_) (fun c_17 => ?_)
  · skip
    have c_17 : (inR x (yKc y)) = true := bI_1.mp c_17
    refine lv_iconst (v := nI 0) hx hb dX8_isNoOne_24 (by decide) ?_
    exact g_zret S hI hr hlocks (Nat.zero_le _) (Nat.zero_le _) (Or.inl rfl) dX8_isNoOne_25 ⟨by rw [c_17]; rfl, rfl⟩
  · skip
    have c_17 : (inR x (yKc y)) = false := bI_0.mp c_17
    refine lv_iconst (v := nI 1) hx hb dX8_isNoOne_20 (by decide) ?_
    refine lv_goto (tgt := 25) hx hb dX8_isNoOne_21 (by decide) ?_
    exact g_zret S hI hr hlocks (Nat.zero_le _) (Nat.zero_le _) (Or.inr rfl) dX8_isNoOne_25 ⟨by rw [c_17]; rfl, rfl⟩
