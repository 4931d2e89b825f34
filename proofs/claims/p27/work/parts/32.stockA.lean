set_option maxHeartbeats 4000000 in
set_option maxRecDepth 100000 in
/-- Stock.slabOrNull of a place -/
theorem c_slabIn (l : Launch) (K : gK) (G : gW) (r : Nat) (L : Nat → Nat → Nat) (sc kc kf : Nat) (i : Nat) (hh : StockH K r L G sc kc kf) (hi : i < sc) : gM l yX3_slabOrNull wsX3_slabOrNull 2 40 0 0 K [.ref (L 0 0), .int (nI i)] G (fun v G1 => v = some (.ref (L 3 i)) ∧ G1 = G) (gNo) := by
  refine gM.of (cc := cX3_slabOrNull) (maxL := 2) (ret := (some (.object "StonecutterYard$Slab"))) (by decide) rfl (Nat.le_of_ble_eq_true rfl) ?_
  intro p e s m below meth c A S hr hlocks htab hname hE hA hI ls hl
  have hx := S.1
  have hb := S.2.1
  have hml := S.2.2.1
  have hl : lv_has ls 2 [(0, .ref (L 0 0)), (1, .int (nI i))] := hl
  have h44 := hh.2.2.2.1
  have h6 := hh.2.2.2.2.1
  obtain ⟨H, hHe⟩ : ∃ z, z = s.heap := ⟨_, rfl⟩
  obtain ⟨locs, hLe⟩ : ∃ z : List Loc, z = [] := ⟨_, rfl⟩
  rw [← hHe, ← hLe]
  have hI : gI K A s G H locs := by rw [hHe, hLe]; exact hI
  clear hHe hLe
  refine lv_iload_n hx hb dX3_slabOrNull_0 rfl (lv_at hl 1 rfl) ?_
  refine lv_if_lt (tgt := 30) hx hb dX3_slabOrNull_1 (by decide) (fun c_1 => ?_) (fun c_1 => ?_)
  · skip
    have c_1 : i < 0 := (nI_ltI (a := i) (b := 0) (by omega) (by omega)).mp c_1
    exact absurd c_1 (by omega)
  · skip
    have c_1 : 0 ≤ i := Nat.not_lt.mp (fun z => c_1 ((nI_ltI (a := i) (b := 0) (by omega) (by omega)).mpr z))
    refine lv_iload_n hx hb dX3_slabOrNull_4 rfl (lv_at hl 1 rfl) ?_
    refine lv_aload_n hx hb dX3_slabOrNull_5 rfl (lv_at hl 0 rfl) ?_
    refine g_get S hE hI (C := RX3) (T := TX3) (N := 5) (ref := "StonecutterYard$Stock") (fun w h => (List.mem_cons_of_mem _ (List.mem_append_right _ h))) hh.1 rfl 2 (by decide) (List.mem_cons_of_mem _ (List.mem_append_left _ (List.mem_of_getElem? (i := 0) rfl))) (fun _ h9 => h9) (v := .int (nI sc)) rfl dX3_slabOrNull_6 ?_
    refine lv_icmp_ge (tgt := 30) hx hb dX3_slabOrNull_9 (by decide) (fun c_9 => ?_) (fun c_9 => ?_)
    · skip
      have c_9 : sc ≤ i := (nI_leI (a := sc) (b := i) (by omega) (by omega)).mp c_9
      exact absurd c_9 (by omega)
    · skip
      have c_9 : i < sc := Nat.not_le.mp (fun z => c_9 ((nI_leI (a := sc) (b := i) (by omega) (by omega)).mpr z))
      refine lv_iload_n hx hb dX3_slabOrNull_12 rfl (lv_at hl 1 rfl) ?_
      refine lv_aload_n hx hb dX3_slabOrNull_13 rfl (lv_at hl 0 rfl) ?_
      refine g_get S hE hI (C := RX3) (T := TX3) (N := 5) (ref := "StonecutterYard$Stock") (fun w h => (List.mem_cons_of_mem _ (List.mem_append_right _ h))) hh.1 rfl 0 (by decide) (List.mem_cons_of_mem _ (List.mem_append_left _ (List.mem_of_getElem? (i := 1) rfl))) (fun _ h9 => h9) (v := .ref (L 1 0)) rfl dX3_slabOrNull_14 ?_
      refine g_alen S hE hI (k := 2) hh.2.1 rfl (v := nI 44) rfl dX3_slabOrNull_17 ?_
      refine lv_icmp_ge (tgt := 30) hx hb dX3_slabOrNull_18 (by decide) (fun c_18 => ?_) (fun c_18 => ?_)
      · skip
        have c_18 : 44 ≤ i := (nI_leI (a := 44) (b := i) (by omega) (by omega)).mp c_18
        exact absurd c_18 (by omega)
      · skip
        have c_18 : i < 44 := Nat.not_le.mp (fun z => c_18 ((nI_leI (a := 44) (b := i) (by omega) (by omega)).mpr z))
        refine lv_aload_n hx hb dX3_slabOrNull_21 rfl (lv_at hl 0 rfl) ?_
        refine g_get S hE hI (C := RX3) (T := TX3) (N := 5) (ref := "StonecutterYard$Stock") (fun w h => (List.mem_cons_of_mem _ (List.mem_append_right _ h))) hh.1 rfl 0 (by decide) (List.mem_cons_of_mem _ (List.mem_append_left _ (List.mem_of_getElem? (i := 1) rfl))) (fun _ h9 => h9) (v := .ref (L 1 0)) rfl dX3_slabOrNull_22 ?_
        refine lv_iload_n hx hb dX3_slabOrNull_25 rfl (lv_at hl 1 rfl) ?_
        refine g_aald S hE hI (j := i) (f := (fRef 44 (L 3))) hh.2.1 (k := 2) rfl rfl rfl (by omega) (by decide) (v := .ref (L 3 i)) (congrArg va_rf (if_pos (by omega))) dX3_slabOrNull_26 ?_
        refine lv_goto (tgt := 31) hx hb dX3_slabOrNull_27 (by decide) ?_
        exact g_aret S hI hr (Or.inl ⟨_, rfl⟩) (Or.inr ⟨_, rfl⟩) hlocks (Nat.zero_le _) (Nat.zero_le _) dX3_slabOrNull_31 ⟨rfl, rfl⟩
set_option maxHeartbeats 4000000 in
set_option maxRecDepth 100000 in
/-- Stock.slabOrNull of no place -/
theorem c_slabOut (l : Launch) (K : gK) (G : gW) (r : Nat) (L : Nat → Nat → Nat) (sc kc kf : Nat) (x : Int32) (hh : StockH K r L G sc kc kf) (hxn : ∀ i, i < sc → x ≠ nI i) : gM l yX3_slabOrNull wsX3_slabOrNull 2 40 0 0 K [.ref (L 0 0), .int x] G (fun v G1 => v = some .null ∧ G1 = G) (gNo) := by
  refine gM.of (cc := cX3_slabOrNull) (maxL := 2) (ret := (some (.object "StonecutterYard$Slab"))) (by decide) rfl (Nat.le_of_ble_eq_true rfl) ?_
  intro p e s m below meth c A S hr hlocks htab hname hE hA hI ls hl
  have hx := S.1
  have hb := S.2.1
  have hml := S.2.2.1
  have hl : lv_has ls 2 [(0, .ref (L 0 0)), (1, .int x)] := hl
  have h44 := hh.2.2.2.1
  have h6 := hh.2.2.2.2.1
  obtain ⟨H, hHe⟩ : ∃ z, z = s.heap := ⟨_, rfl⟩
  obtain ⟨locs, hLe⟩ : ∃ z : List Loc, z = [] := ⟨_, rfl⟩
  rw [← hHe, ← hLe]
  have hI : gI K A s G H locs := by rw [hHe, hLe]; exact hI
  clear hHe hLe
  refine lv_iload_n hx hb dX3_slabOrNull_0 rfl (lv_at hl 1 rfl) ?_
  refine lv_if_lt (tgt := 30) hx hb dX3_slabOrNull_1 (by decide) (fun c_1 => ?_) (fun c_1 => ?_)
  · skip
    refine lv_null hx hb dX3_slabOrNull_30 ?_
    exact g_aret S hI hr (Or.inl ⟨_, rfl⟩) (Or.inl rfl) hlocks (Nat.zero_le _) (Nat.zero_le _) dX3_slabOrNull_31 ⟨rfl, rfl⟩
  · skip
    refine lv_iload_n hx hb dX3_slabOrNull_4 rfl (lv_at hl 1 rfl) ?_
    refine lv_aload_n hx hb dX3_slabOrNull_5 rfl (lv_at hl 0 rfl) ?_
    refine g_get S hE hI (C := RX3) (T := TX3) (N := 5) (ref := "StonecutterYard$Stock") (fun w h => (List.mem_cons_of_mem _ (List.mem_append_right _ h))) hh.1 rfl 2 (by decide) (List.mem_cons_of_mem _ (List.mem_append_left _ (List.mem_of_getElem? (i := 0) rfl))) (fun _ h9 => h9) (v := .int (nI sc)) rfl dX3_slabOrNull_6 ?_
    refine lv_icmp_ge (tgt := 30) hx hb dX3_slabOrNull_9 (by decide) (fun c_9 => ?_) (fun c_9 => ?_)
    · skip
      refine lv_null hx hb dX3_slabOrNull_30 ?_
      exact g_aret S hI hr (Or.inl ⟨_, rfl⟩) (Or.inl rfl) hlocks (Nat.zero_le _) (Nat.zero_le _) dX3_slabOrNull_31 ⟨rfl, rfl⟩
    · skip
      exact absurd (no_place (by omega) hxn c_1) c_9
set_option maxHeartbeats 4000000 in
set_option maxRecDepth 100000 in
/-- Stock.kindOrNull of a place -/
theorem c_kindIn (l : Launch) (K : gK) (G : gW) (r : Nat) (L : Nat → Nat → Nat) (sc kc kf : Nat) (i : Nat) (hh : StockH K r L G sc kc kf) (hi : i < kc) : gM l yX3_kindOrNull wsX3_kindOrNull 2 40 0 0 K [.ref (L 0 0), .int (nI i)] G (fun v G1 => v = some (.ref (L 5 i)) ∧ G1 = G) (gNo) := by
  refine gM.of (cc := cX3_kindOrNull) (maxL := 2) (ret := (some (.object "StonecutterYard$Kind"))) (by decide) rfl (Nat.le_of_ble_eq_true rfl) ?_
  intro p e s m below meth c A S hr hlocks htab hname hE hA hI ls hl
  have hx := S.1
  have hb := S.2.1
  have hml := S.2.2.1
  have hl : lv_has ls 2 [(0, .ref (L 0 0)), (1, .int (nI i))] := hl
  have h44 := hh.2.2.2.1
  have h6 := hh.2.2.2.2.1
  obtain ⟨H, hHe⟩ : ∃ z, z = s.heap := ⟨_, rfl⟩
  obtain ⟨locs, hLe⟩ : ∃ z : List Loc, z = [] := ⟨_, rfl⟩
  rw [← hHe, ← hLe]
  have hI : gI K A s G H locs := by rw [hHe, hLe]; exact hI
  clear hHe hLe
  refine lv_iload_n hx hb dX3_kindOrNull_0 rfl (lv_at hl 1 rfl) ?_
  refine lv_if_lt (tgt := 30) hx hb dX3_kindOrNull_1 (by decide) (fun c_1 => ?_) (fun c_1 => ?_)
  · skip
    have c_1 : i < 0 := (nI_ltI (a := i) (b := 0) (by omega) (by omega)).mp c_1
    exact absurd c_1 (by omega)
  · skip
    have c_1 : 0 ≤ i := Nat.not_lt.mp (fun z => c_1 ((nI_ltI (a := i) (b := 0) (by omega) (by omega)).mpr z))
    refine lv_iload_n hx hb dX3_kindOrNull_4 rfl (lv_at hl 1 rfl) ?_
    refine lv_aload_n hx hb dX3_kindOrNull_5 rfl (lv_at hl 0 rfl) ?_
    refine g_get S hE hI (C := RX3) (T := TX3) (N := 5) (ref := "StonecutterYard$Stock") (fun w h => (List.mem_cons_of_mem _ (List.mem_append_right _ h))) hh.1 rfl 3 (by decide) (List.mem_cons_of_mem _ (List.mem_append_left _ (List.mem_of_getElem? (i := 0) rfl))) (fun _ h9 => h9) (v := .int (nI kc)) rfl dX3_kindOrNull_6 ?_
    refine lv_icmp_ge (tgt := 30) hx hb dX3_kindOrNull_9 (by decide) (fun c_9 => ?_) (fun c_9 => ?_)
    · skip
      have c_9 : kc ≤ i := (nI_leI (a := kc) (b := i) (by omega) (by omega)).mp c_9
      exact absurd c_9 (by omega)
    · skip
      have c_9 : i < kc := Nat.not_le.mp (fun z => c_9 ((nI_leI (a := kc) (b := i) (by omega) (by omega)).mpr z))
      refine lv_iload_n hx hb dX3_kindOrNull_12 rfl (lv_at hl 1 rfl) ?_
      refine lv_aload_n hx hb dX3_kindOrNull_13 rfl (lv_at hl 0 rfl) ?_
      refine g_get S hE hI (C := RX3) (T := TX3) (N := 5) (ref := "StonecutterYard$Stock") (fun w h => (List.mem_cons_of_mem _ (List.mem_append_right _ h))) hh.1 rfl 1 (by decide) (List.mem_cons_of_mem _ (List.mem_append_left _ (List.mem_of_getElem? (i := 1) rfl))) (fun _ h9 => h9) (v := .ref (L 2 0)) rfl dX3_kindOrNull_14 ?_
      refine g_alen S hE hI (k := 3) hh.2.2.1 rfl (v := nI 6) rfl dX3_kindOrNull_17 ?_
      refine lv_icmp_ge (tgt := 30) hx hb dX3_kindOrNull_18 (by decide) (fun c_18 => ?_) (fun c_18 => ?_)
      · skip
        have c_18 : 6 ≤ i := (nI_leI (a := 6) (b := i) (by omega) (by omega)).mp c_18
        exact absurd c_18 (by omega)
      · skip
        have c_18 : i < 6 := Nat.not_le.mp (fun z => c_18 ((nI_leI (a := 6) (b := i) (by omega) (by omega)).mpr z))
        refine lv_aload_n hx hb dX3_kindOrNull_21 rfl (lv_at hl 0 rfl) ?_
        refine g_get S hE hI (C := RX3) (T := TX3) (N := 5) (ref := "StonecutterYard$Stock") (fun w h => (List.mem_cons_of_mem _ (List.mem_append_right _ h))) hh.1 rfl 1 (by decide) (List.mem_cons_of_mem _ (List.mem_append_left _ (List.mem_of_getElem? (i := 1) rfl))) (fun _ h9 => h9) (v := .ref (L 2 0)) rfl dX3_kindOrNull_22 ?_
        refine lv_iload_n hx hb dX3_kindOrNull_25 rfl (lv_at hl 1 rfl) ?_
        refine g_aald S hE hI (j := i) (f := (fRef 6 (L 5))) hh.2.2.1 (k := 3) rfl rfl rfl (by omega) (by decide) (v := .ref (L 5 i)) (congrArg va_rf (if_pos (by omega))) dX3_kindOrNull_26 ?_
        refine lv_goto (tgt := 31) hx hb dX3_kindOrNull_27 (by decide) ?_
        exact g_aret S hI hr (Or.inl ⟨_, rfl⟩) (Or.inr ⟨_, rfl⟩) hlocks (Nat.zero_le _) (Nat.zero_le _) dX3_kindOrNull_31 ⟨rfl, rfl⟩
set_option maxHeartbeats 4000000 in
set_option maxRecDepth 100000 in
/-- Stock.kindOrNull of no place -/
theorem c_kindOut (l : Launch) (K : gK) (G : gW) (r : Nat) (L : Nat → Nat → Nat) (sc kc kf : Nat) (x : Int32) (hh : StockH K r L G sc kc kf) (hxn : ∀ i, i < kc → x ≠ nI i) : gM l yX3_kindOrNull wsX3_kindOrNull 2 40 0 0 K [.ref (L 0 0), .int x] G (fun v G1 => v = some .null ∧ G1 = G) (gNo) := by
  refine gM.of (cc := cX3_kindOrNull) (maxL := 2) (ret := (some (.object "StonecutterYard$Kind"))) (by decide) rfl (Nat.le_of_ble_eq_true rfl) ?_
  intro p e s m below meth c A S hr hlocks htab hname hE hA hI ls hl
  have hx := S.1
  have hb := S.2.1
  have hml := S.2.2.1
  have hl : lv_has ls 2 [(0, .ref (L 0 0)), (1, .int x)] := hl
  have h44 := hh.2.2.2.1
  have h6 := hh.2.2.2.2.1
  obtain ⟨H, hHe⟩ : ∃ z, z = s.heap := ⟨_, rfl⟩
  obtain ⟨locs, hLe⟩ : ∃ z : List Loc, z = [] := ⟨_, rfl⟩
  rw [← hHe, ← hLe]
  have hI : gI K A s G H locs := by rw [hHe, hLe]; exact hI
  clear hHe hLe
  refine lv_iload_n hx hb dX3_kindOrNull_0 rfl (lv_at hl 1 rfl) ?_
  refine lv_if_lt (tgt := 30) hx hb dX3_kindOrNull_1 (by decide) (fun c_1 => ?_) (fun c_1 => ?_)
  · skip
    refine lv_null hx hb dX3_kindOrNull_30 ?_
    exact g_aret S hI hr (Or.inl ⟨_, rfl⟩) (Or.inl rfl) hlocks (Nat.zero_le _) (Nat.zero_le _) dX3_kindOrNull_31 ⟨rfl, rfl⟩
  · skip
    refine lv_iload_n hx hb dX3_kindOrNull_4 rfl (lv_at hl 1 rfl) ?_
    refine lv_aload_n hx hb dX3_kindOrNull_5 rfl (lv_at hl 0 rfl) ?_
    refine g_get S hE hI (C := RX3) (T := TX3) (N := 5) (ref := "StonecutterYard$Stock") (fun w h => (List.mem_cons_of_mem _ (List.mem_append_right _ h))) hh.1 rfl 3 (by decide) (List.mem_cons_of_mem _ (List.mem_append_left _ (List.mem_of_getElem? (i := 0) rfl))) (fun _ h9 => h9) (v := .int (nI kc)) rfl dX3_kindOrNull_6 ?_
    refine lv_icmp_ge (tgt := 30) hx hb dX3_kindOrNull_9 (by decide) (fun c_9 => ?_) (fun c_9 => ?_)
    · skip
      refine lv_null hx hb dX3_kindOrNull_30 ?_
      exact g_aret S hI hr (Or.inl ⟨_, rfl⟩) (Or.inl rfl) hlocks (Nat.zero_le _) (Nat.zero_le _) dX3_kindOrNull_31 ⟨rfl, rfl⟩
    · skip
      exact absurd (no_place (by omega) hxn c_1) c_9
set_option maxHeartbeats 4000000 in
set_option maxRecDepth 100000 in
/-- Stock.hasRoomForStone() -/
theorem c_X3_hasRoomForStone (l : Launch) (K : gK) (G : gW) (z : Bool) (r : Nat) (L : Nat → Nat → Nat) (y : YV) (hs : StockG K z r L G y) : gM l yX3_hasRoomForStone wsX3_hasRoomForStone 2 40 0 0 K [.ref (L 0 0)] G (fun v G1 => v = some (.int (bI (decide (ySc y ≤ 36)))) ∧ G1 = G) (gNo) := by
  refine gM.of (cc := cX3_hasRoomForStone) (maxL := 1) (ret := (some .boolean)) (by decide) rfl (Nat.le_of_ble_eq_true rfl) ?_
  intro p e s m below meth c A S hr hlocks htab hname hE hA hI ls hl
  have hx := S.1
  have hb := S.2.1
  have hml := S.2.2.1
  have hl : lv_has ls 1 [(0, .ref (L 0 0))] := hl
  have h44 := hs.1.2.2.2.1
  have h6 := hs.1.2.2.2.2.1
  have hf2 := hs.1.2.2.2.2.2
  obtain ⟨H, hHe⟩ : ∃ z, z = s.heap := ⟨_, rfl⟩
  obtain ⟨locs, hLe⟩ : ∃ z : List Loc, z = [] := ⟨_, rfl⟩
  rw [← hHe, ← hLe]
  have hI : gI K A s G H locs := by rw [hHe, hLe]; exact hI
  clear hHe hLe
  refine lv_aload_n hx hb dX3_hasRoomForStone_0 rfl (lv_at hl 0 rfl) ?_
  refine g_get S hE hI (C := RX3) (T := TX3) (N := 5) (ref := "StonecutterYard$Stock") (fun w h => (List.mem_cons_of_mem _ (List.mem_append_right _ h))) hs.1.1 rfl 2 (by decide) (List.mem_cons_of_mem _ (List.mem_append_left _ (List.mem_of_getElem? (i := 0) rfl))) (fun _ h9 => h9) (v := .int (nI (ySc y))) rfl dX3_hasRoomForStone_1 ?_
  refine lv_bipush (v := nI 36) hx hb dX3_hasRoomForStone_4 (by decide) ?_
  refine lv_icmp_gt (tgt := 13) hx hb dX3_hasRoomForStone_6 (by decide) (fun c_6 => ?_) (fun c_6 => ?_)
  · skip
    have c_6 : 36 < (ySc y) := (nI_ltI (a := 36) (b := (ySc y)) (by omega) (by omega)).mp c_6
    have hd : decide (ySc y ≤ 36) = false := decide_eq_false (by omega)
    refine lv_iconst (v := nI 0) hx hb dX3_hasRoomForStone_13 (by decide) ?_
    exact g_zret S hI hr hlocks (Nat.zero_le _) (Nat.zero_le _) (Or.inl rfl) dX3_hasRoomForStone_14 ⟨by rw [hd]; rfl, rfl⟩
  · skip
    have c_6 : (ySc y) ≤ 36 := Nat.not_lt.mp (fun z => c_6 ((nI_ltI (a := 36) (b := (ySc y)) (by omega) (by omega)).mpr z))
    have hd : decide (ySc y ≤ 36) = true := decide_eq_true c_6
    refine lv_iconst (v := nI 1) hx hb dX3_hasRoomForStone_9 (by decide) ?_
    refine lv_goto (tgt := 14) hx hb dX3_hasRoomForStone_10 (by decide) ?_
    exact g_zret S hI hr hlocks (Nat.zero_le _) (Nat.zero_le _) (Or.inr rfl) dX3_hasRoomForStone_14 ⟨by rw [hd]; rfl, rfl⟩
set_option maxHeartbeats 4000000 in
set_option maxRecDepth 100000 in
/-- Stock.countThere() -/
theorem c_X3_countThere (l : Launch) (K : gK) (G : gW) (z : Bool) (r : Nat) (L : Nat → Nat → Nat) (y : YV) (hs : StockG K z r L G y) : gM l yX3_countThere wsX3_countThere 3 61 0 0 K [.ref (L 0 0)] G (fun v G1 => v = some (.int (nI (yThere y))) ∧ G1 = G) (gNo) := by
  refine gM.of (cc := cX3_countThere) (maxL := 4) (ret := (some .int)) (by decide) rfl (Nat.le_of_ble_eq_true rfl) ?_
  intro p e s m below meth c A S hr hlocks htab hname hE hA hI ls hl
  have hx := S.1
  have hb := S.2.1
  have hml := S.2.2.1
  have hl : lv_has ls 4 [(0, .ref (L 0 0))] := hl
  have h44 := hs.1.2.2.2.1
  have h6 := hs.1.2.2.2.2.1
  have hf2 := hs.1.2.2.2.2.2
  obtain ⟨H, hHe⟩ : ∃ z, z = s.heap := ⟨_, rfl⟩
  obtain ⟨locs, hLe⟩ : ∃ z : List Loc, z = [] := ⟨_, rfl⟩
  rw [← hHe, ← hLe]
  have hI : gI K A s G H locs := by rw [hHe, hLe]; exact hI
  clear hHe hLe
  refine lv_iconst (v := nI 0) hx hb dX3_countThere_0 (by decide) ?_
  refine lv_istore_n (lv' := [(1, .int (nI 0)), (0, .ref (L 0 0))]) hx hb dX3_countThere_1 rfl hl (by decide) rfl (fun ls hl => ?_)
  refine lv_iconst (v := nI 0) hx hb dX3_countThere_2 (by decide) ?_
  refine lv_istore_n (lv' := [(2, .int (nI 0)), (1, .int (nI 0)), (0, .ref (L 0 0))]) hx hb dX3_countThere_3 rfl hl (by decide) rfl (fun ls hl => ?_)
  have L4 : ∀ (n : Nat) (i acc : Nat) (H : Heap) (locs : List Loc) (ls : Array Slot) (hn : (ySc y) - i < n) (hi : i ≤ (ySc y)) (hacc : acc = sumN (fun i => isT (yS y i)) i), gI K A s G H locs → lv_has ls 4 [(0, .ref (L 0 0)), (1, .int (nI acc)), (2, .int (nI i))] → W p l e (gRoom 3 61 0 0) s m ([.ref (L 0 0)] : List Value).toArray below meth c H locs 0 0 (gEnd K below (fun v G1 => v = some (.int (nI (yThere y))) ∧ G1 = G) (gNo) A ([.ref (L 0 0)] : List Value).toArray s 0 0) (F0 m 4 ls []) := by
    clear hI hl
    intro n
    induction n with
    | zero =>
      intro i acc H locs ls hn hi hacc hI hl
      exact absurd hn (Nat.not_lt_zero _)
    | succ n ih =>
      intro i acc H locs ls hn hi hacc hI hl
      refine lv_iload_n hx hb dX3_countThere_4 rfl (lv_at hl 2 rfl) ?_
      refine lv_aload_n hx hb dX3_countThere_5 rfl (lv_at hl 0 rfl) ?_
      refine g_get S hE hI (C := RX3) (T := TX3) (N := 5) (ref := "StonecutterYard$Stock") (fun w h => (List.mem_cons_of_mem _ (List.mem_append_left _ (List.mem_append_right _ h)))) hs.1.1 rfl 2 (by decide) (List.mem_cons_of_mem _ (List.mem_append_left _ (List.mem_append_left _ (List.mem_of_getElem? (i := 0) rfl)))) (fun _ h9 => h9) (v := .int (nI (ySc y))) rfl dX3_countThere_6 ?_
      refine lv_icmp_ge (tgt := 38) hx hb dX3_countThere_9 (by decide) (fun c_9 => ?_) (fun c_9 => ?_)
      · skip
        have c_9 : (ySc y) ≤ i := (nI_leI (a := (ySc y)) (b := i) (by omega) (by omega)).mp c_9
        refine lv_iload_n hx hb dX3_countThere_38 rfl (lv_at hl 1 rfl) ?_
        exact g_iret S hI hr hlocks (Nat.zero_le _) (Nat.zero_le _) dX3_countThere_39 ⟨by rw [hacc, show i = ySc y by omega]; rfl, rfl⟩
      · skip
        have c_9 : i < (ySc y) := Nat.not_le.mp (fun z => c_9 ((nI_leI (a := (ySc y)) (b := i) (by omega) (by omega)).mpr z))
        refine lv_aload_n hx hb dX3_countThere_12 rfl (lv_at hl 0 rfl) ?_
        refine lv_iload_n hx hb dX3_countThere_13 rfl (lv_at hl 2 rfl) ?_
        refine g_callV (As := [.int (nI i)]) (rest := []) (b := (L 0 0)) (n := 1) S hE hI hA (c_slabIn l K _ r L (ySc y) (yKc y) (yF y) i hs.1 c_9) gX3_countThere_X3_slabOrNull rfl (by decide +kernel) ⟨Nat.le_of_ble_eq_true rfl, Nat.le_of_ble_eq_true rfl⟩ (g_hro hE hI hs.1.1 rfl) rfl hl.1 rfl (Nat.le_of_ble_eq_true rfl) dX3_countThere_14 ⟨Nat.le_of_ble_eq_true rfl, Nat.le_of_ble_eq_true rfl⟩ (fun E ce q9 Gx H1 locs1 hx9 => hx9.elim) (fun rv Gc_14 H locs hp hI => ?_)
        obtain ⟨rfl, hq9⟩ := hp
        rw [hq9] at hI
        obtain ⟨P, hsl, hpt, hpk, hsok⟩ := hs.slab c_9
        have hsok9 := hsok
        obtain ⟨s1, s2, s3, s4, s5, s6, s7, s8⟩ := hsok9
        refine W.eq (g2 := F0 m 17 ls [.ref (L 3 i)]) rfl ?_
        refine lv_astore_n (lv' := [(3, .ref (L 3 i)), (0, .ref (L 0 0)), (1, .int (nI acc)), (2, .int (nI i))]) hx hb dX3_countThere_17 rfl hl (by decide) rfl (fun ls hl => ?_)
        refine lv_aload_n hx hb dX3_countThere_18 rfl (lv_at hl 0 rfl) ?_
        refine lv_ifnull hx hb dX3_countThere_19 ?_
        refine lv_aload_n hx hb dX3_countThere_22 rfl (lv_at hl 0 rfl) ?_
        refine g_getN S hE hI (C := RX2) (T := TX2) (N := 7) (ref := "StonecutterYard$Slab") (host := "StonecutterYard") (fun w h => (List.mem_cons_of_mem _ (List.mem_append_right _ h))) hsl rfl 4 (by decide) (List.mem_of_getElem? (i := 23) rfl) (fun _ h9 => h9) (v := .int (nI (sT (yS y i)))) rfl dX3_countThere_23 ?_
        refine lv_if_ne (tgt := 32) hx hb dX3_countThere_26 (by decide) (fun c_26 => ?_) (fun c_26 => ?_)
        · skip
          have c_26 : (sT (yS y i)) ≠ 0 := fun z => c_26 ((nI_eq (a := (sT (yS y i))) (b := 0) (by omega) (by omega)).mpr z)
          refine lv_iinc (v := nI (i + 1)) (lv' := [(2, .int (nI (i + 1))), (3, .ref (L 3 i)), (0, .ref (L 0 0)), (1, .int (nI acc))]) hx hb dX3_countThere_32 hl (k := 3) rfl (nI_add _ 1) (by decide) rfl (fun ls hl => ?_)
          refine lv_goto (tgt := 4) hx hb dX3_countThere_35 (by decide) ?_
          exact ih (i + 1) acc H locs ls (by omega) (by omega) (by rw [hacc, sumN_s]; simp [isT, c_26]) hI (lv_sub hl [2,3,0] rfl)
        · skip
          have c_26 : (sT (yS y i)) = 0 := (nI_eq (a := (sT (yS y i))) (b := 0) (by omega) (by omega)).mp c_26
          refine lv_iinc (v := nI (acc + 1)) (lv' := [(1, .int (nI (acc + 1))), (3, .ref (L 3 i)), (0, .ref (L 0 0)), (2, .int (nI i))]) hx hb dX3_countThere_29 hl (k := 2) rfl (nI_add _ 1) (by decide) rfl (fun ls hl => ?_)
          refine lv_iinc (v := nI (i + 1)) (lv' := [(2, .int (nI (i + 1))), (1, .int (nI (acc + 1))), (3, .ref (L 3 i)), (0, .ref (L 0 0))]) hx hb dX3_countThere_32 hl (k := 3) rfl (nI_add _ 1) (by decide) rfl (fun ls hl => ?_)
          refine lv_goto (tgt := 4) hx hb dX3_countThere_35 (by decide) ?_
          exact ih (i + 1) (acc + 1) H locs ls (by omega) (by omega) (by rw [hacc, sumN_s]; simp [isT, c_26]) hI (lv_sub hl [3,1,0] rfl)
  exact L4 _ 0 0 H locs ls (Nat.lt_succ_self _) (Nat.zero_le _) rfl hI (lv_sub hl [2,1,0] rfl)
set_option maxHeartbeats 4000000 in
set_option maxRecDepth 100000 in
/-- Stock.areaThere() -/
theorem c_X3_areaThere (l : Launch) (K : gK) (G : gW) (z : Bool) (r : Nat) (L : Nat → Nat → Nat) (y : YV) (hs : StockG K z r L G y) : gM l yX3_areaThere wsX3_areaThere 3 61 0 0 K [.ref (L 0 0)] G (fun v G1 => v = some (.int (nI (yAreaT y))) ∧ G1 = G) (gNo) := by
  refine gM.of (cc := cX3_areaThere) (maxL := 4) (ret := (some .int)) (by decide) rfl (Nat.le_of_ble_eq_true rfl) ?_
  intro p e s m below meth c A S hr hlocks htab hname hE hA hI ls hl
  have hx := S.1
  have hb := S.2.1
  have hml := S.2.2.1
  have hl : lv_has ls 4 [(0, .ref (L 0 0))] := hl
  have h44 := hs.1.2.2.2.1
  have h6 := hs.1.2.2.2.2.1
  have hf2 := hs.1.2.2.2.2.2
  obtain ⟨H, hHe⟩ : ∃ z, z = s.heap := ⟨_, rfl⟩
  obtain ⟨locs, hLe⟩ : ∃ z : List Loc, z = [] := ⟨_, rfl⟩
  rw [← hHe, ← hLe]
  have hI : gI K A s G H locs := by rw [hHe, hLe]; exact hI
  clear hHe hLe
  refine lv_iconst (v := nI 0) hx hb dX3_areaThere_0 (by decide) ?_
  refine lv_istore_n (lv' := [(1, .int (nI 0)), (0, .ref (L 0 0))]) hx hb dX3_areaThere_1 rfl hl (by decide) rfl (fun ls hl => ?_)
  refine lv_iconst (v := nI 0) hx hb dX3_areaThere_2 (by decide) ?_
  refine lv_istore_n (lv' := [(2, .int (nI 0)), (1, .int (nI 0)), (0, .ref (L 0 0))]) hx hb dX3_areaThere_3 rfl hl (by decide) rfl (fun ls hl => ?_)
  have L4 : ∀ (n : Nat) (i acc : Nat) (H : Heap) (locs : List Loc) (ls : Array Slot) (hn : (ySc y) - i < n) (hi : i ≤ (ySc y)) (hacc : acc = sumN (fun i => if sT (yS y i) = 0 then sA (yS y i) else 0) i), gI K A s G H locs → lv_has ls 4 [(0, .ref (L 0 0)), (1, .int (nI acc)), (2, .int (nI i))] → W p l e (gRoom 3 61 0 0) s m ([.ref (L 0 0)] : List Value).toArray below meth c H locs 0 0 (gEnd K below (fun v G1 => v = some (.int (nI (yAreaT y))) ∧ G1 = G) (gNo) A ([.ref (L 0 0)] : List Value).toArray s 0 0) (F0 m 4 ls []) := by
    clear hI hl
    intro n
    induction n with
    | zero =>
      intro i acc H locs ls hn hi hacc hI hl
      exact absurd hn (Nat.not_lt_zero _)
    | succ n ih =>
      intro i acc H locs ls hn hi hacc hI hl
      refine lv_iload_n hx hb dX3_areaThere_4 rfl (lv_at hl 2 rfl) ?_
      refine lv_aload_n hx hb dX3_areaThere_5 rfl (lv_at hl 0 rfl) ?_
      refine g_get S hE hI (C := RX3) (T := TX3) (N := 5) (ref := "StonecutterYard$Stock") (fun w h => (List.mem_cons_of_mem _ (List.mem_append_left _ (List.mem_append_right _ h)))) hs.1.1 rfl 2 (by decide) (List.mem_cons_of_mem _ (List.mem_append_left _ (List.mem_append_left _ (List.mem_of_getElem? (i := 0) rfl)))) (fun _ h9 => h9) (v := .int (nI (ySc y))) rfl dX3_areaThere_6 ?_
      refine lv_icmp_ge (tgt := 42) hx hb dX3_areaThere_9 (by decide) (fun c_9 => ?_) (fun c_9 => ?_)
      · skip
        have c_9 : (ySc y) ≤ i := (nI_leI (a := (ySc y)) (b := i) (by omega) (by omega)).mp c_9
        refine lv_iload_n hx hb dX3_areaThere_42 rfl (lv_at hl 1 rfl) ?_
        exact g_iret S hI hr hlocks (Nat.zero_le _) (Nat.zero_le _) dX3_areaThere_43 ⟨by rw [hacc, show i = ySc y by omega]; rfl, rfl⟩
      · skip
        have c_9 : i < (ySc y) := Nat.not_le.mp (fun z => c_9 ((nI_leI (a := (ySc y)) (b := i) (by omega) (by omega)).mpr z))
        refine lv_aload_n hx hb dX3_areaThere_12 rfl (lv_at hl 0 rfl) ?_
        refine lv_iload_n hx hb dX3_areaThere_13 rfl (lv_at hl 2 rfl) ?_
        refine g_callV (As := [.int (nI i)]) (rest := []) (b := (L 0 0)) (n := 1) S hE hI hA (c_slabIn l K _ r L (ySc y) (yKc y) (yF y) i hs.1 c_9) gX3_areaThere_X3_slabOrNull rfl (by decide +kernel) ⟨Nat.le_of_ble_eq_true rfl, Nat.le_of_ble_eq_true rfl⟩ (g_hro hE hI hs.1.1 rfl) rfl hl.1 rfl (Nat.le_of_ble_eq_true rfl) dX3_areaThere_14 ⟨Nat.le_of_ble_eq_true rfl, Nat.le_of_ble_eq_true rfl⟩ (fun E ce q9 Gx H1 locs1 hx9 => hx9.elim) (fun rv Gc_14 H locs hp hI => ?_)
        obtain ⟨rfl, hq9⟩ := hp
        rw [hq9] at hI
        obtain ⟨P, hsl, hpt, hpk, hsok⟩ := hs.slab c_9
        have hsok9 := hsok
        obtain ⟨s1, s2, s3, s4, s5, s6, s7, s8⟩ := hsok9
        refine W.eq (g2 := F0 m 17 ls [.ref (L 3 i)]) rfl ?_
        refine lv_astore_n (lv' := [(3, .ref (L 3 i)), (0, .ref (L 0 0)), (1, .int (nI acc)), (2, .int (nI i))]) hx hb dX3_areaThere_17 rfl hl (by decide) rfl (fun ls hl => ?_)
        refine lv_aload_n hx hb dX3_areaThere_18 rfl (lv_at hl 0 rfl) ?_
        refine lv_ifnull hx hb dX3_areaThere_19 ?_
        refine lv_aload_n hx hb dX3_areaThere_22 rfl (lv_at hl 0 rfl) ?_
        refine g_getN S hE hI (C := RX2) (T := TX2) (N := 7) (ref := "StonecutterYard$Slab") (host := "StonecutterYard") (fun w h => (List.mem_cons_of_mem _ (List.mem_append_right _ h))) hsl rfl 4 (by decide) (List.mem_of_getElem? (i := 23) rfl) (fun _ h9 => h9) (v := .int (nI (sT (yS y i)))) rfl dX3_areaThere_23 ?_
        refine lv_if_ne (tgt := 36) hx hb dX3_areaThere_26 (by decide) (fun c_26 => ?_) (fun c_26 => ?_)
        · skip
          have c_26 : (sT (yS y i)) ≠ 0 := fun z => c_26 ((nI_eq (a := (sT (yS y i))) (b := 0) (by omega) (by omega)).mpr z)
          refine lv_iinc (v := nI (i + 1)) (lv' := [(2, .int (nI (i + 1))), (3, .ref (L 3 i)), (0, .ref (L 0 0)), (1, .int (nI acc))]) hx hb dX3_areaThere_36 hl (k := 3) rfl (nI_add _ 1) (by decide) rfl (fun ls hl => ?_)
          refine lv_goto (tgt := 4) hx hb dX3_areaThere_39 (by decide) ?_
          exact ih (i + 1) acc H locs ls (by omega) (by omega) (by rw [hacc, sumN_s]; simp [c_26]) hI (lv_sub hl [2,3,0] rfl)
        · skip
          have c_26 : (sT (yS y i)) = 0 := (nI_eq (a := (sT (yS y i))) (b := 0) (by omega) (by omega)).mp c_26
          refine lv_iload_n hx hb dX3_areaThere_29 rfl (lv_at hl 2 rfl) ?_
          refine lv_aload_n hx hb dX3_areaThere_30 rfl (lv_at hl 0 rfl) ?_
          refine g_callV (As := []) (rest := [.int (nI acc)]) (b := (L 3 i)) (n := 0) S hE hI hA (c_X2_area l K _ (r, 3, i) (L 3 i) (yS y i) (L 4 i) hsl) gX3_areaThere_X2_area rfl (by decide +kernel) ⟨Nat.le_of_ble_eq_true rfl, Nat.le_of_ble_eq_true rfl⟩ (g_hro hE hI hsl rfl) rfl hl.1 rfl (Nat.le_of_ble_eq_true rfl) dX3_areaThere_31 ⟨Nat.le_of_ble_eq_true rfl, Nat.le_of_ble_eq_true rfl⟩ (fun E ce q9 Gx H1 locs1 hx9 => hx9.elim) (fun rv Gc_31 H locs hp hI => ?_)
          obtain ⟨rfl, hq9⟩ := hp
          rw [hq9] at hI
          refine W.eq (g2 := F0 m 34 ls [.int (nI (sA (yS y i))), .int (nI acc)]) rfl ?_
          refine t_iadd hx hb dX3_areaThere_34 (nI_add _ _) ?_
          refine lv_istore_n (lv' := [(1, .int (nI (acc + (sA (yS y i))))), (3, .ref (L 3 i)), (0, .ref (L 0 0)), (2, .int (nI i))]) hx hb dX3_areaThere_35 rfl hl (by decide) rfl (fun ls hl => ?_)
          refine lv_iinc (v := nI (i + 1)) (lv' := [(2, .int (nI (i + 1))), (1, .int (nI (acc + (sA (yS y i))))), (3, .ref (L 3 i)), (0, .ref (L 0 0))]) hx hb dX3_areaThere_36 hl (k := 3) rfl (nI_add _ 1) (by decide) rfl (fun ls hl => ?_)
          refine lv_goto (tgt := 4) hx hb dX3_areaThere_39 (by decide) ?_
          exact ih (i + 1) (acc + (sA (yS y i))) H locs ls (by omega) (by omega) (by rw [hacc, sumN_s]; simp [c_26]) hI (lv_sub hl [3,1,0] rfl)
  exact L4 _ 0 0 H locs ls (Nat.lt_succ_self _) (Nat.zero_le _) rfl hI (lv_sub hl [2,1,0] rfl)
set_option maxHeartbeats 4000000 in
set_option maxRecDepth 100000 in
/-- Stock.areaFromNone() -/
theorem c_X3_areaFromNone (l : Launch) (K : gK) (G : gW) (z : Bool) (r : Nat) (L : Nat → Nat → Nat) (y : YV) (hs : StockG K z r L G y) : gM l yX3_areaFromNone wsX3_areaFromNone 3 61 0 0 K [.ref (L 0 0)] G (fun v G1 => v = some (.int (nI (yArea0 y))) ∧ G1 = G) (gNo) := by
  refine gM.of (cc := cX3_areaFromNone) (maxL := 4) (ret := (some .int)) (by decide) rfl (Nat.le_of_ble_eq_true rfl) ?_
  intro p e s m below meth c A S hr hlocks htab hname hE hA hI ls hl
  have hx := S.1
  have hb := S.2.1
  have hml := S.2.2.1
  have hl : lv_has ls 4 [(0, .ref (L 0 0))] := hl
  have h44 := hs.1.2.2.2.1
  have h6 := hs.1.2.2.2.2.1
  have hf2 := hs.1.2.2.2.2.2
  obtain ⟨H, hHe⟩ : ∃ z, z = s.heap := ⟨_, rfl⟩
  obtain ⟨locs, hLe⟩ : ∃ z : List Loc, z = [] := ⟨_, rfl⟩
  rw [← hHe, ← hLe]
  have hI : gI K A s G H locs := by rw [hHe, hLe]; exact hI
  clear hHe hLe
  refine lv_iconst (v := nI 0) hx hb dX3_areaFromNone_0 (by decide) ?_
  refine lv_istore_n (lv' := [(1, .int (nI 0)), (0, .ref (L 0 0))]) hx hb dX3_areaFromNone_1 rfl hl (by decide) rfl (fun ls hl => ?_)
  refine lv_iconst (v := nI 0) hx hb dX3_areaFromNone_2 (by decide) ?_
  refine lv_istore_n (lv' := [(2, .int (nI 0)), (1, .int (nI 0)), (0, .ref (L 0 0))]) hx hb dX3_areaFromNone_3 rfl hl (by decide) rfl (fun ls hl => ?_)
  have L4 : ∀ (n : Nat) (i acc : Nat) (H : Heap) (locs : List Loc) (ls : Array Slot) (hn : (ySc y) - i < n) (hi : i ≤ (ySc y)) (hacc : acc = sumN (fun i => if sF (yS y i) = -1 then sA (yS y i) else 0) i), gI K A s G H locs → lv_has ls 4 [(0, .ref (L 0 0)), (1, .int (nI acc)), (2, .int (nI i))] → W p l e (gRoom 3 61 0 0) s m ([.ref (L 0 0)] : List Value).toArray below meth c H locs 0 0 (gEnd K below (fun v G1 => v = some (.int (nI (yArea0 y))) ∧ G1 = G) (gNo) A ([.ref (L 0 0)] : List Value).toArray s 0 0) (F0 m 4 ls []) := by
    clear hI hl
    intro n
    induction n with
    | zero =>
      intro i acc H locs ls hn hi hacc hI hl
      exact absurd hn (Nat.not_lt_zero _)
    | succ n ih =>
      intro i acc H locs ls hn hi hacc hI hl
      refine lv_iload_n hx hb dX3_areaFromNone_4 rfl (lv_at hl 2 rfl) ?_
      refine lv_aload_n hx hb dX3_areaFromNone_5 rfl (lv_at hl 0 rfl) ?_
      refine g_get S hE hI (C := RX3) (T := TX3) (N := 5) (ref := "StonecutterYard$Stock") (fun w h => (List.mem_cons_of_mem _ (List.mem_append_left _ (List.mem_append_right _ h)))) hs.1.1 rfl 2 (by decide) (List.mem_cons_of_mem _ (List.mem_append_left _ (List.mem_append_left _ (List.mem_of_getElem? (i := 0) rfl)))) (fun _ h9 => h9) (v := .int (nI (ySc y))) rfl dX3_areaFromNone_6 ?_
      refine lv_icmp_ge (tgt := 43) hx hb dX3_areaFromNone_9 (by decide) (fun c_9 => ?_) (fun c_9 => ?_)
      · skip
        have c_9 : (ySc y) ≤ i := (nI_leI (a := (ySc y)) (b := i) (by omega) (by omega)).mp c_9
        refine lv_iload_n hx hb dX3_areaFromNone_43 rfl (lv_at hl 1 rfl) ?_
        exact g_iret S hI hr hlocks (Nat.zero_le _) (Nat.zero_le _) dX3_areaFromNone_44 ⟨by rw [hacc, show i = ySc y by omega]; rfl, rfl⟩
      · skip
        have c_9 : i < (ySc y) := Nat.not_le.mp (fun z => c_9 ((nI_leI (a := (ySc y)) (b := i) (by omega) (by omega)).mpr z))
        refine lv_aload_n hx hb dX3_areaFromNone_12 rfl (lv_at hl 0 rfl) ?_
        refine lv_iload_n hx hb dX3_areaFromNone_13 rfl (lv_at hl 2 rfl) ?_
        refine g_callV (As := [.int (nI i)]) (rest := []) (b := (L 0 0)) (n := 1) S hE hI hA (c_slabIn l K _ r L (ySc y) (yKc y) (yF y) i hs.1 c_9) gX3_areaFromNone_X3_slabOrNull rfl (by decide +kernel) ⟨Nat.le_of_ble_eq_true rfl, Nat.le_of_ble_eq_true rfl⟩ (g_hro hE hI hs.1.1 rfl) rfl hl.1 rfl (Nat.le_of_ble_eq_true rfl) dX3_areaFromNone_14 ⟨Nat.le_of_ble_eq_true rfl, Nat.le_of_ble_eq_true rfl⟩ (fun E ce q9 Gx H1 locs1 hx9 => hx9.elim) (fun rv Gc_14 H locs hp hI => ?_)
        obtain ⟨rfl, hq9⟩ := hp
        rw [hq9] at hI
        obtain ⟨P, hsl, hpt, hpk, hsok⟩ := hs.slab c_9
        have hsok9 := hsok
        obtain ⟨s1, s2, s3, s4, s5, s6, s7, s8⟩ := hsok9
        refine W.eq (g2 := F0 m 17 ls [.ref (L 3 i)]) rfl ?_
        refine lv_astore_n (lv' := [(3, .ref (L 3 i)), (0, .ref (L 0 0)), (1, .int (nI acc)), (2, .int (nI i))]) hx hb dX3_areaFromNone_17 rfl hl (by decide) rfl (fun ls hl => ?_)
        refine lv_aload_n hx hb dX3_areaFromNone_18 rfl (lv_at hl 0 rfl) ?_
        refine lv_ifnull hx hb dX3_areaFromNone_19 ?_
        refine lv_aload_n hx hb dX3_areaFromNone_22 rfl (lv_at hl 0 rfl) ?_
        refine g_getN S hE hI (C := RX2) (T := TX2) (N := 7) (ref := "StonecutterYard$Slab") (host := "StonecutterYard") (fun w h => (List.mem_cons_of_mem _ (List.mem_append_right _ h))) hsl rfl 3 (by decide) (List.mem_of_getElem? (i := 25) rfl) (fun _ h9 => h9) (v := .int (sF (yS y i))) rfl dX3_areaFromNone_23 ?_
        refine lv_iconst (v := (-1)) hx hb dX3_areaFromNone_26 (by decide) ?_
        refine lv_icmp_ne (tgt := 37) hx hb dX3_areaFromNone_27 (by decide) (fun c_27 => ?_) (fun c_27 => ?_)
        · skip
          refine lv_iinc (v := nI (i + 1)) (lv' := [(2, .int (nI (i + 1))), (3, .ref (L 3 i)), (0, .ref (L 0 0)), (1, .int (nI acc))]) hx hb dX3_areaFromNone_37 hl (k := 3) rfl (nI_add _ 1) (by decide) rfl (fun ls hl => ?_)
          refine lv_goto (tgt := 4) hx hb dX3_areaFromNone_40 (by decide) ?_
          exact ih (i + 1) acc H locs ls (by omega) (by omega) (by rw [hacc, sumN_s]; simp [c_27]) hI (lv_sub hl [2,3,0] rfl)
        · skip
          refine lv_iload_n hx hb dX3_areaFromNone_30 rfl (lv_at hl 2 rfl) ?_
          refine lv_aload_n hx hb dX3_areaFromNone_31 rfl (lv_at hl 0 rfl) ?_
          refine g_callV (As := []) (rest := [.int (nI acc)]) (b := (L 3 i)) (n := 0) S hE hI hA (c_X2_area l K _ (r, 3, i) (L 3 i) (yS y i) (L 4 i) hsl) gX3_areaFromNone_X2_area rfl (by decide +kernel) ⟨Nat.le_of_ble_eq_true rfl, Nat.le_of_ble_eq_true rfl⟩ (g_hro hE hI hsl rfl) rfl hl.1 rfl (Nat.le_of_ble_eq_true rfl) dX3_areaFromNone_32 ⟨Nat.le_of_ble_eq_true rfl, Nat.le_of_ble_eq_true rfl⟩ (fun E ce q9 Gx H1 locs1 hx9 => hx9.elim) (fun rv Gc_32 H locs hp hI => ?_)
          obtain ⟨rfl, hq9⟩ := hp
          rw [hq9] at hI
          refine W.eq (g2 := F0 m 35 ls [.int (nI (sA (yS y i))), .int (nI acc)]) rfl ?_
          refine t_iadd hx hb dX3_areaFromNone_35 (nI_add _ _) ?_
          refine lv_istore_n (lv' := [(1, .int (nI (acc + (sA (yS y i))))), (3, .ref (L 3 i)), (0, .ref (L 0 0)), (2, .int (nI i))]) hx hb dX3_areaFromNone_36 rfl hl (by decide) rfl (fun ls hl => ?_)
          refine lv_iinc (v := nI (i + 1)) (lv' := [(2, .int (nI (i + 1))), (1, .int (nI (acc + (sA (yS y i))))), (3, .ref (L 3 i)), (0, .ref (L 0 0))]) hx hb dX3_areaFromNone_37 hl (k := 3) rfl (nI_add _ 1) (by decide) rfl (fun ls hl => ?_)
          refine lv_goto (tgt := 4) hx hb dX3_areaFromNone_40 (by decide) ?_
          exact ih (i + 1) (acc + (sA (yS y i))) H locs ls (by omega) (by omega) (by rw [hacc, sumN_s]; simp [c_27]) hI (lv_sub hl [3,1,0] rfl)
  exact L4 _ 0 0 H locs ls (Nat.lt_succ_self _) (Nat.zero_le _) rfl hI (lv_sub hl [2,1,0] rfl)
set_option maxHeartbeats 4000000 in
set_option maxRecDepth 100000 in
/-- Stock.countTaken() -/
theorem c_X3_countTaken (l : Launch) (K : gK) (G : gW) (z : Bool) (r : Nat) (L : Nat → Nat → Nat) (y : YV) (hs : StockG K z r L G y) : gM l yX3_countTaken wsX3_countTaken 3 61 0 0 K [.ref (L 0 0)] G (fun v G1 => v = some (.int (nI (yTaken y))) ∧ G1 = G) (gNo) := by
  refine gM.of (cc := cX3_countTaken) (maxL := 4) (ret := (some .int)) (by decide) rfl (Nat.le_of_ble_eq_true rfl) ?_
  intro p e s m below meth c A S hr hlocks htab hname hE hA hI ls hl
  have hx := S.1
  have hb := S.2.1
  have hml := S.2.2.1
  have hl : lv_has ls 4 [(0, .ref (L 0 0))] := hl
  have h44 := hs.1.2.2.2.1
  have h6 := hs.1.2.2.2.2.1
  have hf2 := hs.1.2.2.2.2.2
  obtain ⟨H, hHe⟩ : ∃ z, z = s.heap := ⟨_, rfl⟩
  obtain ⟨locs, hLe⟩ : ∃ z : List Loc, z = [] := ⟨_, rfl⟩
  rw [← hHe, ← hLe]
  have hI : gI K A s G H locs := by rw [hHe, hLe]; exact hI
  clear hHe hLe
  refine lv_iconst (v := nI 0) hx hb dX3_countTaken_0 (by decide) ?_
  refine lv_istore_n (lv' := [(1, .int (nI 0)), (0, .ref (L 0 0))]) hx hb dX3_countTaken_1 rfl hl (by decide) rfl (fun ls hl => ?_)
  refine lv_iconst (v := nI 0) hx hb dX3_countTaken_2 (by decide) ?_
  refine lv_istore_n (lv' := [(2, .int (nI 0)), (1, .int (nI 0)), (0, .ref (L 0 0))]) hx hb dX3_countTaken_3 rfl hl (by decide) rfl (fun ls hl => ?_)
  have L4 : ∀ (n : Nat) (i acc : Nat) (H : Heap) (locs : List Loc) (ls : Array Slot) (hn : (yKc y) - i < n) (hi : i ≤ (yKc y)) (hacc : acc = sumN (fun i => kT (yK y i)) i), gI K A s G H locs → lv_has ls 4 [(0, .ref (L 0 0)), (1, .int (nI acc)), (2, .int (nI i))] → W p l e (gRoom 3 61 0 0) s m ([.ref (L 0 0)] : List Value).toArray below meth c H locs 0 0 (gEnd K below (fun v G1 => v = some (.int (nI (yTaken y))) ∧ G1 = G) (gNo) A ([.ref (L 0 0)] : List Value).toArray s 0 0) (F0 m 4 ls []) := by
    clear hI hl
    intro n
    induction n with
    | zero =>
      intro i acc H locs ls hn hi hacc hI hl
      exact absurd hn (Nat.not_lt_zero _)
    | succ n ih =>
      intro i acc H locs ls hn hi hacc hI hl
      refine lv_iload_n hx hb dX3_countTaken_4 rfl (lv_at hl 2 rfl) ?_
      refine lv_aload_n hx hb dX3_countTaken_5 rfl (lv_at hl 0 rfl) ?_
      refine g_get S hE hI (C := RX3) (T := TX3) (N := 5) (ref := "StonecutterYard$Stock") (fun w h => (List.mem_cons_of_mem _ (List.mem_append_left _ (List.mem_append_right _ h)))) hs.1.1 rfl 3 (by decide) (List.mem_cons_of_mem _ (List.mem_append_left _ (List.mem_append_left _ (List.mem_of_getElem? (i := 0) rfl)))) (fun _ h9 => h9) (v := .int (nI (yKc y))) rfl dX3_countTaken_6 ?_
      refine lv_icmp_ge (tgt := 39) hx hb dX3_countTaken_9 (by decide) (fun c_9 => ?_) (fun c_9 => ?_)
      · skip
        have c_9 : (yKc y) ≤ i := (nI_leI (a := (yKc y)) (b := i) (by omega) (by omega)).mp c_9
        refine lv_iload_n hx hb dX3_countTaken_39 rfl (lv_at hl 1 rfl) ?_
        exact g_iret S hI hr hlocks (Nat.zero_le _) (Nat.zero_le _) dX3_countTaken_40 ⟨by rw [hacc, show i = yKc y by omega]; rfl, rfl⟩
      · skip
        have c_9 : i < (yKc y) := Nat.not_le.mp (fun z => c_9 ((nI_leI (a := (yKc y)) (b := i) (by omega) (by omega)).mpr z))
        refine lv_aload_n hx hb dX3_countTaken_12 rfl (lv_at hl 0 rfl) ?_
        refine lv_iload_n hx hb dX3_countTaken_13 rfl (lv_at hl 2 rfl) ?_
        refine g_callV (As := [.int (nI i)]) (rest := []) (b := (L 0 0)) (n := 1) S hE hI hA (c_kindIn l K _ r L (ySc y) (yKc y) (yF y) i hs.1 c_9) gX3_countTaken_X3_kindOrNull rfl (by decide +kernel) ⟨Nat.le_of_ble_eq_true rfl, Nat.le_of_ble_eq_true rfl⟩ (g_hro hE hI hs.1.1 rfl) rfl hl.1 rfl (Nat.le_of_ble_eq_true rfl) dX3_countTaken_14 ⟨Nat.le_of_ble_eq_true rfl, Nat.le_of_ble_eq_true rfl⟩ (fun E ce q9 Gx H1 locs1 hx9 => hx9.elim) (fun rv Gc_14 H locs hp hI => ?_)
        obtain ⟨rfl, hq9⟩ := hp
        rw [hq9] at hI
        obtain ⟨hkd, hkok⟩ := hs.kind c_9
        have hkok9 := hkok
        obtain ⟨k1, k2, k3, k4, k5, k6, k7, k8, k9⟩ := hkok9
        refine W.eq (g2 := F0 m 17 ls [.ref (L 5 i)]) rfl ?_
        refine lv_astore_n (lv' := [(3, .ref (L 5 i)), (0, .ref (L 0 0)), (1, .int (nI acc)), (2, .int (nI i))]) hx hb dX3_countTaken_17 rfl hl (by decide) rfl (fun ls hl => ?_)
        refine lv_iload_n hx hb dX3_countTaken_18 rfl (lv_at hl 2 rfl) ?_
        refine lv_aload_n hx hb dX3_countTaken_19 rfl (lv_at hl 0 rfl) ?_
        refine lv_ifnonnull (tgt := 27) hx hb dX3_countTaken_20 (by decide) ?_
        refine lv_aload_n hx hb dX3_countTaken_27 rfl (lv_at hl 0 rfl) ?_
        refine g_getN S hE hI (C := RX0) (T := TX0) (N := 8) (ref := "StonecutterYard$Kind") (host := "StonecutterYard") (fun w h => (List.mem_cons_of_mem _ (List.mem_append_right _ h))) hkd rfl 6 (by decide) (List.mem_of_getElem? (i := 26) rfl) (fun _ h9 => h9) (v := .int (nI (kT (yK y i)))) rfl dX3_countTaken_28 ?_
        refine t_iadd hx hb dX3_countTaken_31 (nI_add _ _) ?_
        refine lv_istore_n (lv' := [(1, .int (nI (acc + (kT (yK y i))))), (3, .ref (L 5 i)), (0, .ref (L 0 0)), (2, .int (nI i))]) hx hb dX3_countTaken_32 rfl hl (by decide) rfl (fun ls hl => ?_)
        refine lv_iinc (v := nI (i + 1)) (lv' := [(2, .int (nI (i + 1))), (1, .int (nI (acc + (kT (yK y i))))), (3, .ref (L 5 i)), (0, .ref (L 0 0))]) hx hb dX3_countTaken_33 hl (k := 3) rfl (nI_add _ 1) (by decide) rfl (fun ls hl => ?_)
        refine lv_goto (tgt := 4) hx hb dX3_countTaken_36 (by decide) ?_
        exact ih (i + 1) (acc + (kT (yK y i))) H locs ls (by omega) (by omega) (by rw [hacc, sumN_s]) hI (lv_sub hl [3,1,0] rfl)
  exact L4 _ 0 0 H locs ls (Nat.lt_succ_self _) (Nat.zero_le _) rfl hI (lv_sub hl [2,1,0] rfl)
set_option maxHeartbeats 4000000 in
set_option maxRecDepth 100000 in
/-- Stock.countWanted() -/
theorem c_X3_countWanted (l : Launch) (K : gK) (G : gW) (z : Bool) (r : Nat) (L : Nat → Nat → Nat) (y : YV) (hs : StockG K z r L G y) : gM l yX3_countWanted wsX3_countWanted 3 61 0 0 K [.ref (L 0 0)] G (fun v G1 => v = some (.int (nI (yWanted y))) ∧ G1 = G) (gNo) := by
  refine gM.of (cc := cX3_countWanted) (maxL := 4) (ret := (some .int)) (by decide) rfl (Nat.le_of_ble_eq_true rfl) ?_
  intro p e s m below meth c A S hr hlocks htab hname hE hA hI ls hl
  have hx := S.1
  have hb := S.2.1
  have hml := S.2.2.1
  have hl : lv_has ls 4 [(0, .ref (L 0 0))] := hl
  have h44 := hs.1.2.2.2.1
  have h6 := hs.1.2.2.2.2.1
  have hf2 := hs.1.2.2.2.2.2
  obtain ⟨H, hHe⟩ : ∃ z, z = s.heap := ⟨_, rfl⟩
  obtain ⟨locs, hLe⟩ : ∃ z : List Loc, z = [] := ⟨_, rfl⟩
  rw [← hHe, ← hLe]
  have hI : gI K A s G H locs := by rw [hHe, hLe]; exact hI
  clear hHe hLe
  refine lv_iconst (v := nI 0) hx hb dX3_countWanted_0 (by decide) ?_
  refine lv_istore_n (lv' := [(1, .int (nI 0)), (0, .ref (L 0 0))]) hx hb dX3_countWanted_1 rfl hl (by decide) rfl (fun ls hl => ?_)
  refine lv_iconst (v := nI 0) hx hb dX3_countWanted_2 (by decide) ?_
  refine lv_istore_n (lv' := [(2, .int (nI 0)), (1, .int (nI 0)), (0, .ref (L 0 0))]) hx hb dX3_countWanted_3 rfl hl (by decide) rfl (fun ls hl => ?_)
  have L4 : ∀ (n : Nat) (i acc : Nat) (H : Heap) (locs : List Loc) (ls : Array Slot) (hn : (yKc y) - i < n) (hi : i ≤ (yKc y)) (hacc : acc = sumN (fun i => kN (yK y i)) i), gI K A s G H locs → lv_has ls 4 [(0, .ref (L 0 0)), (1, .int (nI acc)), (2, .int (nI i))] → W p l e (gRoom 3 61 0 0) s m ([.ref (L 0 0)] : List Value).toArray below meth c H locs 0 0 (gEnd K below (fun v G1 => v = some (.int (nI (yWanted y))) ∧ G1 = G) (gNo) A ([.ref (L 0 0)] : List Value).toArray s 0 0) (F0 m 4 ls []) := by
    clear hI hl
    intro n
    induction n with
    | zero =>
      intro i acc H locs ls hn hi hacc hI hl
      exact absurd hn (Nat.not_lt_zero _)
    | succ n ih =>
      intro i acc H locs ls hn hi hacc hI hl
      refine lv_iload_n hx hb dX3_countWanted_4 rfl (lv_at hl 2 rfl) ?_
      refine lv_aload_n hx hb dX3_countWanted_5 rfl (lv_at hl 0 rfl) ?_
      refine g_get S hE hI (C := RX3) (T := TX3) (N := 5) (ref := "StonecutterYard$Stock") (fun w h => (List.mem_cons_of_mem _ (List.mem_append_left _ (List.mem_append_right _ h)))) hs.1.1 rfl 3 (by decide) (List.mem_cons_of_mem _ (List.mem_append_left _ (List.mem_append_left _ (List.mem_of_getElem? (i := 0) rfl)))) (fun _ h9 => h9) (v := .int (nI (yKc y))) rfl dX3_countWanted_6 ?_
      refine lv_icmp_ge (tgt := 39) hx hb dX3_countWanted_9 (by decide) (fun c_9 => ?_) (fun c_9 => ?_)
      · skip
        have c_9 : (yKc y) ≤ i := (nI_leI (a := (yKc y)) (b := i) (by omega) (by omega)).mp c_9
        refine lv_iload_n hx hb dX3_countWanted_39 rfl (lv_at hl 1 rfl) ?_
        exact g_iret S hI hr hlocks (Nat.zero_le _) (Nat.zero_le _) dX3_countWanted_40 ⟨by rw [hacc, show i = yKc y by omega]; rfl, rfl⟩
      · skip
        have c_9 : i < (yKc y) := Nat.not_le.mp (fun z => c_9 ((nI_leI (a := (yKc y)) (b := i) (by omega) (by omega)).mpr z))
        refine lv_aload_n hx hb dX3_countWanted_12 rfl (lv_at hl 0 rfl) ?_
        refine lv_iload_n hx hb dX3_countWanted_13 rfl (lv_at hl 2 rfl) ?_
        refine g_callV (As := [.int (nI i)]) (rest := []) (b := (L 0 0)) (n := 1) S hE hI hA (c_kindIn l K _ r L (ySc y) (yKc y) (yF y) i hs.1 c_9) gX3_countWanted_X3_kindOrNull rfl (by decide +kernel) ⟨Nat.le_of_ble_eq_true rfl, Nat.le_of_ble_eq_true rfl⟩ (g_hro hE hI hs.1.1 rfl) rfl hl.1 rfl (Nat.le_of_ble_eq_true rfl) dX3_countWanted_14 ⟨Nat.le_of_ble_eq_true rfl, Nat.le_of_ble_eq_true rfl⟩ (fun E ce q9 Gx H1 locs1 hx9 => hx9.elim) (fun rv Gc_14 H locs hp hI => ?_)
        obtain ⟨rfl, hq9⟩ := hp
        rw [hq9] at hI
        obtain ⟨hkd, hkok⟩ := hs.kind c_9
        have hkok9 := hkok
        obtain ⟨k1, k2, k3, k4, k5, k6, k7, k8, k9⟩ := hkok9
        refine W.eq (g2 := F0 m 17 ls [.ref (L 5 i)]) rfl ?_
        refine lv_astore_n (lv' := [(3, .ref (L 5 i)), (0, .ref (L 0 0)), (1, .int (nI acc)), (2, .int (nI i))]) hx hb dX3_countWanted_17 rfl hl (by decide) rfl (fun ls hl => ?_)
        refine lv_iload_n hx hb dX3_countWanted_18 rfl (lv_at hl 2 rfl) ?_
        refine lv_aload_n hx hb dX3_countWanted_19 rfl (lv_at hl 0 rfl) ?_
        refine lv_ifnonnull (tgt := 27) hx hb dX3_countWanted_20 (by decide) ?_
        refine lv_aload_n hx hb dX3_countWanted_27 rfl (lv_at hl 0 rfl) ?_
        refine g_getN S hE hI (C := RX0) (T := TX0) (N := 8) (ref := "StonecutterYard$Kind") (host := "StonecutterYard") (fun w h => (List.mem_cons_of_mem _ (List.mem_append_right _ h))) hkd rfl 5 (by decide) (List.mem_of_getElem? (i := 24) rfl) (fun _ h9 => h9) (v := .int (nI (kN (yK y i)))) rfl dX3_countWanted_28 ?_
        refine t_iadd hx hb dX3_countWanted_31 (nI_add _ _) ?_
        refine lv_istore_n (lv' := [(1, .int (nI (acc + (kN (yK y i))))), (3, .ref (L 5 i)), (0, .ref (L 0 0)), (2, .int (nI i))]) hx hb dX3_countWanted_32 rfl hl (by decide) rfl (fun ls hl => ?_)
        refine lv_iinc (v := nI (i + 1)) (lv' := [(2, .int (nI (i + 1))), (1, .int (nI (acc + (kN (yK y i))))), (3, .ref (L 5 i)), (0, .ref (L 0 0))]) hx hb dX3_countWanted_33 hl (k := 3) rfl (nI_add _ 1) (by decide) rfl (fun ls hl => ?_)
        refine lv_goto (tgt := 4) hx hb dX3_countWanted_36 (by decide) ?_
        exact ih (i + 1) (acc + (kN (yK y i))) H locs ls (by omega) (by omega) (by rw [hacc, sumN_s]) hI (lv_sub hl [3,1,0] rfl)
  exact L4 _ 0 0 H locs ls (Nat.lt_succ_self _) (Nat.zero_le _) rfl hI (lv_sub hl [2,1,0] rfl)
set_option maxHeartbeats 4000000 in
set_option maxRecDepth 100000 in
/-- Stock.sumPaid() -/
theorem c_X3_sumPaid (l : Launch) (K : gK) (G : gW) (z : Bool) (r : Nat) (L : Nat → Nat → Nat) (y : YV) (hs : StockG K z r L G y) : gM l yX3_sumPaid wsX3_sumPaid 3 61 0 0 K [.ref (L 0 0)] G (fun v G1 => v = some (.int (nI (yPaid y))) ∧ G1 = G) (gNo) := by
  refine gM.of (cc := cX3_sumPaid) (maxL := 4) (ret := (some .int)) (by decide) rfl (Nat.le_of_ble_eq_true rfl) ?_
  intro p e s m below meth c A S hr hlocks htab hname hE hA hI ls hl
  have hx := S.1
  have hb := S.2.1
  have hml := S.2.2.1
  have hl : lv_has ls 4 [(0, .ref (L 0 0))] := hl
  have h44 := hs.1.2.2.2.1
  have h6 := hs.1.2.2.2.2.1
  have hf2 := hs.1.2.2.2.2.2
  obtain ⟨H, hHe⟩ : ∃ z, z = s.heap := ⟨_, rfl⟩
  obtain ⟨locs, hLe⟩ : ∃ z : List Loc, z = [] := ⟨_, rfl⟩
  rw [← hHe, ← hLe]
  have hI : gI K A s G H locs := by rw [hHe, hLe]; exact hI
  clear hHe hLe
  refine lv_iconst (v := nI 0) hx hb dX3_sumPaid_0 (by decide) ?_
  refine lv_istore_n (lv' := [(1, .int (nI 0)), (0, .ref (L 0 0))]) hx hb dX3_sumPaid_1 rfl hl (by decide) rfl (fun ls hl => ?_)
  refine lv_iconst (v := nI 0) hx hb dX3_sumPaid_2 (by decide) ?_
  refine lv_istore_n (lv' := [(2, .int (nI 0)), (1, .int (nI 0)), (0, .ref (L 0 0))]) hx hb dX3_sumPaid_3 rfl hl (by decide) rfl (fun ls hl => ?_)
  have L4 : ∀ (n : Nat) (i acc : Nat) (H : Heap) (locs : List Loc) (ls : Array Slot) (hn : (yKc y) - i < n) (hi : i ≤ (yKc y)) (hacc : acc = sumN (fun i => kD (yK y i)) i), gI K A s G H locs → lv_has ls 4 [(0, .ref (L 0 0)), (1, .int (nI acc)), (2, .int (nI i))] → W p l e (gRoom 3 61 0 0) s m ([.ref (L 0 0)] : List Value).toArray below meth c H locs 0 0 (gEnd K below (fun v G1 => v = some (.int (nI (yPaid y))) ∧ G1 = G) (gNo) A ([.ref (L 0 0)] : List Value).toArray s 0 0) (F0 m 4 ls []) := by
    clear hI hl
    intro n
    induction n with
    | zero =>
      intro i acc H locs ls hn hi hacc hI hl
      exact absurd hn (Nat.not_lt_zero _)
    | succ n ih =>
      intro i acc H locs ls hn hi hacc hI hl
      refine lv_iload_n hx hb dX3_sumPaid_4 rfl (lv_at hl 2 rfl) ?_
      refine lv_aload_n hx hb dX3_sumPaid_5 rfl (lv_at hl 0 rfl) ?_
      refine g_get S hE hI (C := RX3) (T := TX3) (N := 5) (ref := "StonecutterYard$Stock") (fun w h => (List.mem_cons_of_mem _ (List.mem_append_left _ (List.mem_append_right _ h)))) hs.1.1 rfl 3 (by decide) (List.mem_cons_of_mem _ (List.mem_append_left _ (List.mem_append_left _ (List.mem_of_getElem? (i := 0) rfl)))) (fun _ h9 => h9) (v := .int (nI (yKc y))) rfl dX3_sumPaid_6 ?_
      refine lv_icmp_ge (tgt := 39) hx hb dX3_sumPaid_9 (by decide) (fun c_9 => ?_) (fun c_9 => ?_)
      · skip
        have c_9 : (yKc y) ≤ i := (nI_leI (a := (yKc y)) (b := i) (by omega) (by omega)).mp c_9
        refine lv_iload_n hx hb dX3_sumPaid_39 rfl (lv_at hl 1 rfl) ?_
        exact g_iret S hI hr hlocks (Nat.zero_le _) (Nat.zero_le _) dX3_sumPaid_40 ⟨by rw [hacc, show i = yKc y by omega]; rfl, rfl⟩
      · skip
        have c_9 : i < (yKc y) := Nat.not_le.mp (fun z => c_9 ((nI_leI (a := (yKc y)) (b := i) (by omega) (by omega)).mpr z))
        refine lv_aload_n hx hb dX3_sumPaid_12 rfl (lv_at hl 0 rfl) ?_
        refine lv_iload_n hx hb dX3_sumPaid_13 rfl (lv_at hl 2 rfl) ?_
        refine g_callV (As := [.int (nI i)]) (rest := []) (b := (L 0 0)) (n := 1) S hE hI hA (c_kindIn l K _ r L (ySc y) (yKc y) (yF y) i hs.1 c_9) gX3_sumPaid_X3_kindOrNull rfl (by decide +kernel) ⟨Nat.le_of_ble_eq_true rfl, Nat.le_of_ble_eq_true rfl⟩ (g_hro hE hI hs.1.1 rfl) rfl hl.1 rfl (Nat.le_of_ble_eq_true rfl) dX3_sumPaid_14 ⟨Nat.le_of_ble_eq_true rfl, Nat.le_of_ble_eq_true rfl⟩ (fun E ce q9 Gx H1 locs1 hx9 => hx9.elim) (fun rv Gc_14 H locs hp hI => ?_)
        obtain ⟨rfl, hq9⟩ := hp
        rw [hq9] at hI
        obtain ⟨hkd, hkok⟩ := hs.kind c_9
        have hkok9 := hkok
        obtain ⟨k1, k2, k3, k4, k5, k6, k7, k8, k9⟩ := hkok9
        refine W.eq (g2 := F0 m 17 ls [.ref (L 5 i)]) rfl ?_
        refine lv_astore_n (lv' := [(3, .ref (L 5 i)), (0, .ref (L 0 0)), (1, .int (nI acc)), (2, .int (nI i))]) hx hb dX3_sumPaid_17 rfl hl (by decide) rfl (fun ls hl => ?_)
        refine lv_iload_n hx hb dX3_sumPaid_18 rfl (lv_at hl 2 rfl) ?_
        refine lv_aload_n hx hb dX3_sumPaid_19 rfl (lv_at hl 0 rfl) ?_
        refine lv_ifnonnull (tgt := 27) hx hb dX3_sumPaid_20 (by decide) ?_
        refine lv_aload_n hx hb dX3_sumPaid_27 rfl (lv_at hl 0 rfl) ?_
        refine g_getN S hE hI (C := RX0) (T := TX0) (N := 8) (ref := "StonecutterYard$Kind") (host := "StonecutterYard") (fun w h => (List.mem_cons_of_mem _ (List.mem_append_right _ h))) hkd rfl 7 (by decide) (List.mem_of_getElem? (i := 29) rfl) (fun _ h9 => h9) (v := .int (nI (kD (yK y i)))) rfl dX3_sumPaid_28 ?_
        refine t_iadd hx hb dX3_sumPaid_31 (nI_add _ _) ?_
        refine lv_istore_n (lv' := [(1, .int (nI (acc + (kD (yK y i))))), (3, .ref (L 5 i)), (0, .ref (L 0 0)), (2, .int (nI i))]) hx hb dX3_sumPaid_32 rfl hl (by decide) rfl (fun ls hl => ?_)
        refine lv_iinc (v := nI (i + 1)) (lv' := [(2, .int (nI (i + 1))), (1, .int (nI (acc + (kD (yK y i))))), (3, .ref (L 5 i)), (0, .ref (L 0 0))]) hx hb dX3_sumPaid_33 hl (k := 3) rfl (nI_add _ 1) (by decide) rfl (fun ls hl => ?_)
        refine lv_goto (tgt := 4) hx hb dX3_sumPaid_36 (by decide) ?_
        exact ih (i + 1) (acc + (kD (yK y i))) H locs ls (by omega) (by omega) (by rw [hacc, sumN_s]) hI (lv_sub hl [3,1,0] rfl)
  exact L4 _ 0 0 H locs ls (Nat.lt_succ_self _) (Nat.zero_le _) rfl hI (lv_sub hl [2,1,0] rfl)
set_option maxHeartbeats 4000000 in
set_option maxRecDepth 100000 in
/-- Stock.waste() -/
theorem c_X3_waste (l : Launch) (K : gK) (G : gW) (z : Bool) (r : Nat) (L : Nat → Nat → Nat) (y : YV) (hs : StockG K z r L G y) : gM l yX3_waste wsX3_waste 4 84 0 0 K [.ref (L 0 0)] G (fun v G1 => v = some (.int (yWaste y)) ∧ G1 = G) (gNo) := by
  refine gM.of (cc := cX3_waste) (maxL := 4) (ret := (some .int)) (by decide) rfl (Nat.le_of_ble_eq_true rfl) ?_
  intro p e s m below meth c A S hr hlocks htab hname hE hA hI ls hl
  have hx := S.1
  have hb := S.2.1
  have hml := S.2.2.1
  have hl : lv_has ls 4 [(0, .ref (L 0 0))] := hl
  have h44 := hs.1.2.2.2.1
  have h6 := hs.1.2.2.2.2.1
  have hf2 := hs.1.2.2.2.2.2
  obtain ⟨H, hHe⟩ : ∃ z, z = s.heap := ⟨_, rfl⟩
  obtain ⟨locs, hLe⟩ : ∃ z : List Loc, z = [] := ⟨_, rfl⟩
  rw [← hHe, ← hLe]
  have hI : gI K A s G H locs := by rw [hHe, hLe]; exact hI
  clear hHe hLe
  refine lv_aload_n hx hb dX3_waste_0 rfl (lv_at hl 0 rfl) ?_
  refine g_callV (As := []) (rest := []) (b := (L 0 0)) (n := 0) S hE hI hA (c_X3_areaFromNone l K _ z r L y hs) gX3_waste_X3_areaFromNone rfl (by decide +kernel) ⟨Nat.le_of_ble_eq_true rfl, Nat.le_of_ble_eq_true rfl⟩ (g_hro hE hI hs.1.1 rfl) rfl hl.1 rfl (Nat.le_of_ble_eq_true rfl) dX3_waste_1 ⟨Nat.le_of_ble_eq_true rfl, Nat.le_of_ble_eq_true rfl⟩ (fun E ce q9 Gx H1 locs1 hx9 => hx9.elim) (fun rv Gc_1 H locs hp hI => ?_)
  obtain ⟨rfl, hq9⟩ := hp
  rw [hq9] at hI
  refine W.eq (g2 := F0 m 4 ls [.int (nI (yArea0 y))]) rfl ?_
  refine lv_aload_n hx hb dX3_waste_4 rfl (lv_at hl 0 rfl) ?_
  refine g_callV (As := []) (rest := [.int (nI (yArea0 y))]) (b := (L 0 0)) (n := 0) S hE hI hA (c_X3_areaThere l K _ z r L y hs) gX3_waste_X3_areaThere rfl (by decide +kernel) ⟨Nat.le_of_ble_eq_true rfl, Nat.le_of_ble_eq_true rfl⟩ (g_hro hE hI hs.1.1 rfl) rfl hl.1 rfl (Nat.le_of_ble_eq_true rfl) dX3_waste_5 ⟨Nat.le_of_ble_eq_true rfl, Nat.le_of_ble_eq_true rfl⟩ (fun E ce q9 Gx H1 locs1 hx9 => hx9.elim) (fun rv Gc_5 H locs hp hI => ?_)
  obtain ⟨rfl, hq9⟩ := hp
  rw [hq9] at hI
  refine W.eq (g2 := F0 m 8 ls [.int (nI (yAreaT y)), .int (nI (yArea0 y))]) rfl ?_
  refine lv_isub hx hb dX3_waste_8 ?_
  refine lv_istore_n (lv' := [(1, .int ((nI (yArea0 y)) - (nI (yAreaT y)))), (0, .ref (L 0 0))]) hx hb dX3_waste_9 rfl hl (by decide) rfl (fun ls hl => ?_)
  refine lv_iconst (v := nI 0) hx hb dX3_waste_10 (by decide) ?_
  refine lv_istore_n (lv' := [(2, .int (nI 0)), (1, .int ((nI (yArea0 y)) - (nI (yAreaT y)))), (0, .ref (L 0 0))]) hx hb dX3_waste_11 rfl hl (by decide) rfl (fun ls hl => ?_)
  have L12 : ∀ (n : Nat) (i : Nat) (w : Int32) (H : Heap) (locs : List Loc) (ls : Array Slot) (hn : yKc y - i < n) (hi : i ≤ yKc y) (hw : w = nI (yArea0 y) - nI (yAreaT y) - nI (sumN (fun i => kT (yK y i) * kL (yK y i) * kB (yK y i)) i)), gI K A s G H locs → lv_has ls 4 [(0, .ref (L 0 0)), (1, .int w), (2, .int (nI i))] → W p l e (gRoom 4 84 0 0) s m ([.ref (L 0 0)] : List Value).toArray below meth c H locs 0 0 (gEnd K below (fun v G1 => v = some (.int (yWaste y)) ∧ G1 = G) (gNo) A ([.ref (L 0 0)] : List Value).toArray s 0 0) (F0 m 12 ls []) := by
    clear hI hl
    intro n
    induction n with
    | zero =>
      intro i w H locs ls hn hi hw hI hl
      exact absurd hn (Nat.not_lt_zero _)
    | succ n ih =>
      intro i w H locs ls hn hi hw hI hl
      refine lv_iload_n hx hb dX3_waste_12 rfl (lv_at hl 2 rfl) ?_
      refine lv_aload_n hx hb dX3_waste_13 rfl (lv_at hl 0 rfl) ?_
      refine g_get S hE hI (C := RX3) (T := TX3) (N := 5) (ref := "StonecutterYard$Stock") (fun w h => (List.mem_cons_of_mem _ (List.mem_append_left _ (List.mem_append_left _ (List.mem_append_right _ h))))) hs.1.1 rfl 3 (by decide) (List.mem_cons_of_mem _ (List.mem_append_left _ (List.mem_append_left _ (List.mem_append_left _ (List.mem_append_left _ (List.mem_of_getElem? (i := 0) rfl)))))) (fun _ h9 => h9) (v := .int (nI (yKc y))) rfl dX3_waste_14 ?_
      refine lv_icmp_ge (tgt := 53) hx hb dX3_waste_17 (by decide) (fun c_17 => ?_) (fun c_17 => ?_)
      · skip
        have c_17 : (yKc y) ≤ i := (nI_leI (a := (yKc y)) (b := i) (by omega) (by omega)).mp c_17
        refine lv_iload_n hx hb dX3_waste_53 rfl (lv_at hl 1 rfl) ?_
        exact g_iret S hI hr hlocks (Nat.zero_le _) (Nat.zero_le _) dX3_waste_54 ⟨by rw [hw, show i = yKc y by omega]; rfl, rfl⟩
      · skip
        have c_17 : i < (yKc y) := Nat.not_le.mp (fun z => c_17 ((nI_leI (a := (yKc y)) (b := i) (by omega) (by omega)).mpr z))
        refine lv_aload_n hx hb dX3_waste_20 rfl (lv_at hl 0 rfl) ?_
        refine lv_iload_n hx hb dX3_waste_21 rfl (lv_at hl 2 rfl) ?_
        refine g_callV (As := [.int (nI i)]) (rest := []) (b := (L 0 0)) (n := 1) S hE hI hA (c_kindIn l K _ r L (ySc y) (yKc y) (yF y) i hs.1 c_17) gX3_waste_X3_kindOrNull rfl (by decide +kernel) ⟨Nat.le_of_ble_eq_true rfl, Nat.le_of_ble_eq_true rfl⟩ (g_hro hE hI hs.1.1 rfl) rfl hl.1 rfl (Nat.le_of_ble_eq_true rfl) dX3_waste_22 ⟨Nat.le_of_ble_eq_true rfl, Nat.le_of_ble_eq_true rfl⟩ (fun E ce q9 Gx H1 locs1 hx9 => hx9.elim) (fun rv Gc_22 H locs hp hI => ?_)
        obtain ⟨rfl, hq9⟩ := hp
        rw [hq9] at hI
        obtain ⟨hkd, hkok⟩ := hs.kind c_17
        have hkok9 := hkok
        obtain ⟨k1, k2, k3, k4, k5, k6, k7, k8, k9⟩ := hkok9
        refine W.eq (g2 := F0 m 25 ls [.ref (L 5 i)]) rfl ?_
        refine lv_astore_n (lv' := [(3, .ref (L 5 i)), (0, .ref (L 0 0)), (1, .int w), (2, .int (nI i))]) hx hb dX3_waste_25 rfl hl (by decide) rfl (fun ls hl => ?_)
        refine lv_aload_n hx hb dX3_waste_26 rfl (lv_at hl 0 rfl) ?_
        refine lv_ifnull hx hb dX3_waste_27 ?_
        refine lv_iload_n hx hb dX3_waste_30 rfl (lv_at hl 2 rfl) ?_
        refine lv_aload_n hx hb dX3_waste_31 rfl (lv_at hl 0 rfl) ?_
        refine g_getN S hE hI (C := RX0) (T := TX0) (N := 8) (ref := "StonecutterYard$Kind") (host := "StonecutterYard") (fun w h => (List.mem_cons_of_mem _ (List.mem_append_left _ (List.mem_append_right _ h)))) hkd rfl 6 (by decide) (List.mem_of_getElem? (i := 26) rfl) (fun _ h9 => h9) (v := .int (nI (kT (yK y i)))) rfl dX3_waste_32 ?_
        refine lv_aload_n hx hb dX3_waste_35 rfl (lv_at hl 0 rfl) ?_
        refine g_getN S hE hI (C := RX0) (T := TX0) (N := 8) (ref := "StonecutterYard$Kind") (host := "StonecutterYard") (fun w h => (List.mem_cons_of_mem _ (List.mem_append_left _ (List.mem_append_right _ h)))) hkd rfl 0 (by decide) (List.mem_of_getElem? (i := 27) rfl) (fun _ h9 => h9) (v := .int (nI (kL (yK y i)))) rfl dX3_waste_36 ?_
        refine t_imul hx hb dX3_waste_39 (pk_mul _ _) ?_
        refine lv_aload_n hx hb dX3_waste_40 rfl (lv_at hl 0 rfl) ?_
        refine g_getN S hE hI (C := RX0) (T := TX0) (N := 8) (ref := "StonecutterYard$Kind") (host := "StonecutterYard") (fun w h => (List.mem_cons_of_mem _ (List.mem_append_left _ (List.mem_append_right _ h)))) hkd rfl 1 (by decide) (List.mem_of_getElem? (i := 28) rfl) (fun _ h9 => h9) (v := .int (nI (kB (yK y i)))) rfl dX3_waste_41 ?_
        refine t_imul hx hb dX3_waste_44 (pk_mul _ _) ?_
        refine lv_isub hx hb dX3_waste_45 ?_
        refine lv_istore_n (lv' := [(1, .int (w - (nI (((kT (yK y i)) * (kL (yK y i))) * (kB (yK y i)))))), (3, .ref (L 5 i)), (0, .ref (L 0 0)), (2, .int (nI i))]) hx hb dX3_waste_46 rfl hl (by decide) rfl (fun ls hl => ?_)
        refine lv_iinc (v := nI (i + 1)) (lv' := [(2, .int (nI (i + 1))), (1, .int (w - (nI (((kT (yK y i)) * (kL (yK y i))) * (kB (yK y i)))))), (3, .ref (L 5 i)), (0, .ref (L 0 0))]) hx hb dX3_waste_47 hl (k := 3) rfl (nI_add _ 1) (by decide) rfl (fun ls hl => ?_)
        refine lv_goto (tgt := 12) hx hb dX3_waste_50 (by decide) ?_
        exact ih (i + 1) _ H locs ls (by omega) (by omega) (by rw [hw, sumN_s, i32_sub_sub, nI_add]) hI (lv_sub hl [3,1,0] rfl)
  exact L12 _ 0 _ H locs ls (Nat.lt_succ_self _) (Nat.zero_le _) (by rw [show sumN (fun i => kT (yK y i) * kL (yK y i) * kB (yK y i)) 0 = 0 from rfl, show nI 0 = 0 from rfl, Int32.sub_zero]) hI (lv_sub hl [2,1,0] rfl)
set_option maxHeartbeats 4000000 in
set_option maxRecDepth 100000 in
/-- Stock.dearestStone(wide, high, grain) -/
theorem c_X3_dearestStone (l : Launch) (K : gK) (G : gW) (z : Bool) (r : Nat) (L : Nat → Nat → Nat) (y : YV) (w h g : Nat) (hs : StockG K z r L G y) (hwh : w ≤ 24 ∧ h ≤ 24 ∧ g ≤ 1) : gM l yX3_dearestStone wsX3_dearestStone 4 89 0 0 K [.ref (L 0 0), .int (nI w), .int (nI h), .int (nI g)] G (fun v G1 => v = some (.int (oI (yStone y w h g).1)) ∧ G1 = G) (gNo) := by
  refine gM.of (cc := cX3_dearestStone) (maxL := 8) (ret := (some .int)) (by decide) rfl (Nat.le_of_ble_eq_true rfl) ?_
  intro p e s m below meth c A S hr hlocks htab hname hE hA hI ls hl
  have hx := S.1
  have hb := S.2.1
  have hml := S.2.2.1
  have hl : lv_has ls 8 [(0, .ref (L 0 0)), (1, .int (nI w)), (2, .int (nI h)), (3, .int (nI g))] := hl
  have h44 := hs.1.2.2.2.1
  have h6 := hs.1.2.2.2.2.1
  have hf2 := hs.1.2.2.2.2.2
  obtain ⟨H, hHe⟩ : ∃ z, z = s.heap := ⟨_, rfl⟩
  obtain ⟨locs, hLe⟩ : ∃ z : List Loc, z = [] := ⟨_, rfl⟩
  rw [← hHe, ← hLe]
  have hI : gI K A s G H locs := by rw [hHe, hLe]; exact hI
  clear hHe hLe
  refine lv_iconst (v := (-1)) hx hb dX3_dearestStone_0 (by decide) ?_
  refine lv_istore (lv' := [(4, .int (-1)), (0, .ref (L 0 0)), (1, .int (nI w)), (2, .int (nI h)), (3, .int (nI g))]) hx hb dX3_dearestStone_1 hl (by decide) rfl (fun ls hl => ?_)
  refine lv_iconst (v := nI 0) hx hb dX3_dearestStone_3 (by decide) ?_
  refine lv_istore (lv' := [(5, .int (nI 0)), (4, .int (-1)), (0, .ref (L 0 0)), (1, .int (nI w)), (2, .int (nI h)), (3, .int (nI g))]) hx hb dX3_dearestStone_4 hl (by decide) rfl (fun ls hl => ?_)
  refine lv_iconst (v := nI 0) hx hb dX3_dearestStone_6 (by decide) ?_
  refine lv_istore (lv' := [(6, .int (nI 0)), (5, .int (nI 0)), (4, .int (-1)), (0, .ref (L 0 0)), (1, .int (nI w)), (2, .int (nI h)), (3, .int (nI g))]) hx hb dX3_dearestStone_7 hl (by decide) rfl (fun ls hl => ?_)
  have L9 : ∀ (n : Nat) (i : Nat) (o : Option Nat) (pp : Nat) (H : Heap) (locs : List Loc) (ls : Array Slot) (hn : yKc y - i < n) (hi : i ≤ yKc y) (hq : (o, pp) = bestN (fun j => kLies (yK y j) w h g) (fun j => kP (yK y j)) i), gI K A s G H locs → lv_has ls 8 [(0, .ref (L 0 0)), (1, .int (nI w)), (2, .int (nI h)), (3, .int (nI g)), (4, .int (oI o)), (5, .int (nI pp)), (6, .int (nI i))] → W p l e (gRoom 4 89 0 0) s m ([.ref (L 0 0), .int (nI w), .int (nI h), .int (nI g)] : List Value).toArray below meth c H locs 0 0 (gEnd K below (fun v G1 => v = some (.int (oI (yStone y w h g).1)) ∧ G1 = G) (gNo) A ([.ref (L 0 0), .int (nI w), .int (nI h), .int (nI g)] : List Value).toArray s 0 0) (F0 m 9 ls []) := by
    clear hI hl
    intro n
    induction n with
    | zero =>
      intro i o pp H locs ls hn hi hq hI hl
      exact absurd hn (Nat.not_lt_zero _)
    | succ n ih =>
      intro i o pp H locs ls hn hi hq hI hl
      have hpp : pp ≤ 999 := by rw [show pp = (bestN (fun j => kLies (yK y j) w h g) (fun j => kP (yK y j)) i).2 by rw [← hq]]; exact bestN_le (fun j hj => (hs.kind (Nat.lt_of_lt_of_le hj hi)).2.2.2.2.2.2.2.2.1)
      refine lv_iload hx hb dX3_dearestStone_9 (lv_at hl 6 rfl) ?_
      refine lv_aload_n hx hb dX3_dearestStone_11 rfl (lv_at hl 0 rfl) ?_
      refine g_get S hE hI (C := RX3) (T := TX3) (N := 5) (ref := "StonecutterYard$Stock") (fun w h => (List.mem_cons_of_mem _ (List.mem_append_left _ (List.mem_append_right _ h)))) hs.1.1 rfl 3 (by decide) (List.mem_cons_of_mem _ (List.mem_append_left _ (List.mem_append_left _ (List.mem_of_getElem? (i := 0) rfl)))) (fun _ h9 => h9) (v := .int (nI (yKc y))) rfl dX3_dearestStone_12 ?_
      refine lv_icmp_ge (tgt := 69) hx hb dX3_dearestStone_15 (by decide) (fun c_15 => ?_) (fun c_15 => ?_)
      · skip
        have c_15 : (yKc y) ≤ i := (nI_leI (a := (yKc y)) (b := i) (by omega) (by omega)).mp c_15
        refine lv_iload hx hb dX3_dearestStone_69 (lv_at hl 4 rfl) ?_
        exact g_iret S hI hr hlocks (Nat.zero_le _) (Nat.zero_le _) dX3_dearestStone_71 ⟨by unfold yStone; rw [show yKc y = i by omega, ← hq], rfl⟩
      · skip
        have c_15 : i < (yKc y) := Nat.not_le.mp (fun z => c_15 ((nI_leI (a := (yKc y)) (b := i) (by omega) (by omega)).mpr z))
        refine lv_aload_n hx hb dX3_dearestStone_18 rfl (lv_at hl 0 rfl) ?_
        refine lv_iload hx hb dX3_dearestStone_19 (lv_at hl 6 rfl) ?_
        refine g_callV (As := [.int (nI i)]) (rest := []) (b := (L 0 0)) (n := 1) S hE hI hA (c_kindIn l K _ r L (ySc y) (yKc y) (yF y) i hs.1 c_15) gX3_dearestStone_X3_kindOrNull rfl (by decide +kernel) ⟨Nat.le_of_ble_eq_true rfl, Nat.le_of_ble_eq_true rfl⟩ (g_hro hE hI hs.1.1 rfl) rfl hl.1 rfl (Nat.le_of_ble_eq_true rfl) dX3_dearestStone_21 ⟨Nat.le_of_ble_eq_true rfl, Nat.le_of_ble_eq_true rfl⟩ (fun E ce q9 Gx H1 locs1 hx9 => hx9.elim) (fun rv Gc_21 H locs hp hI => ?_)
        obtain ⟨rfl, hq9⟩ := hp
        rw [hq9] at hI
        obtain ⟨hkd, hkok⟩ := hs.kind c_15
        have hkok9 := hkok
        obtain ⟨k1, k2, k3, k4, k5, k6, k7, k8, k9⟩ := hkok9
        refine W.eq (g2 := F0 m 24 ls [.ref (L 5 i)]) rfl ?_
        refine lv_astore (lv' := [(7, .ref (L 5 i)), (0, .ref (L 0 0)), (1, .int (nI w)), (2, .int (nI h)), (3, .int (nI g)), (4, .int (oI o)), (5, .int (nI pp)), (6, .int (nI i))]) hx hb dX3_dearestStone_24 hl (by decide) rfl (fun ls hl => ?_)
        refine lv_aload hx hb dX3_dearestStone_26 (lv_at hl 0 rfl) ?_
        refine lv_ifnull hx hb dX3_dearestStone_28 ?_
        refine lv_aload hx hb dX3_dearestStone_31 (lv_at hl 0 rfl) ?_
        refine g_getN S hE hI (C := RX0) (T := TX0) (N := 8) (ref := "StonecutterYard$Kind") (host := "StonecutterYard") (fun w h => (List.mem_cons_of_mem _ (List.mem_append_right _ h))) hkd rfl 4 (by decide) (List.mem_of_getElem? (i := 19) rfl) (fun _ h9 => h9) (v := .int (nI (kP (yK y i)))) rfl dX3_dearestStone_33 ?_
        refine lv_iload hx hb dX3_dearestStone_36 (lv_at hl 6 rfl) ?_
        refine lv_icmp_le (tgt := 63) hx hb dX3_dearestStone_38 (by decide) (fun c_38 => ?_) (fun c_38 => ?_)
        · skip
          have c_38 : (kP (yK y i)) ≤ pp := (nI_leI (a := (kP (yK y i))) (b := pp) (by omega) (by omega)).mp c_38
          have hno : ¬ ((fun j => kLies (yK y j) w h g) i = true ∧ (bestN (fun j => kLies (yK y j) w h g) (fun j => kP (yK y j)) i).2 < (fun j => kP (yK y j)) i) := by rw [← hq]; exact fun z9 => absurd z9.2 (Nat.not_lt.mpr c_38)
          refine lv_iinc (v := nI (i + 1)) (lv' := [(6, .int (nI (i + 1))), (7, .ref (L 5 i)), (0, .ref (L 0 0)), (1, .int (nI w)), (2, .int (nI h)), (3, .int (nI g)), (4, .int (oI o)), (5, .int (nI pp))]) hx hb dX3_dearestStone_63 hl (k := 7) rfl (nI_add _ 1) (by decide) rfl (fun ls hl => ?_)
          refine lv_goto (tgt := 9) hx hb dX3_dearestStone_66 (by decide) ?_
          exact ih (i + 1) o pp H locs ls (by omega) (by omega) (by rw [bestN_no hno]; exact hq) hI (lv_sub hl [2,3,4,5,6,7,0] rfl)
        · skip
          have c_38 : pp < (kP (yK y i)) := Nat.not_le.mp (fun z => c_38 ((nI_leI (a := (kP (yK y i))) (b := pp) (by omega) (by omega)).mpr z))
          refine lv_aload hx hb dX3_dearestStone_41 (lv_at hl 0 rfl) ?_
          refine lv_iload_n hx hb dX3_dearestStone_43 rfl (lv_at hl 2 rfl) ?_
          refine lv_iload_n hx hb dX3_dearestStone_44 rfl (lv_at hl 3 rfl) ?_
          refine lv_iload_n hx hb dX3_dearestStone_45 rfl (lv_at hl 4 rfl) ?_
          refine g_callV (As := [.int (nI w), .int (nI h), .int (nI g)]) (rest := []) (b := (L 5 i)) (n := 3) S hE hI hA (c_X0_goesInto_ l K _ (r, 5, i) (L 5 i) (yK y i) w h g hkd hkok hwh) gX3_dearestStone_X0_goesInto_ rfl (by decide +kernel) ⟨Nat.le_of_ble_eq_true rfl, Nat.le_of_ble_eq_true rfl⟩ (g_hro hE hI hkd rfl) rfl hl.1 rfl (Nat.le_of_ble_eq_true rfl) dX3_dearestStone_46 ⟨Nat.le_of_ble_eq_true rfl, Nat.le_of_ble_eq_true rfl⟩ (fun E ce q9 Gx H1 locs1 hx9 => hx9.elim) (fun rv Gc_46 H locs hp hI => ?_)
          obtain ⟨rfl, hq9⟩ := hp
          rw [hq9] at hI
          refine W.eq (g2 := F0 m 49 ls [.int (bI (kLies (yK y i) w h g))]) rfl ?_
          refine lv_if_eq (tgt := 63) hx hb dX3_dearestStone_49 (by decide) (fun c_49 => ?_) (fun c_49 => ?_)
          · skip
            have c_49 : (kLies (yK y i) w h g) = false := bI_0.mp c_49
            have hno : ¬ ((fun j => kLies (yK y j) w h g) i = true ∧ (bestN (fun j => kLies (yK y j) w h g) (fun j => kP (yK y j)) i).2 < (fun j => kP (yK y j)) i) := fun z9 => absurd (show kLies (yK y i) w h g = true from z9.1) (by rw [c_49]; decide)
            refine lv_iinc (v := nI (i + 1)) (lv' := [(6, .int (nI (i + 1))), (7, .ref (L 5 i)), (0, .ref (L 0 0)), (1, .int (nI w)), (2, .int (nI h)), (3, .int (nI g)), (4, .int (oI o)), (5, .int (nI pp))]) hx hb dX3_dearestStone_63 hl (k := 7) rfl (nI_add _ 1) (by decide) rfl (fun ls hl => ?_)
            refine lv_goto (tgt := 9) hx hb dX3_dearestStone_66 (by decide) ?_
            exact ih (i + 1) o pp H locs ls (by omega) (by omega) (by rw [bestN_no hno]; exact hq) hI (lv_sub hl [2,3,4,5,6,7,0] rfl)
          · skip
            have c_49 : (kLies (yK y i) w h g) = true := bI_1.mp c_49
            refine lv_iload hx hb dX3_dearestStone_52 (lv_at hl 7 rfl) ?_
            refine lv_istore (lv' := [(4, .int (nI i)), (7, .ref (L 5 i)), (0, .ref (L 0 0)), (1, .int (nI w)), (2, .int (nI h)), (3, .int (nI g)), (5, .int (nI pp)), (6, .int (nI i))]) hx hb dX3_dearestStone_54 hl (by decide) rfl (fun ls hl => ?_)
            refine lv_aload hx hb dX3_dearestStone_56 (lv_at hl 1 rfl) ?_
            refine g_getN S hE hI (C := RX0) (T := TX0) (N := 8) (ref := "StonecutterYard$Kind") (host := "StonecutterYard") (fun w h => (List.mem_cons_of_mem _ (List.mem_append_right _ h))) hkd rfl 4 (by decide) (List.mem_of_getElem? (i := 19) rfl) (fun _ h9 => h9) (v := .int (nI (kP (yK y i)))) rfl dX3_dearestStone_58 ?_
            refine lv_istore (lv' := [(5, .int (nI (kP (yK y i)))), (4, .int (nI i)), (7, .ref (L 5 i)), (0, .ref (L 0 0)), (1, .int (nI w)), (2, .int (nI h)), (3, .int (nI g)), (6, .int (nI i))]) hx hb dX3_dearestStone_61 hl (by decide) rfl (fun ls hl => ?_)
            refine lv_iinc (v := nI (i + 1)) (lv' := [(6, .int (nI (i + 1))), (5, .int (nI (kP (yK y i)))), (4, .int (nI i)), (7, .ref (L 5 i)), (0, .ref (L 0 0)), (1, .int (nI w)), (2, .int (nI h)), (3, .int (nI g))]) hx hb dX3_dearestStone_63 hl (k := 7) rfl (nI_add _ 1) (by decide) rfl (fun ls hl => ?_)
            refine lv_goto (tgt := 9) hx hb dX3_dearestStone_66 (by decide) ?_
            exact ih (i + 1) (some i) _ H locs ls (by omega) (by omega) (by rw [bestN_yes (ok := (fun j => kLies (yK y j) w h g)) (pr := (fun j => kP (yK y j))) c_49 (by rw [← hq]; exact c_38)]) hI (lv_sub hl [4,5,6,7,2,1,0] rfl)
  exact L9 _ 0 none 0 H locs ls (Nat.lt_succ_self _) (Nat.zero_le _) rfl hI (lv_sub hl [3,4,5,6,2,1,0] rfl)
