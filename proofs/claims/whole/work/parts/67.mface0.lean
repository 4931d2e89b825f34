/-! the model's face: what it refuses -/
abbrev cM (th yd : Nat) : va_E := .inr (9, [.int (nI th), .ref yd])
def isI (x a b : Int32) : Bool := decide (a.toInt ≤ x.toInt ∧ x.toInt ≤ b.toInt)
def thN (b : Bool) (th w : Nat) : Nat := if b = true ∧ th = 0 then w else th
set_option maxHeartbeats 4000000 in
set_option maxRecDepth 100000 in
/-- isIn(v, least, greatest) -/
theorem c_X8_isIn (l : Launch) (K : gK) (G : gW) (x a b : Int32) : gM l yX8_isIn wsX8_isIn 2 40 0 0 K [.int x, .int a, .int b] G (fun v G1 => v = some (.int (bI (isI x a b))) ∧ G1 = G) (gNo) := by
  refine gM.of (cc := cX8_isIn) (maxL := 3) (ret := (some .boolean)) (by decide) rfl (Nat.le_of_ble_eq_true rfl) ?_
  intro p e s m below meth c A S hr hlocks htab hname hE hA hI ls hl
  have hx := S.1
  have hb := S.2.1
  have hml := S.2.2.1
  have hl : lv_has ls 3 [(0, .int x), (1, .int a), (2, .int b)] := hl
  obtain ⟨H, hHe⟩ : ∃ z, z = s.heap := ⟨_, rfl⟩
  obtain ⟨locs, hLe⟩ : ∃ z : List Loc, z = [] := ⟨_, rfl⟩
  rw [← hHe, ← hLe]
  have hI : gI K A s G H locs := by rw [hHe, hLe]; exact hI
  clear hHe hLe
  refine lv_iload_n hx hb dX8_isIn_0 rfl (lv_at hl 0 rfl) ?_
  refine lv_iload_n hx hb dX8_isIn_1 rfl (lv_at hl 1 rfl) ?_
  refine lv_icmp_lt (tgt := 14) hx hb dX8_isIn_2 (by decide) (fun c_2 => ?_) (fun c_2 => ?_)
  · skip
    refine lv_iconst (v := nI 0) hx hb dX8_isIn_14 (by decide) ?_
    exact g_zret S hI hr hlocks (Nat.zero_le _) (Nat.zero_le _) (Or.inl rfl) dX8_isIn_15 ⟨by rw [show isI x a b = false from decide_eq_false (fun z9 => absurd (Int32.lt_iff_toInt_lt.mp c_2) (Int.not_lt.mpr z9.1))]; rfl, rfl⟩
  · skip
    refine lv_iload_n hx hb dX8_isIn_5 rfl (lv_at hl 0 rfl) ?_
    refine lv_iload_n hx hb dX8_isIn_6 rfl (lv_at hl 2 rfl) ?_
    refine lv_icmp_gt (tgt := 14) hx hb dX8_isIn_7 (by decide) (fun c_7 => ?_) (fun c_7 => ?_)
    · skip
      refine lv_iconst (v := nI 0) hx hb dX8_isIn_14 (by decide) ?_
      exact g_zret S hI hr hlocks (Nat.zero_le _) (Nat.zero_le _) (Or.inl rfl) dX8_isIn_15 ⟨by rw [show isI x a b = false from decide_eq_false (fun z9 => absurd (Int32.lt_iff_toInt_lt.mp c_7) (Int.not_lt.mpr z9.2))]; rfl, rfl⟩
    · skip
      refine lv_iconst (v := nI 1) hx hb dX8_isIn_10 (by decide) ?_
      refine lv_goto (tgt := 15) hx hb dX8_isIn_11 (by decide) ?_
      exact g_zret S hI hr hlocks (Nat.zero_le _) (Nat.zero_le _) (Or.inr rfl) dX8_isIn_15 ⟨by rw [show isI x a b = true from decide_eq_true ⟨Int.not_lt.mp (fun z9 => c_2 (Int32.lt_iff_toInt_lt.mpr z9)), Int.not_lt.mp (fun z9 => c_7 (Int32.lt_iff_toInt_lt.mpr z9))⟩]; rfl, rfl⟩
set_option maxHeartbeats 4000000 in
set_option maxRecDepth 100000 in
/-- thrown() -/
theorem c_X8_thrown (l : Launch) (K : gK) (G : gW) (h0 th yd : Nat) (hg : G (9, 0, 0) = some (h0, cM th yd)) (hth : th ≤ 3) : gM l yX8_thrown wsX8_thrown 2 40 0 0 K [.ref h0] G (fun v G1 => v = some (.int (nI th)) ∧ G1 = G) (gNo) := by
  refine gM.of (cc := cX8_thrown) (maxL := 1) (ret := (some .int)) (by decide) rfl (Nat.le_of_ble_eq_true rfl) ?_
  intro p e s m below meth c A S hr hlocks htab hname hE hA hI ls hl
  have hx := S.1
  have hb := S.2.1
  have hml := S.2.2.1
  have hl : lv_has ls 1 [(0, .ref h0)] := hl
  obtain ⟨H, hHe⟩ : ∃ z, z = s.heap := ⟨_, rfl⟩
  obtain ⟨locs, hLe⟩ : ∃ z : List Loc, z = [] := ⟨_, rfl⟩
  rw [← hHe, ← hLe]
  have hI : gI K A s G H locs := by rw [hHe, hLe]; exact hI
  clear hHe hLe
  refine lv_aload_n hx hb dX8_thrown_0 rfl (lv_at hl 0 rfl) ?_
  refine g_get S hE hI (C := RX8) (T := TX8) (N := 2) (ref := "StonecutterYardModel") (fun w h => (List.mem_cons_of_mem _ (List.mem_append_right _ h))) hg rfl 0 (by decide) (List.mem_cons_of_mem _ (List.mem_append_left _ (List.mem_of_getElem? (i := 0) rfl))) (fun _ h9 => h9) (v := .int (nI th)) rfl dX8_thrown_1 ?_
  exact g_iret S hI hr hlocks (Nat.zero_le _) (Nat.zero_le _) dX8_thrown_4 ⟨rfl, rfl⟩
set_option maxHeartbeats 4000000 in
set_option maxRecDepth 100000 in
/-- refuse(is, which) -/
theorem c_X8_refuse (l : Launch) (K : gK) (G : gW) (h0 th yd : Nat) (b : Bool) (w : Nat) (hg : G (9, 0, 0) = some (h0, cM th yd)) (hth : th ≤ 3) (hw : 1 ≤ w ∧ w ≤ 3) : gM l yX8_refuse wsX8_refuse 2 40 0 0 K [.ref h0, .int (bI b), .int (nI w)] G (fun v G1 => v = some (.int (bI (decide (0 < thN b th w)))) ∧ G1 = gset G (9, 0, 0) h0 (cM (thN b th w) yd)) (gNo) := by
  refine gM.of (cc := cX8_refuse) (maxL := 3) (ret := (some .boolean)) (by decide) rfl (Nat.le_of_ble_eq_true rfl) ?_
  intro p e s m below meth c A S hr hlocks htab hname hE hA hI ls hl
  have hx := S.1
  have hb := S.2.1
  have hml := S.2.2.1
  have hl : lv_has ls 3 [(0, .ref h0), (1, .int (bI b)), (2, .int (nI w))] := hl
  obtain ⟨H, hHe⟩ : ∃ z, z = s.heap := ⟨_, rfl⟩
  obtain ⟨locs, hLe⟩ : ∃ z : List Loc, z = [] := ⟨_, rfl⟩
  rw [← hHe, ← hLe]
  have hI : gI K A s G H locs := by rw [hHe, hLe]; exact hI
  clear hHe hLe
  refine lv_iload_n hx hb dX8_refuse_0 rfl (lv_at hl 1 rfl) ?_
  refine lv_if_eq (tgt := 16) hx hb dX8_refuse_1 (by decide) (fun c_1 => ?_) (fun c_1 => ?_)
  · skip
    have c_1 : b = false := bI_0.mp c_1
    have heq : thN b th w = th := if_neg (fun z9 => by rw [c_1] at z9; exact absurd z9.1 (by decide))
    refine lv_aload_n hx hb dX8_refuse_16 rfl (lv_at hl 0 rfl) ?_
    refine g_get S hE hI (C := RX8) (T := TX8) (N := 2) (ref := "StonecutterYardModel") (fun w h => (List.mem_cons_of_mem _ (List.mem_append_right _ h))) hg rfl 0 (by decide) (List.mem_cons_of_mem _ (List.mem_append_left _ (List.mem_of_getElem? (i := 0) rfl))) (fun _ h9 => h9) (v := .int (nI th)) rfl dX8_refuse_17 ?_
    refine lv_if_le (tgt := 27) hx hb dX8_refuse_20 (by decide) (fun c_20 => ?_) (fun c_20 => ?_)
    · skip
      have c_20 : th ≤ 0 := (nI_leI (a := th) (b := 0) (by omega) (by omega)).mp c_20
      refine lv_iconst (v := nI 0) hx hb dX8_refuse_27 (by decide) ?_
      exact g_zret S hI hr hlocks (Nat.zero_le _) (Nat.zero_le _) (Or.inl rfl) dX8_refuse_28 ⟨by rw [decide_eq_false (show ¬ 0 < thN b th w by rw [heq]; omega)]; rfl, by rw [heq]; exact (gset_self hg).symm⟩
    · skip
      have c_20 : 0 < th := Nat.not_le.mp (fun z => c_20 ((nI_leI (a := th) (b := 0) (by omega) (by omega)).mpr z))
      refine lv_iconst (v := nI 1) hx hb dX8_refuse_23 (by decide) ?_
      refine lv_goto (tgt := 28) hx hb dX8_refuse_24 (by decide) ?_
      exact g_zret S hI hr hlocks (Nat.zero_le _) (Nat.zero_le _) (Or.inr rfl) dX8_refuse_28 ⟨by rw [decide_eq_true (show 0 < thN b th w by rw [heq]; omega)]; rfl, by rw [heq]; exact (gset_self hg).symm⟩
  · skip
    have c_1 : b = true := bI_1.mp c_1
    refine lv_aload_n hx hb dX8_refuse_4 rfl (lv_at hl 0 rfl) ?_
    refine g_get S hE hI (C := RX8) (T := TX8) (N := 2) (ref := "StonecutterYardModel") (fun w h => (List.mem_cons_of_mem _ (List.mem_append_right _ h))) hg rfl 0 (by decide) (List.mem_cons_of_mem _ (List.mem_append_left _ (List.mem_of_getElem? (i := 0) rfl))) (fun _ h9 => h9) (v := .int (nI th)) rfl dX8_refuse_5 ?_
    refine lv_if_ne (tgt := 16) hx hb dX8_refuse_8 (by decide) (fun c_8 => ?_) (fun c_8 => ?_)
    · skip
      have c_8 : th ≠ 0 := fun z => c_8 ((nI_eq (a := th) (b := 0) (by omega) (by omega)).mpr z)
      have heq : thN b th w = th := if_neg (fun z9 => c_8 z9.2)
      refine lv_aload_n hx hb dX8_refuse_16 rfl (lv_at hl 0 rfl) ?_
      refine g_get S hE hI (C := RX8) (T := TX8) (N := 2) (ref := "StonecutterYardModel") (fun w h => (List.mem_cons_of_mem _ (List.mem_append_right _ h))) hg rfl 0 (by decide) (List.mem_cons_of_mem _ (List.mem_append_left _ (List.mem_of_getElem? (i := 0) rfl))) (fun _ h9 => h9) (v := .int (nI th)) rfl dX8_refuse_17 ?_
      refine lv_if_le (tgt := 27) hx hb dX8_refuse_20 (by decide) (fun c_20 => ?_) (fun c_20 => ?_)
      · skip
        have c_20 : th ≤ 0 := (nI_leI (a := th) (b := 0) (by omega) (by omega)).mp c_20
        refine lv_iconst (v := nI 0) hx hb dX8_refuse_27 (by decide) ?_
        exact g_zret S hI hr hlocks (Nat.zero_le _) (Nat.zero_le _) (Or.inl rfl) dX8_refuse_28 ⟨by rw [decide_eq_false (show ¬ 0 < thN b th w by rw [heq]; omega)]; rfl, by rw [heq]; exact (gset_self hg).symm⟩
      · skip
        have c_20 : 0 < th := Nat.not_le.mp (fun z => c_20 ((nI_leI (a := th) (b := 0) (by omega) (by omega)).mpr z))
        refine lv_iconst (v := nI 1) hx hb dX8_refuse_23 (by decide) ?_
        refine lv_goto (tgt := 28) hx hb dX8_refuse_24 (by decide) ?_
        exact g_zret S hI hr hlocks (Nat.zero_le _) (Nat.zero_le _) (Or.inr rfl) dX8_refuse_28 ⟨by rw [decide_eq_true (show 0 < thN b th w by rw [heq]; omega)]; rfl, by rw [heq]; exact (gset_self hg).symm⟩
    · skip
      have c_8 : th = 0 := (nI_eq (a := th) (b := 0) (by omega) (by omega)).mp c_8
      have heq : thN b th w = w := if_pos ⟨c_1, c_8⟩
      refine lv_aload_n hx hb dX8_refuse_11 rfl (lv_at hl 0 rfl) ?_
      refine lv_iload_n hx hb dX8_refuse_12 rfl (lv_at hl 2 rfl) ?_
      refine g_put S hE hI (C := RX8) (T := TX8) (N := 2) (ref := "StonecutterYardModel") (fun w h => (List.mem_cons_of_mem _ (List.mem_append_right _ h))) tyX8 tyX8_ok nmX8 hg rfl 0 (by decide) (List.mem_cons_of_mem _ (List.mem_append_left _ (List.mem_of_getElem? (i := 0) rfl))) (fun _ h9 => h9) rfl rfl rfl (Nat.le_of_ble_eq_true rfl) dX8_refuse_13 (fun H locs hI => ?_)
      have hI : gI K A s (gset G (9, 0, 0) h0 (.inr (9, [.int (nI w), .ref yd]))) H locs := hI
      obtain ⟨G_1, hG_1⟩ : ∃ z, z = gset G (9, 0, 0) h0 (.inr (9, [.int (nI w), .ref yd])) := ⟨_, rfl⟩
      rw [← hG_1] at hI
      have o_G_1 : G_1 (9, 0, 0) = some (h0, .inr (9, [.int (nI w), .ref yd])) := by rw [hG_1]; exact gset_eq _ _ _ _
      refine lv_aload_n hx hb dX8_refuse_16 rfl (lv_at hl 0 rfl) ?_
      refine g_get S hE hI (C := RX8) (T := TX8) (N := 2) (ref := "StonecutterYardModel") (fun w h => (List.mem_cons_of_mem _ (List.mem_append_right _ h))) o_G_1 rfl 0 (by decide) (List.mem_cons_of_mem _ (List.mem_append_left _ (List.mem_of_getElem? (i := 0) rfl))) (fun _ h9 => h9) (v := .int (nI w)) rfl dX8_refuse_17 ?_
      refine lv_if_le (tgt := 27) hx hb dX8_refuse_20 (by decide) (fun c_20 => ?_) (fun c_20 => ?_)
      · skip
        have c_20 : w ≤ 0 := (nI_leI (a := w) (b := 0) (by omega) (by omega)).mp c_20
        refine lv_iconst (v := nI 0) hx hb dX8_refuse_27 (by decide) ?_
        exact g_zret S hI hr hlocks (Nat.zero_le _) (Nat.zero_le _) (Or.inl rfl) dX8_refuse_28 ⟨by rw [decide_eq_false (show ¬ 0 < thN b th w by rw [heq]; omega)]; rfl, by rw [heq]; exact hG_1⟩
      · skip
        have c_20 : 0 < w := Nat.not_le.mp (fun z => c_20 ((nI_leI (a := w) (b := 0) (by omega) (by omega)).mpr z))
        refine lv_iconst (v := nI 1) hx hb dX8_refuse_23 (by decide) ?_
        refine lv_goto (tgt := 28) hx hb dX8_refuse_24 (by decide) ?_
        exact g_zret S hI hr hlocks (Nat.zero_le _) (Nat.zero_le _) (Or.inr rfl) dX8_refuse_28 ⟨by rw [decide_eq_true (show 0 < thN b th w by rw [heq]; omega)]; rfl, by rw [heq]; exact hG_1⟩
set_option maxHeartbeats 4000000 in
set_option maxRecDepth 100000 in
/-- start(is, which) -/
theorem c_X8_start (l : Launch) (K : gK) (G : gW) (h0 th yd : Nat) (b : Bool) (w : Nat) (hg : G (9, 0, 0) = some (h0, cM th yd)) (hth : th ≤ 3) (hw : 1 ≤ w ∧ w ≤ 3) : gM l yX8_start wsX8_start 3 62 0 0 K [.ref h0, .int (bI b), .int (nI w)] G (fun v G1 => v = some (.int (bI b)) ∧ G1 = gset G (9, 0, 0) h0 (cM (if b then w else 0) yd)) (gNo) := by
  refine gM.of (cc := cX8_start) (maxL := 3) (ret := (some .boolean)) (by decide) rfl (Nat.le_of_ble_eq_true rfl) ?_
  intro p e s m below meth c A S hr hlocks htab hname hE hA hI ls hl
  have hx := S.1
  have hb := S.2.1
  have hml := S.2.2.1
  have hl : lv_has ls 3 [(0, .ref h0), (1, .int (bI b)), (2, .int (nI w))] := hl
  obtain ⟨H, hHe⟩ : ∃ z, z = s.heap := ⟨_, rfl⟩
  obtain ⟨locs, hLe⟩ : ∃ z : List Loc, z = [] := ⟨_, rfl⟩
  rw [← hHe, ← hLe]
  have hI : gI K A s G H locs := by rw [hHe, hLe]; exact hI
  clear hHe hLe
  refine lv_aload_n hx hb dX8_start_0 rfl (lv_at hl 0 rfl) ?_
  refine lv_iconst (v := nI 0) hx hb dX8_start_1 (by decide) ?_
  refine g_put S hE hI (C := RX8) (T := TX8) (N := 2) (ref := "StonecutterYardModel") (fun w h => (List.mem_cons_of_mem _ (List.mem_append_right _ h))) tyX8 tyX8_ok nmX8 hg rfl 0 (by decide) (List.mem_cons_of_mem _ (List.mem_append_left _ (List.mem_of_getElem? (i := 0) rfl))) (fun _ h9 => h9) rfl rfl rfl (Nat.le_of_ble_eq_true rfl) dX8_start_2 (fun H locs hI => ?_)
  have hI : gI K A s (gset G (9, 0, 0) h0 (.inr (9, [.int (nI 0), .ref yd]))) H locs := hI
  obtain ⟨G_1, hG_1⟩ : ∃ z, z = gset G (9, 0, 0) h0 (.inr (9, [.int (nI 0), .ref yd])) := ⟨_, rfl⟩
  rw [← hG_1] at hI
  have o_G_1 : G_1 (9, 0, 0) = some (h0, .inr (9, [.int (nI 0), .ref yd])) := by rw [hG_1]; exact gset_eq _ _ _ _
  refine lv_aload_n hx hb dX8_start_5 rfl (lv_at hl 0 rfl) ?_
  refine lv_iload_n hx hb dX8_start_6 rfl (lv_at hl 1 rfl) ?_
  refine lv_iload_n hx hb dX8_start_7 rfl (lv_at hl 2 rfl) ?_
  refine g_callV (As := [.int (bI b), .int (nI w)]) (rest := []) (b := h0) (n := 2) S hE hI hA (c_X8_refuse l K _ h0 0 yd b w o_G_1 (Nat.zero_le _) hw) gX8_start_X8_refuse rfl (by decide +kernel) ⟨Nat.le_of_ble_eq_true rfl, Nat.le_of_ble_eq_true rfl⟩ (g_hro hE hI o_G_1 rfl) rfl hl.1 rfl (Nat.le_of_ble_eq_true rfl) dX8_start_8 ⟨Nat.le_of_ble_eq_true rfl, Nat.le_of_ble_eq_true rfl⟩ (fun E ce q9 Gx H1 locs1 hx9 => hx9.elim) (fun rv Gc_8 H locs hp hI => ?_)
  obtain ⟨rfl, hGc⟩ := hp
  refine W.eq (g2 := F0 m 11 ls [.int (bI (decide (0 < thN b 0 w)))]) rfl ?_
  have he : thN b 0 w = if b then w else 0 := by unfold thN; cases b <;> rfl
  have hb9 : decide (0 < thN b 0 w) = b := by rw [he]; cases b with | false => rfl | true => exact decide_eq_true (by show 0 < w; omega)
  exact g_zret S hI hr hlocks (Nat.zero_le _) (Nat.zero_le _) (bI_01 _) dX8_start_11 ⟨by rw [hb9], by rw [hGc, hG_1, gset_gset, he]⟩
