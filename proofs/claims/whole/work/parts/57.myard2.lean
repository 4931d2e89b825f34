set_option maxHeartbeats 4000000 in
set_option maxRecDepth 100000 in
/-- Yard.single(wide, high, grain) -/
theorem c_X7_single (l : Launch) (K : gK) (G : gW) (r : Nat) (L : Nat → Nat → Nat) (y : YV) (N : Nat) (w h g : Nat) (hm : MY K r L G y N) (hwh : w ≤ 24 ∧ h ≤ 24 ∧ g ≤ 1) : gM l yX7_single wsX7_single 5 109 0 0 K [.ref (L 30 0), .int (nI w), .int (nI h), .int (nI g)] G (fun v G1 => v = some (.int (nI (yStone y w h g).2)) ∧ G1 = G) (gNo) := by
  refine gM.of (cc := cX7_single) (maxL := 6) (ret := (some .int)) (by decide) rfl (Nat.le_of_ble_eq_true rfl) ?_
  intro p e s m below meth c A S hr hlocks htab hname hE hA hI ls hl
  have hx := S.1
  have hb := S.2.1
  have hml := S.2.2.1
  have hl : lv_has ls 6 [(0, .ref (L 30 0)), (1, .int (nI w)), (2, .int (nI h)), (3, .int (nI g))] := hl
  have h44 := hm.1.2.2.1
  have h6 := hm.1.2.2.2
  have hf2 := hm.1.2.1
  obtain ⟨m1, ar1, hl1⟩ := hm.2.1.obj
  obtain ⟨m2, ar2, hl2⟩ := hm.2.2.1.obj
  obtain ⟨H, hHe⟩ : ∃ z, z = s.heap := ⟨_, rfl⟩
  obtain ⟨locs, hLe⟩ : ∃ z : List Loc, z = [] := ⟨_, rfl⟩
  rw [← hHe, ← hLe]
  have hI : gI K A s G H locs := by rw [hHe, hLe]; exact hI
  clear hHe hLe
  refine lv_iconst (v := nI 0) hx hb dX7_single_0 (by decide) ?_
  refine lv_istore (lv' := [(4, .int (nI 0)), (0, .ref (L 30 0)), (1, .int (nI w)), (2, .int (nI h)), (3, .int (nI g))]) hx hb dX7_single_1 hl (by decide) rfl (fun ls hl => ?_)
  refine lv_iconst (v := nI 0) hx hb dX7_single_3 (by decide) ?_
  refine lv_istore (lv' := [(5, .int (nI 0)), (4, .int (nI 0)), (0, .ref (L 30 0)), (1, .int (nI w)), (2, .int (nI h)), (3, .int (nI g))]) hx hb dX7_single_4 hl (by decide) rfl (fun ls hl => ?_)
  have L6 : ∀ (n : Nat) (i b9 : Nat) (H : Heap) (locs : List Loc) (ls : Array Slot) (hn : yKc y - i < n) (hi : i ≤ yKc y) (hb9 : b9 = (bestN (fun j => kLies (yK y j) w h g) (fun j => kP (yK y j)) i).2), gI K A s G H locs → lv_has ls 6 [(0, .ref (L 30 0)), (1, .int (nI w)), (2, .int (nI h)), (3, .int (nI g)), (4, .int (nI b9)), (5, .int (nI i))] → W p l e (gRoom 5 109 0 0) s m ([.ref (L 30 0), .int (nI w), .int (nI h), .int (nI g)] : List Value).toArray below meth c H locs 0 0 (gEnd K below (fun v G1 => v = some (.int (nI (yStone y w h g).2)) ∧ G1 = G) (gNo) A ([.ref (L 30 0), .int (nI w), .int (nI h), .int (nI g)] : List Value).toArray s 0 0) (F0 m 6 ls []) := by
    clear hI hl
    intro n
    induction n with
    | zero =>
      intro i b9 H locs ls hn hi hb9 hI hl
      exact absurd hn (Nat.not_lt_zero _)
    | succ n ih =>
      intro i b9 H locs ls hn hi hb9 hI hl
      have hb999 : b9 ≤ 999 := by rw [hb9]; exact bestN_le (fun j hj => (hm.2.2.2.2 j (Nat.lt_of_lt_of_le hj hi)).2.2.2.2.2.2.2.2.1)
      refine lv_iload hx hb dX7_single_6 (lv_at hl 5 rfl) ?_
      refine lv_aload_n hx hb dX7_single_8 rfl (lv_at hl 0 rfl) ?_
      refine g_get S hE hI (C := RX7) (T := TX7) (N := 3) (ref := "StonecutterYardModel$Yard") (fun w h => (List.mem_cons_of_mem _ (List.mem_append_left _ (List.mem_append_left _ (List.mem_append_right _ h))))) hm.1.1 rfl 1 (by decide) (List.mem_cons_of_mem _ (List.mem_append_left _ (List.mem_append_left _ (List.mem_append_left _ (List.mem_append_left _ (List.mem_of_getElem? (i := 0) rfl)))))) (fun _ h9 => h9) (v := .ref (L 33 0)) rfl dX7_single_9 ?_
      refine g_callV (As := []) (rest := [.int (nI i)]) (b := (L 33 0)) (n := 0) S hE hI hA (l_size l K _ (r, 33, 0) (tbL r 34) (L 33 0) (yKc y) (L 38) hm.2.2.1) gX7_single_Jx4a65c_size_8abf5 rfl (by decide +kernel) ⟨Nat.le_of_ble_eq_true rfl, Nat.le_of_ble_eq_true rfl⟩ (g_hro hE hI hl2 rfl) rfl hl.1 rfl (Nat.le_of_ble_eq_true rfl) dX7_single_12 ⟨Nat.le_of_ble_eq_true rfl, Nat.le_of_ble_eq_true rfl⟩ (fun E ce q9 Gx H1 locs1 hx9 => hx9.elim) (fun rv Gc_12 H locs hp hI => ?_)
      obtain ⟨rfl, hq9⟩ := hp
      rw [hq9] at hI
      refine W.eq (g2 := F0 m 15 ls [.int (nI (yKc y)), .int (nI i)]) rfl ?_
      refine lv_icmp_ge (tgt := 67) hx hb dX7_single_15 (by decide) (fun c_15 => ?_) (fun c_15 => ?_)
      · skip
        have c_15 : (yKc y) ≤ i := (nI_leI (a := (yKc y)) (b := i) (by omega) (by omega)).mp c_15
        refine lv_iload hx hb dX7_single_67 (lv_at hl 4 rfl) ?_
        exact g_iret S hI hr hlocks (Nat.zero_le _) (Nat.zero_le _) dX7_single_69 ⟨by rw [hb9, show i = yKc y by omega]; rfl, rfl⟩
      · skip
        have c_15 : i < (yKc y) := Nat.not_le.mp (fun z => c_15 ((nI_leI (a := (yKc y)) (b := i) (by omega) (by omega)).mpr z))
        refine lv_aload_n hx hb dX7_single_18 rfl (lv_at hl 0 rfl) ?_
        refine g_get S hE hI (C := RX7) (T := TX7) (N := 3) (ref := "StonecutterYardModel$Yard") (fun w h => (List.mem_cons_of_mem _ (List.mem_append_left _ (List.mem_append_left _ (List.mem_append_right _ h))))) hm.1.1 rfl 1 (by decide) (List.mem_cons_of_mem _ (List.mem_append_left _ (List.mem_append_left _ (List.mem_append_left _ (List.mem_append_left _ (List.mem_of_getElem? (i := 0) rfl)))))) (fun _ h9 => h9) (v := .ref (L 33 0)) rfl dX7_single_19 ?_
        refine lv_iload hx hb dX7_single_22 (lv_at hl 5 rfl) ?_
        refine g_callV (As := [.int (nI i)]) (rest := []) (b := (L 33 0)) (n := 1) S hE hI hA (l_get l K _ (r, 33, 0) (tbL r 34) (L 33 0) (yKc y) (L 38) i hm.2.2.1 c_15) gX7_single_Jx4a65c_get_915e3 rfl (by decide +kernel) ⟨Nat.le_of_ble_eq_true rfl, Nat.le_of_ble_eq_true rfl⟩ (g_hro hE hI hl2 rfl) rfl hl.1 rfl (Nat.le_of_ble_eq_true rfl) dX7_single_24 ⟨Nat.le_of_ble_eq_true rfl, Nat.le_of_ble_eq_true rfl⟩ (fun E ce q9 Gx H1 locs1 hx9 => hx9.elim) (fun rv Gc_24 H locs hp hI => ?_)
        obtain ⟨rfl, hq9⟩ := hp
        rw [hq9] at hI
        obtain ⟨hkd, hkok⟩ := hm.2.2.2.2 i c_15
        have hkok9 := hkok
        obtain ⟨k1, k2, k3, k4, k5, k6, k7, k8, k9⟩ := hkok9
        refine W.eq (g2 := F0 m 27 ls [.ref (L 38 i)]) rfl ?_
        refine g_cast S (List.mem_cons_of_mem _ (List.mem_append_left _ (List.mem_append_left _ (List.mem_append_left _ (List.mem_append_left _ (List.mem_of_getElem? (i := 1) rfl)))))) (g_hro hE hI hkd rfl) dX7_single_27 ?_
        refine lv_iload_n hx hb dX7_single_30 rfl (lv_at hl 1 rfl) ?_
        refine lv_iload_n hx hb dX7_single_31 rfl (lv_at hl 2 rfl) ?_
        refine lv_iload_n hx hb dX7_single_32 rfl (lv_at hl 3 rfl) ?_
        refine g_callV (As := [.int (nI w), .int (nI h), .int (nI g)]) (rest := []) (b := (L 38 i)) (n := 3) S hE hI hA (c_X5_lies_ l K _ (r, 38, i) (L 38 i) (yK y i) w h g hkd hkok hwh) gX7_single_X5_lies_ rfl (by decide +kernel) ⟨Nat.le_of_ble_eq_true rfl, Nat.le_of_ble_eq_true rfl⟩ (g_hro hE hI hkd rfl) rfl hl.1 rfl (Nat.le_of_ble_eq_true rfl) dX7_single_33 ⟨Nat.le_of_ble_eq_true rfl, Nat.le_of_ble_eq_true rfl⟩ (fun E ce q9 Gx H1 locs1 hx9 => hx9.elim) (fun rv Gc_33 H locs hp hI => ?_)
        obtain ⟨rfl, hq9⟩ := hp
        rw [hq9] at hI
        refine W.eq (g2 := F0 m 36 ls [.int (bI (kLies (yK y i) w h g))]) rfl ?_
        refine lv_if_eq (tgt := 61) hx hb dX7_single_36 (by decide) (fun c_36 => ?_) (fun c_36 => ?_)
        · skip
          have c_36 : (kLies (yK y i) w h g) = false := bI_0.mp c_36
          refine lv_iinc (v := nI (i + 1)) (lv' := [(5, .int (nI (i + 1))), (0, .ref (L 30 0)), (1, .int (nI w)), (2, .int (nI h)), (3, .int (nI g)), (4, .int (nI b9))]) hx hb dX7_single_61 hl (k := 5) rfl (nI_add _ 1) (by decide) rfl (fun ls hl => ?_)
          refine lv_goto (tgt := 6) hx hb dX7_single_64 (by decide) ?_
          exact ih (i + 1) b9 H locs ls (by omega) (by omega) (by rw [hb9, bestN_skip (ok := (fun j => kLies (yK y j) w h g)) (pr := (fun j => kP (yK y j))) c_36]) hI (lv_sub hl [1,2,3,4,5,0] rfl)
        · skip
          have c_36 : (kLies (yK y i) w h g) = true := bI_1.mp c_36
          refine lv_iload hx hb dX7_single_39 (lv_at hl 4 rfl) ?_
          refine lv_aload_n hx hb dX7_single_41 rfl (lv_at hl 0 rfl) ?_
          refine g_get S hE hI (C := RX7) (T := TX7) (N := 3) (ref := "StonecutterYardModel$Yard") (fun w h => (List.mem_cons_of_mem _ (List.mem_append_left _ (List.mem_append_left _ (List.mem_append_right _ h))))) hm.1.1 rfl 1 (by decide) (List.mem_cons_of_mem _ (List.mem_append_left _ (List.mem_append_left _ (List.mem_append_left _ (List.mem_append_left _ (List.mem_of_getElem? (i := 0) rfl)))))) (fun _ h9 => h9) (v := .ref (L 33 0)) rfl dX7_single_42 ?_
          refine lv_iload hx hb dX7_single_45 (lv_at hl 5 rfl) ?_
          refine g_callV (As := [.int (nI i)]) (rest := [.int (nI b9)]) (b := (L 33 0)) (n := 1) S hE hI hA (l_get l K _ (r, 33, 0) (tbL r 34) (L 33 0) (yKc y) (L 38) i hm.2.2.1 c_15) gX7_single_Jx4a65c_get_915e3 rfl (by decide +kernel) ⟨Nat.le_of_ble_eq_true rfl, Nat.le_of_ble_eq_true rfl⟩ (g_hro hE hI hl2 rfl) rfl hl.1 rfl (Nat.le_of_ble_eq_true rfl) dX7_single_47 ⟨Nat.le_of_ble_eq_true rfl, Nat.le_of_ble_eq_true rfl⟩ (fun E ce q9 Gx H1 locs1 hx9 => hx9.elim) (fun rv Gc_47 H locs hp hI => ?_)
          obtain ⟨rfl, hq9⟩ := hp
          rw [hq9] at hI
          obtain ⟨hkd, hkok⟩ := hm.2.2.2.2 i c_15
          have hkok9 := hkok
          obtain ⟨k1, k2, k3, k4, k5, k6, k7, k8, k9⟩ := hkok9
          refine W.eq (g2 := F0 m 50 ls [.ref (L 38 i), .int (nI b9)]) rfl ?_
          refine g_cast S (List.mem_cons_of_mem _ (List.mem_append_left _ (List.mem_append_left _ (List.mem_append_left _ (List.mem_append_left _ (List.mem_of_getElem? (i := 1) rfl)))))) (g_hro hE hI hkd rfl) dX7_single_50 ?_
          refine g_get S hE hI (C := RX5) (T := TX5) (N := 8) (ref := "StonecutterYardModel$Kind") (fun w h => (List.mem_cons_of_mem _ (List.mem_append_left _ (List.mem_append_right _ h)))) hkd rfl 4 (by decide) (List.mem_cons_of_mem _ (List.mem_append_left _ (List.mem_append_left _ (List.mem_append_left _ (List.mem_append_left _ (List.mem_of_getElem? (i := 2) rfl)))))) (fun _ h9 => h9) (v := .int (nI (kP (yK y i)))) rfl dX7_single_53 ?_
          refine g_mmax S hl.1 (S.2.2.2.2 _ (List.mem_cons_of_mem _ (List.mem_append_left _ (List.mem_append_left _ (List.mem_append_left _ (List.mem_append_left _ (List.mem_of_getElem? (i := 3) rfl))))))) (S.2.2.2.2 _ (List.mem_cons_of_mem _ (List.mem_append_left _ (List.mem_append_left _ (List.mem_append_left _ (List.mem_append_left _ (List.mem_of_getElem? (i := 4) rfl))))))) (S.2.2.2.2 _ (List.mem_cons_of_mem _ (List.mem_append_left _ (List.mem_append_left _ (List.mem_append_left _ (List.mem_append_left _ (List.mem_of_getElem? (i := 5) rfl))))))) (S.2.2.2.2 _ (List.mem_cons_of_mem _ (List.mem_append_left _ (List.mem_append_left _ (List.mem_append_left _ (List.mem_append_left _ (List.mem_of_getElem? (i := 6) rfl))))))) (Nat.le_of_ble_eq_true rfl) (Nat.le_of_ble_eq_true rfl) (Nat.zero_le _) (Nat.zero_le _) dX7_single_56 (v := nI (max b9 (kP (yK y i)))) (max_nI (by omega) (by omega)) ?_
          refine lv_istore (lv' := [(4, .int (nI (max b9 (kP (yK y i))))), (0, .ref (L 30 0)), (1, .int (nI w)), (2, .int (nI h)), (3, .int (nI g)), (5, .int (nI i))]) hx hb dX7_single_59 hl (by decide) rfl (fun ls hl => ?_)
          refine lv_iinc (v := nI (i + 1)) (lv' := [(5, .int (nI (i + 1))), (4, .int (nI (max b9 (kP (yK y i))))), (0, .ref (L 30 0)), (1, .int (nI w)), (2, .int (nI h)), (3, .int (nI g))]) hx hb dX7_single_61 hl (k := 5) rfl (nI_add _ 1) (by decide) rfl (fun ls hl => ?_)
          refine lv_goto (tgt := 6) hx hb dX7_single_64 (by decide) ?_
          exact ih (i + 1) _ H locs ls (by omega) (by omega) (by rw [hb9, bestN_max (ok := (fun j => kLies (yK y j) w h g)) (pr := (fun j => kP (yK y j))) c_36]) hI (lv_sub hl [2,3,4,5,1,0] rfl)
  exact L6 _ 0 0 H locs ls (Nat.lt_succ_self _) (Nat.zero_le _) rfl hI (lv_sub hl [2,3,4,5,1,0] rfl)
set_option maxHeartbeats 4000000 in
set_option maxRecDepth 100000 in
/-- Yard.hasPrice(wide, high, grain, price) -/
theorem c_X7_hasPrice (l : Launch) (K : gK) (G : gW) (r : Nat) (L : Nat → Nat → Nat) (y : YV) (N : Nat) (w h g q9 : Nat) (hm : MY K r L G y N) (hwh : w ≤ 24 ∧ h ≤ 24 ∧ g ≤ 1) (hq9 : q9 < 2 ^ 31) : gM l yX7_hasPrice wsX7_hasPrice 5 109 0 0 K [.ref (L 30 0), .int (nI w), .int (nI h), .int (nI g), .int (nI q9)] G (fun v G1 => v = some (.int (oI (firstN (fun j => decide (kP (yK y j) = q9) && kLies (yK y j) w h g) (yKc y)))) ∧ G1 = G) (gNo) := by
  refine gM.of (cc := cX7_hasPrice) (maxL := 6) (ret := (some .int)) (by decide) rfl (Nat.le_of_ble_eq_true rfl) ?_
  intro p e s m below meth c A S hr hlocks htab hname hE hA hI ls hl
  have hx := S.1
  have hb := S.2.1
  have hml := S.2.2.1
  have hl : lv_has ls 6 [(0, .ref (L 30 0)), (1, .int (nI w)), (2, .int (nI h)), (3, .int (nI g)), (4, .int (nI q9))] := hl
  have h44 := hm.1.2.2.1
  have h6 := hm.1.2.2.2
  have hf2 := hm.1.2.1
  obtain ⟨m1, ar1, hl1⟩ := hm.2.1.obj
  obtain ⟨m2, ar2, hl2⟩ := hm.2.2.1.obj
  obtain ⟨H, hHe⟩ : ∃ z, z = s.heap := ⟨_, rfl⟩
  obtain ⟨locs, hLe⟩ : ∃ z : List Loc, z = [] := ⟨_, rfl⟩
  rw [← hHe, ← hLe]
  have hI : gI K A s G H locs := by rw [hHe, hLe]; exact hI
  clear hHe hLe
  refine lv_iconst (v := nI 0) hx hb dX7_hasPrice_0 (by decide) ?_
  refine lv_istore (lv' := [(5, .int (nI 0)), (0, .ref (L 30 0)), (1, .int (nI w)), (2, .int (nI h)), (3, .int (nI g)), (4, .int (nI q9))]) hx hb dX7_hasPrice_1 hl (by decide) rfl (fun ls hl => ?_)
  have L3 : ∀ (n : Nat) (i : Nat) (H : Heap) (locs : List Loc) (ls : Array Slot) (hn : yKc y - i < n) (hi : i ≤ yKc y) (hno : ∀ j, j < i → (fun j => decide (kP (yK y j) = q9) && kLies (yK y j) w h g) j = false), gI K A s G H locs → lv_has ls 6 [(0, .ref (L 30 0)), (1, .int (nI w)), (2, .int (nI h)), (3, .int (nI g)), (4, .int (nI q9)), (5, .int (nI i))] → W p l e (gRoom 5 109 0 0) s m ([.ref (L 30 0), .int (nI w), .int (nI h), .int (nI g), .int (nI q9)] : List Value).toArray below meth c H locs 0 0 (gEnd K below (fun v G1 => v = some (.int (oI (firstN (fun j => decide (kP (yK y j) = q9) && kLies (yK y j) w h g) (yKc y)))) ∧ G1 = G) (gNo) A ([.ref (L 30 0), .int (nI w), .int (nI h), .int (nI g), .int (nI q9)] : List Value).toArray s 0 0) (F0 m 3 ls []) := by
    clear hI hl
    intro n
    induction n with
    | zero =>
      intro i H locs ls hn hi hno hI hl
      exact absurd hn (Nat.not_lt_zero _)
    | succ n ih =>
      intro i H locs ls hn hi hno hI hl
      refine lv_iload hx hb dX7_hasPrice_3 (lv_at hl 5 rfl) ?_
      refine lv_aload_n hx hb dX7_hasPrice_5 rfl (lv_at hl 0 rfl) ?_
      refine g_get S hE hI (C := RX7) (T := TX7) (N := 3) (ref := "StonecutterYardModel$Yard") (fun w h => (List.mem_cons_of_mem _ (List.mem_append_left _ (List.mem_append_left _ (List.mem_append_right _ h))))) hm.1.1 rfl 1 (by decide) (List.mem_cons_of_mem _ (List.mem_append_left _ (List.mem_append_left _ (List.mem_append_left _ (List.mem_append_left _ (List.mem_of_getElem? (i := 0) rfl)))))) (fun _ h9 => h9) (v := .ref (L 33 0)) rfl dX7_hasPrice_6 ?_
      refine g_callV (As := []) (rest := [.int (nI i)]) (b := (L 33 0)) (n := 0) S hE hI hA (l_size l K _ (r, 33, 0) (tbL r 34) (L 33 0) (yKc y) (L 38) hm.2.2.1) gX7_hasPrice_Jx4a65c_size_8abf5 rfl (by decide +kernel) ⟨Nat.le_of_ble_eq_true rfl, Nat.le_of_ble_eq_true rfl⟩ (g_hro hE hI hl2 rfl) rfl hl.1 rfl (Nat.le_of_ble_eq_true rfl) dX7_hasPrice_9 ⟨Nat.le_of_ble_eq_true rfl, Nat.le_of_ble_eq_true rfl⟩ (fun E ce q9 Gx H1 locs1 hx9 => hx9.elim) (fun rv Gc_9 H locs hp hI => ?_)
      obtain ⟨rfl, hq9⟩ := hp
      rw [hq9] at hI
      refine W.eq (g2 := F0 m 12 ls [.int (nI (yKc y)), .int (nI i)]) rfl ?_
      refine lv_icmp_ge (tgt := 65) hx hb dX7_hasPrice_12 (by decide) (fun c_12 => ?_) (fun c_12 => ?_)
      · skip
        have c_12 : (yKc y) ≤ i := (nI_leI (a := (yKc y)) (b := i) (by omega) (by omega)).mp c_12
        have hfin : firstN (fun j => decide (kP (yK y j) = q9) && kLies (yK y j) w h g) (yKc y) = none := firstN_none (by rw [show i = yKc y by omega] at hno; exact hno)
        refine lv_iconst (v := (-1)) hx hb dX7_hasPrice_65 (by decide) ?_
        exact g_iret S hI hr hlocks (Nat.zero_le _) (Nat.zero_le _) dX7_hasPrice_66 ⟨by rw [hfin]; rfl, rfl⟩
      · skip
        have c_12 : i < (yKc y) := Nat.not_le.mp (fun z => c_12 ((nI_leI (a := (yKc y)) (b := i) (by omega) (by omega)).mpr z))
        refine lv_aload_n hx hb dX7_hasPrice_15 rfl (lv_at hl 0 rfl) ?_
        refine g_get S hE hI (C := RX7) (T := TX7) (N := 3) (ref := "StonecutterYardModel$Yard") (fun w h => (List.mem_cons_of_mem _ (List.mem_append_left _ (List.mem_append_left _ (List.mem_append_right _ h))))) hm.1.1 rfl 1 (by decide) (List.mem_cons_of_mem _ (List.mem_append_left _ (List.mem_append_left _ (List.mem_append_left _ (List.mem_append_left _ (List.mem_of_getElem? (i := 0) rfl)))))) (fun _ h9 => h9) (v := .ref (L 33 0)) rfl dX7_hasPrice_16 ?_
        refine lv_iload hx hb dX7_hasPrice_19 (lv_at hl 5 rfl) ?_
        refine g_callV (As := [.int (nI i)]) (rest := []) (b := (L 33 0)) (n := 1) S hE hI hA (l_get l K _ (r, 33, 0) (tbL r 34) (L 33 0) (yKc y) (L 38) i hm.2.2.1 c_12) gX7_hasPrice_Jx4a65c_get_915e3 rfl (by decide +kernel) ⟨Nat.le_of_ble_eq_true rfl, Nat.le_of_ble_eq_true rfl⟩ (g_hro hE hI hl2 rfl) rfl hl.1 rfl (Nat.le_of_ble_eq_true rfl) dX7_hasPrice_21 ⟨Nat.le_of_ble_eq_true rfl, Nat.le_of_ble_eq_true rfl⟩ (fun E ce q9 Gx H1 locs1 hx9 => hx9.elim) (fun rv Gc_21 H locs hp hI => ?_)
        obtain ⟨rfl, hq9⟩ := hp
        rw [hq9] at hI
        obtain ⟨hkd, hkok⟩ := hm.2.2.2.2 i c_12
        have hkok9 := hkok
        obtain ⟨k1, k2, k3, k4, k5, k6, k7, k8, k9⟩ := hkok9
        refine W.eq (g2 := F0 m 24 ls [.ref (L 38 i)]) rfl ?_
        refine g_cast S (List.mem_cons_of_mem _ (List.mem_append_left _ (List.mem_append_left _ (List.mem_append_left _ (List.mem_append_left _ (List.mem_of_getElem? (i := 1) rfl)))))) (g_hro hE hI hkd rfl) dX7_hasPrice_24 ?_
        refine g_get S hE hI (C := RX5) (T := TX5) (N := 8) (ref := "StonecutterYardModel$Kind") (fun w h => (List.mem_cons_of_mem _ (List.mem_append_left _ (List.mem_append_right _ h)))) hkd rfl 4 (by decide) (List.mem_cons_of_mem _ (List.mem_append_left _ (List.mem_append_left _ (List.mem_append_left _ (List.mem_append_left _ (List.mem_of_getElem? (i := 2) rfl)))))) (fun _ h9 => h9) (v := .int (nI (kP (yK y i)))) rfl dX7_hasPrice_27 ?_
        refine lv_iload hx hb dX7_hasPrice_30 (lv_at hl 4 rfl) ?_
        refine lv_icmp_ne (tgt := 59) hx hb dX7_hasPrice_32 (by decide) (fun c_32 => ?_) (fun c_32 => ?_)
        · skip
          have c_32 : (kP (yK y i)) ≠ q9 := fun z => c_32 ((nI_eq (a := (kP (yK y i))) (b := q9) (by omega) (by omega)).mpr z)
          have hni : (fun j => decide (kP (yK y j) = q9) && kLies (yK y j) w h g) i = false := by simp [c_32]
          refine lv_iinc (v := nI (i + 1)) (lv' := [(5, .int (nI (i + 1))), (0, .ref (L 30 0)), (1, .int (nI w)), (2, .int (nI h)), (3, .int (nI g)), (4, .int (nI q9))]) hx hb dX7_hasPrice_59 hl (k := 5) rfl (nI_add _ 1) (by decide) rfl (fun ls hl => ?_)
          refine lv_goto (tgt := 3) hx hb dX7_hasPrice_62 (by decide) ?_
          exact ih (i + 1) H locs ls (by omega) (by omega) (lt_s hno hni) hI (lv_sub hl [1,2,3,4,5,0] rfl)
        · skip
          have c_32 : (kP (yK y i)) = q9 := (nI_eq (a := (kP (yK y i))) (b := q9) (by omega) (by omega)).mp c_32
          refine lv_aload_n hx hb dX7_hasPrice_35 rfl (lv_at hl 0 rfl) ?_
          refine g_get S hE hI (C := RX7) (T := TX7) (N := 3) (ref := "StonecutterYardModel$Yard") (fun w h => (List.mem_cons_of_mem _ (List.mem_append_left _ (List.mem_append_left _ (List.mem_append_right _ h))))) hm.1.1 rfl 1 (by decide) (List.mem_cons_of_mem _ (List.mem_append_left _ (List.mem_append_left _ (List.mem_append_left _ (List.mem_append_left _ (List.mem_of_getElem? (i := 0) rfl)))))) (fun _ h9 => h9) (v := .ref (L 33 0)) rfl dX7_hasPrice_36 ?_
          refine lv_iload hx hb dX7_hasPrice_39 (lv_at hl 5 rfl) ?_
          refine g_callV (As := [.int (nI i)]) (rest := []) (b := (L 33 0)) (n := 1) S hE hI hA (l_get l K _ (r, 33, 0) (tbL r 34) (L 33 0) (yKc y) (L 38) i hm.2.2.1 c_12) gX7_hasPrice_Jx4a65c_get_915e3 rfl (by decide +kernel) ⟨Nat.le_of_ble_eq_true rfl, Nat.le_of_ble_eq_true rfl⟩ (g_hro hE hI hl2 rfl) rfl hl.1 rfl (Nat.le_of_ble_eq_true rfl) dX7_hasPrice_41 ⟨Nat.le_of_ble_eq_true rfl, Nat.le_of_ble_eq_true rfl⟩ (fun E ce q9 Gx H1 locs1 hx9 => hx9.elim) (fun rv Gc_41 H locs hp hI => ?_)
          obtain ⟨rfl, hq9⟩ := hp
          rw [hq9] at hI
          obtain ⟨hkd, hkok⟩ := hm.2.2.2.2 i c_12
          have hkok9 := hkok
          obtain ⟨k1, k2, k3, k4, k5, k6, k7, k8, k9⟩ := hkok9
          refine W.eq (g2 := F0 m 44 ls [.ref (L 38 i)]) rfl ?_
          refine g_cast S (List.mem_cons_of_mem _ (List.mem_append_left _ (List.mem_append_left _ (List.mem_append_left _ (List.mem_append_left _ (List.mem_of_getElem? (i := 1) rfl)))))) (g_hro hE hI hkd rfl) dX7_hasPrice_44 ?_
          refine lv_iload_n hx hb dX7_hasPrice_47 rfl (lv_at hl 1 rfl) ?_
          refine lv_iload_n hx hb dX7_hasPrice_48 rfl (lv_at hl 2 rfl) ?_
          refine lv_iload_n hx hb dX7_hasPrice_49 rfl (lv_at hl 3 rfl) ?_
          refine g_callV (As := [.int (nI w), .int (nI h), .int (nI g)]) (rest := []) (b := (L 38 i)) (n := 3) S hE hI hA (c_X5_lies_ l K _ (r, 38, i) (L 38 i) (yK y i) w h g hkd hkok hwh) gX7_hasPrice_X5_lies_ rfl (by decide +kernel) ⟨Nat.le_of_ble_eq_true rfl, Nat.le_of_ble_eq_true rfl⟩ (g_hro hE hI hkd rfl) rfl hl.1 rfl (Nat.le_of_ble_eq_true rfl) dX7_hasPrice_50 ⟨Nat.le_of_ble_eq_true rfl, Nat.le_of_ble_eq_true rfl⟩ (fun E ce q9 Gx H1 locs1 hx9 => hx9.elim) (fun rv Gc_50 H locs hp hI => ?_)
          obtain ⟨rfl, hq9⟩ := hp
          rw [hq9] at hI
          refine W.eq (g2 := F0 m 53 ls [.int (bI (kLies (yK y i) w h g))]) rfl ?_
          refine lv_if_eq (tgt := 59) hx hb dX7_hasPrice_53 (by decide) (fun c_53 => ?_) (fun c_53 => ?_)
          · skip
            have c_53 : (kLies (yK y i) w h g) = false := bI_0.mp c_53
            have hni : (fun j => decide (kP (yK y j) = q9) && kLies (yK y j) w h g) i = false := by simp only [c_53, Bool.and_false]
            refine lv_iinc (v := nI (i + 1)) (lv' := [(5, .int (nI (i + 1))), (0, .ref (L 30 0)), (1, .int (nI w)), (2, .int (nI h)), (3, .int (nI g)), (4, .int (nI q9))]) hx hb dX7_hasPrice_59 hl (k := 5) rfl (nI_add _ 1) (by decide) rfl (fun ls hl => ?_)
            refine lv_goto (tgt := 3) hx hb dX7_hasPrice_62 (by decide) ?_
            exact ih (i + 1) H locs ls (by omega) (by omega) (lt_s hno hni) hI (lv_sub hl [1,2,3,4,5,0] rfl)
          · skip
            have c_53 : (kLies (yK y i) w h g) = true := bI_1.mp c_53
            have hfin : firstN (fun j => decide (kP (yK y j) = q9) && kLies (yK y j) w h g) (yKc y) = some i := firstN_at (by simp only [c_53, c_32, decide_true, Bool.and_true]) hno c_12
            refine lv_iload hx hb dX7_hasPrice_56 (lv_at hl 5 rfl) ?_
            exact g_iret S hI hr hlocks (Nat.zero_le _) (Nat.zero_le _) dX7_hasPrice_58 ⟨by rw [hfin]; rfl, rfl⟩
  exact L3 _ 0 H locs ls (Nat.lt_succ_self _) (Nat.zero_le _) (fun j hj => absurd hj (Nat.not_lt_zero j)) hI (lv_sub hl [1,2,3,4,5,0] rfl)
theorem canI_iff2 {len kf : Nat} {x : Int32} (h : ¬ x < nI 1) (hl : len ≤ 24) (hk : kf ≤ 2) : nI len - nI kf ≤ x ↔ canI len kf x = false := by
  rw [lt_nI (by decide)] at h
  have hx := Int32.toInt_lt x
  have e1 : (nI len - nI kf).toInt = len - kf := by
    rw [Int32.toInt_sub, nI_toInt (by omega), nI_toInt (by omega)]
    exact Int.bmod_eq_of_le (by omega) (by omega)
  rw [Int32.le_iff_toInt_le, e1, canI, decide_eq_false_iff_not]
  omega
theorem sub_eq0 {a b : Nat} (ha : a < 2 ^ 30) (hb : b < 2 ^ 30) : nI a - nI b = 0 ↔ a = b := by
  rw [← Int32.toInt_inj, pk_sub_toInt ha hb, show (0 : Int32).toInt = 0 from by decide]
  omega
theorem sub_le0 {a b : Nat} (ha : a < 2 ^ 30) (hb : b < 2 ^ 30) : nI a - nI b ≤ 0 ↔ a ≤ b := by
  rw [Int32.le_iff_toInt_le, pk_sub_toInt ha hb, show (0 : Int32).toInt = 0 from by decide]
  omega
theorem sub_ge0 {a b : Nat} (ha : a < 2 ^ 30) (hb : b < 2 ^ 30) : 0 ≤ nI a - nI b ↔ b ≤ a := by
  rw [Int32.le_iff_toInt_le, pk_sub_toInt ha hb, show (0 : Int32).toInt = 0 from by decide]
  omega
/-- whether a slab and a kind come ahead of others, as the reference has it -/
def mBet (y : YV) (s k s2 k2 : Nat) : Bool := if kP (yK y k) = kP (yK y k2) then (if sA (yS y s) = sA (yS y s2) then (if s = s2 then decide (k < k2) else decide (s < s2)) else decide (sA (yS y s) < sA (yS y s2))) else decide (kP (yK y k2) < kP (yK y k))
set_option maxHeartbeats 4000000 in
set_option maxRecDepth 100000 in
/-- Yard.canCut(slab, isDown, place) -/
theorem c_X7_canCut (l : Launch) (K : gK) (G : gW) (r : Nat) (L : Nat → Nat → Nat) (y : YV) (N : Nat) (i : Nat) (dn : Bool) (x : Int32) (hm : MY K r L G y N) (hi : i < ySc y) : gM l yX7_canCut wsX7_canCut 2 40 0 0 K [.ref (L 30 0), .ref (L 35 i), .int (bI dn), .int x] G (fun v G1 => v = some (.int (bI (canI (yLen (yS y i) dn) (yF y) x))) ∧ G1 = G) (gNo) := by
  refine gM.of (cc := cX7_canCut) (maxL := 4) (ret := (some .boolean)) (by decide) rfl (Nat.le_of_ble_eq_true rfl) ?_
  intro p e s m below meth c A S hr hlocks htab hname hE hA hI ls hl
  have hx := S.1
  have hb := S.2.1
  have hml := S.2.2.1
  have hl : lv_has ls 4 [(0, .ref (L 30 0)), (1, .ref (L 35 i)), (2, .int (bI dn)), (3, .int x)] := hl
  have h44 := hm.1.2.2.1
  have h6 := hm.1.2.2.2
  have hf2 := hm.1.2.1
  obtain ⟨m1, ar1, hl1⟩ := hm.2.1.obj
  obtain ⟨m2, ar2, hl2⟩ := hm.2.2.1.obj
  obtain ⟨hsl, -, hsok⟩ := hm.2.2.2.1 i hi
  obtain ⟨s1, s2, s3, s4, -⟩ := hsok
  obtain ⟨H, hHe⟩ : ∃ z, z = s.heap := ⟨_, rfl⟩
  obtain ⟨locs, hLe⟩ : ∃ z : List Loc, z = [] := ⟨_, rfl⟩
  rw [← hHe, ← hLe]
  have hI : gI K A s G H locs := by rw [hHe, hLe]; exact hI
  clear hHe hLe
  refine lv_iload_n hx hb dX7_canCut_0 rfl (lv_at hl 3 rfl) ?_
  refine lv_iconst (v := nI 1) hx hb dX7_canCut_1 (by decide) ?_
  refine lv_icmp_lt (tgt := 33) hx hb dX7_canCut_2 (by decide) (fun c_2 => ?_) (fun c_2 => ?_)
  · skip
    have hcan : canI (yLen (yS y i) dn) (yF y) x = false := canI_lt c_2
    refine lv_iconst (v := nI 0) hx hb dX7_canCut_33 (by decide) ?_
    exact g_zret S hI hr hlocks (Nat.zero_le _) (Nat.zero_le _) (Or.inl rfl) dX7_canCut_34 ⟨by rw [hcan]; rfl, rfl⟩
  · skip
    refine lv_iload_n hx hb dX7_canCut_5 rfl (lv_at hl 3 rfl) ?_
    refine lv_iload_n hx hb dX7_canCut_6 rfl (lv_at hl 2 rfl) ?_
    refine lv_if_eq (tgt := 17) hx hb dX7_canCut_7 (by decide) (fun c_7 => ?_) (fun c_7 => ?_)
    · skip
      have c_7 : dn = false := bI_0.mp c_7
      refine lv_aload_n hx hb dX7_canCut_17 rfl (lv_at hl 1 rfl) ?_
      refine g_get S hE hI (C := RX6) (T := TX6) (N := 6) (ref := "StonecutterYardModel$Slab") (fun w h => (List.mem_cons_of_mem _ (List.mem_append_left _ (List.mem_append_right _ h)))) hsl rfl 1 (by decide) (List.mem_cons_of_mem _ (List.mem_append_left _ (List.mem_append_left _ (List.mem_of_getElem? (i := 1) rfl)))) (fun _ h9 => h9) (v := .int (nI (sH (yS y i)))) rfl dX7_canCut_18 ?_
      refine lv_aload_n hx hb dX7_canCut_21 rfl (lv_at hl 0 rfl) ?_
      refine g_get S hE hI (C := RX7) (T := TX7) (N := 3) (ref := "StonecutterYardModel$Yard") (fun w h => (List.mem_cons_of_mem _ (List.mem_append_right _ h))) hm.1.1 rfl 2 (by decide) (List.mem_cons_of_mem _ (List.mem_append_left _ (List.mem_append_left _ (List.mem_of_getElem? (i := 2) rfl)))) (fun _ h9 => h9) (v := .int (nI (yF y))) rfl dX7_canCut_22 ?_
      refine lv_isub hx hb dX7_canCut_25 ?_
      refine lv_icmp_ge (tgt := 33) hx hb dX7_canCut_26 (by decide) (fun c_26 => ?_) (fun c_26 => ?_)
      · skip
        have hcan : canI (yLen (yS y i) dn) (yF y) x = false := by rw [c_7]; exact (canI_iff2 c_2 (by first | exact s2 | exact s4) hf2).mp c_26
        refine lv_iconst (v := nI 0) hx hb dX7_canCut_33 (by decide) ?_
        exact g_zret S hI hr hlocks (Nat.zero_le _) (Nat.zero_le _) (Or.inl rfl) dX7_canCut_34 ⟨by rw [hcan]; rfl, rfl⟩
      · skip
        have hcan : canI (yLen (yS y i) dn) (yF y) x = true := Bool.not_eq_false _ |>.mp (fun z9 => c_26 ((canI_iff2 c_2 (by first | exact s2 | exact s4) hf2).mpr (by rw [c_7] at z9; exact z9)))
        refine lv_iconst (v := nI 1) hx hb dX7_canCut_29 (by decide) ?_
        refine lv_goto (tgt := 34) hx hb dX7_canCut_30 (by decide) ?_
        exact g_zret S hI hr hlocks (Nat.zero_le _) (Nat.zero_le _) (Or.inr rfl) dX7_canCut_34 ⟨by rw [hcan]; rfl, rfl⟩
    · skip
      have c_7 : dn = true := bI_1.mp c_7
      refine lv_aload_n hx hb dX7_canCut_10 rfl (lv_at hl 1 rfl) ?_
      refine g_get S hE hI (C := RX6) (T := TX6) (N := 6) (ref := "StonecutterYardModel$Slab") (fun w h => (List.mem_cons_of_mem _ (List.mem_append_left _ (List.mem_append_right _ h)))) hsl rfl 0 (by decide) (List.mem_cons_of_mem _ (List.mem_append_left _ (List.mem_append_left _ (List.mem_of_getElem? (i := 0) rfl)))) (fun _ h9 => h9) (v := .int (nI (sW (yS y i)))) rfl dX7_canCut_11 ?_
      refine lv_goto (tgt := 21) hx hb dX7_canCut_14 (by decide) ?_
      refine lv_aload_n hx hb dX7_canCut_21 rfl (lv_at hl 0 rfl) ?_
      refine g_get S hE hI (C := RX7) (T := TX7) (N := 3) (ref := "StonecutterYardModel$Yard") (fun w h => (List.mem_cons_of_mem _ (List.mem_append_right _ h))) hm.1.1 rfl 2 (by decide) (List.mem_cons_of_mem _ (List.mem_append_left _ (List.mem_append_left _ (List.mem_of_getElem? (i := 2) rfl)))) (fun _ h9 => h9) (v := .int (nI (yF y))) rfl dX7_canCut_22 ?_
      refine lv_isub hx hb dX7_canCut_25 ?_
      refine lv_icmp_ge (tgt := 33) hx hb dX7_canCut_26 (by decide) (fun c_26 => ?_) (fun c_26 => ?_)
      · skip
        have hcan : canI (yLen (yS y i) dn) (yF y) x = false := by rw [c_7]; exact (canI_iff2 c_2 (by first | exact s2 | exact s4) hf2).mp c_26
        refine lv_iconst (v := nI 0) hx hb dX7_canCut_33 (by decide) ?_
        exact g_zret S hI hr hlocks (Nat.zero_le _) (Nat.zero_le _) (Or.inl rfl) dX7_canCut_34 ⟨by rw [hcan]; rfl, rfl⟩
      · skip
        have hcan : canI (yLen (yS y i) dn) (yF y) x = true := Bool.not_eq_false _ |>.mp (fun z9 => c_26 ((canI_iff2 c_2 (by first | exact s2 | exact s4) hf2).mpr (by rw [c_7] at z9; exact z9)))
        refine lv_iconst (v := nI 1) hx hb dX7_canCut_29 (by decide) ?_
        refine lv_goto (tgt := 34) hx hb dX7_canCut_30 (by decide) ?_
        exact g_zret S hI hr hlocks (Nat.zero_le _) (Nat.zero_le _) (Or.inr rfl) dX7_canCut_34 ⟨by rw [hcan]; rfl, rfl⟩
set_option maxHeartbeats 4000000 in
set_option maxRecDepth 100000 in
/-- Yard.isBetter(slab, kind, otherSlab, otherKind) -/
theorem c_X7_isBetter (l : Launch) (K : gK) (G : gW) (r : Nat) (L : Nat → Nat → Nat) (y : YV) (N : Nat) (i1 j1 i2 j2 : Nat) (hm : MY K r L G y N) (hi1 : i1 < ySc y) (hi2 : i2 < ySc y) (hj1 : j1 < yKc y) (hj2 : j2 < yKc y) : gM l yX7_isBetter wsX7_isBetter 5 104 0 0 K [.ref (L 30 0), .int (nI i1), .int (nI j1), .int (nI i2), .int (nI j2)] G (fun v G1 => v = some (.int (bI (mBet y i1 j1 i2 j2))) ∧ G1 = G) (gNo) := by
  refine gM.of (cc := cX7_isBetter) (maxL := 7) (ret := (some .boolean)) (by decide) rfl (Nat.le_of_ble_eq_true rfl) ?_
  intro p e s m below meth c A S hr hlocks htab hname hE hA hI ls hl
  have hx := S.1
  have hb := S.2.1
  have hml := S.2.2.1
  have hl : lv_has ls 7 [(0, .ref (L 30 0)), (1, .int (nI i1)), (2, .int (nI j1)), (3, .int (nI i2)), (4, .int (nI j2))] := hl
  have h44 := hm.1.2.2.1
  have h6 := hm.1.2.2.2
  have hf2 := hm.1.2.1
  obtain ⟨m1, ar1, hl1⟩ := hm.2.1.obj
  obtain ⟨m2, ar2, hl2⟩ := hm.2.2.1.obj
  obtain ⟨-, hka⟩ := hm.2.2.2.2 j1 hj1
  obtain ⟨-, hkb⟩ := hm.2.2.2.2 j2 hj2
  obtain ⟨-, -, hsa⟩ := hm.2.2.2.1 i1 hi1
  obtain ⟨-, -, hsb⟩ := hm.2.2.2.1 i2 hi2
  have hpa : kP (yK y j1) ≤ 999 := hka.2.2.2.2.2.2.2.1
  have hpb : kP (yK y j2) ≤ 999 := hkb.2.2.2.2.2.2.2.1
  have haa := sA_lt hsa
  have hab := sA_lt hsb
  obtain ⟨H, hHe⟩ : ∃ z, z = s.heap := ⟨_, rfl⟩
  obtain ⟨locs, hLe⟩ : ∃ z : List Loc, z = [] := ⟨_, rfl⟩
  rw [← hHe, ← hLe]
  have hI : gI K A s G H locs := by rw [hHe, hLe]; exact hI
  clear hHe hLe
  refine lv_aload_n hx hb dX7_isBetter_0 rfl (lv_at hl 0 rfl) ?_
  refine g_get S hE hI (C := RX7) (T := TX7) (N := 3) (ref := "StonecutterYardModel$Yard") (fun w h => (List.mem_cons_of_mem _ (List.mem_append_left _ (List.mem_append_left _ (List.mem_append_left _ (List.mem_append_right _ h)))))) hm.1.1 rfl 1 (by decide) (List.mem_cons_of_mem _ (List.mem_append_left _ (List.mem_append_left _ (List.mem_append_left _ (List.mem_append_left _ (List.mem_append_left _ (List.mem_of_getElem? (i := 0) rfl))))))) (fun _ h9 => h9) (v := .ref (L 33 0)) rfl dX7_isBetter_1 ?_
  refine lv_iload_n hx hb dX7_isBetter_4 rfl (lv_at hl 2 rfl) ?_
  refine g_callV (As := [.int (nI j1)]) (rest := []) (b := (L 33 0)) (n := 1) S hE hI hA (l_get l K _ (r, 33, 0) (tbL r 34) (L 33 0) (yKc y) (L 38) j1 hm.2.2.1 hj1) gX7_isBetter_Jx4a65c_get_915e3 rfl (by decide +kernel) ⟨Nat.le_of_ble_eq_true rfl, Nat.le_of_ble_eq_true rfl⟩ (g_hro hE hI hl2 rfl) rfl hl.1 rfl (Nat.le_of_ble_eq_true rfl) dX7_isBetter_5 ⟨Nat.le_of_ble_eq_true rfl, Nat.le_of_ble_eq_true rfl⟩ (fun E ce q9 Gx H1 locs1 hx9 => hx9.elim) (fun rv Gc_5 H locs hp hI => ?_)
  obtain ⟨rfl, hq9⟩ := hp
  rw [hq9] at hI
  obtain ⟨hkd1, hkoka⟩ := hm.2.2.2.2 j1 hj1
  have hkok9a := hkoka
  obtain ⟨k1a, k2a, k3a, k4a, k5a, k6a, k7a, k8a, k9a⟩ := hkok9a
  refine W.eq (g2 := F0 m 8 ls [.ref (L 38 j1)]) rfl ?_
  refine g_cast S (List.mem_cons_of_mem _ (List.mem_append_left _ (List.mem_append_left _ (List.mem_append_left _ (List.mem_append_left _ (List.mem_append_left _ (List.mem_of_getElem? (i := 1) rfl))))))) (g_hro hE hI hkd1 rfl) dX7_isBetter_8 ?_
  refine g_get S hE hI (C := RX5) (T := TX5) (N := 8) (ref := "StonecutterYardModel$Kind") (fun w h => (List.mem_cons_of_mem _ (List.mem_append_left _ (List.mem_append_left _ (List.mem_append_right _ h))))) hkd1 rfl 4 (by decide) (List.mem_cons_of_mem _ (List.mem_append_left _ (List.mem_append_left _ (List.mem_append_left _ (List.mem_append_left _ (List.mem_append_left _ (List.mem_of_getElem? (i := 2) rfl))))))) (fun _ h9 => h9) (v := .int (nI (kP (yK y j1)))) rfl dX7_isBetter_11 ?_
  refine lv_aload_n hx hb dX7_isBetter_14 rfl (lv_at hl 0 rfl) ?_
  refine g_get S hE hI (C := RX7) (T := TX7) (N := 3) (ref := "StonecutterYardModel$Yard") (fun w h => (List.mem_cons_of_mem _ (List.mem_append_left _ (List.mem_append_left _ (List.mem_append_left _ (List.mem_append_right _ h)))))) hm.1.1 rfl 1 (by decide) (List.mem_cons_of_mem _ (List.mem_append_left _ (List.mem_append_left _ (List.mem_append_left _ (List.mem_append_left _ (List.mem_append_left _ (List.mem_of_getElem? (i := 0) rfl))))))) (fun _ h9 => h9) (v := .ref (L 33 0)) rfl dX7_isBetter_15 ?_
  refine lv_iload hx hb dX7_isBetter_18 (lv_at hl 4 rfl) ?_
  refine g_callV (As := [.int (nI j2)]) (rest := [.int (nI (kP (yK y j1)))]) (b := (L 33 0)) (n := 1) S hE hI hA (l_get l K _ (r, 33, 0) (tbL r 34) (L 33 0) (yKc y) (L 38) j2 hm.2.2.1 hj2) gX7_isBetter_Jx4a65c_get_915e3 rfl (by decide +kernel) ⟨Nat.le_of_ble_eq_true rfl, Nat.le_of_ble_eq_true rfl⟩ (g_hro hE hI hl2 rfl) rfl hl.1 rfl (Nat.le_of_ble_eq_true rfl) dX7_isBetter_20 ⟨Nat.le_of_ble_eq_true rfl, Nat.le_of_ble_eq_true rfl⟩ (fun E ce q9 Gx H1 locs1 hx9 => hx9.elim) (fun rv Gc_20 H locs hp hI => ?_)
  obtain ⟨rfl, hq9⟩ := hp
  rw [hq9] at hI
  obtain ⟨hkd2, hkokb⟩ := hm.2.2.2.2 j2 hj2
  have hkok9b := hkokb
  obtain ⟨k1b, k2b, k3b, k4b, k5b, k6b, k7b, k8b, k9b⟩ := hkok9b
  refine W.eq (g2 := F0 m 23 ls [.ref (L 38 j2), .int (nI (kP (yK y j1)))]) rfl ?_
  refine g_cast S (List.mem_cons_of_mem _ (List.mem_append_left _ (List.mem_append_left _ (List.mem_append_left _ (List.mem_append_left _ (List.mem_append_left _ (List.mem_of_getElem? (i := 1) rfl))))))) (g_hro hE hI hkd2 rfl) dX7_isBetter_23 ?_
  refine g_get S hE hI (C := RX5) (T := TX5) (N := 8) (ref := "StonecutterYardModel$Kind") (fun w h => (List.mem_cons_of_mem _ (List.mem_append_left _ (List.mem_append_left _ (List.mem_append_right _ h))))) hkd2 rfl 4 (by decide) (List.mem_cons_of_mem _ (List.mem_append_left _ (List.mem_append_left _ (List.mem_append_left _ (List.mem_append_left _ (List.mem_append_left _ (List.mem_of_getElem? (i := 2) rfl))))))) (fun _ h9 => h9) (v := .int (nI (kP (yK y j2)))) rfl dX7_isBetter_26 ?_
  refine lv_isub hx hb dX7_isBetter_29 ?_
  refine lv_istore (lv' := [(5, .int ((nI (kP (yK y j1))) - (nI (kP (yK y j2))))), (0, .ref (L 30 0)), (1, .int (nI i1)), (2, .int (nI j1)), (3, .int (nI i2)), (4, .int (nI j2))]) hx hb dX7_isBetter_30 hl (by decide) rfl (fun ls hl => ?_)
  refine lv_iload hx hb dX7_isBetter_32 (lv_at hl 0 rfl) ?_
  refine lv_if_eq (tgt := 48) hx hb dX7_isBetter_34 (by decide) (fun c_34 => ?_) (fun c_34 => ?_)
  · skip
    have c_34 : (kP (yK y j1)) = (kP (yK y j2)) := (sub_eq0 (by omega) (by omega)).mp c_34
    refine lv_aload_n hx hb dX7_isBetter_48 rfl (lv_at hl 1 rfl) ?_
    refine g_get S hE hI (C := RX7) (T := TX7) (N := 3) (ref := "StonecutterYardModel$Yard") (fun w h => (List.mem_cons_of_mem _ (List.mem_append_left _ (List.mem_append_left _ (List.mem_append_left _ (List.mem_append_right _ h)))))) hm.1.1 rfl 0 (by decide) (List.mem_cons_of_mem _ (List.mem_append_left _ (List.mem_append_left _ (List.mem_append_left _ (List.mem_append_left _ (List.mem_append_left _ (List.mem_of_getElem? (i := 3) rfl))))))) (fun _ h9 => h9) (v := .ref (L 31 0)) rfl dX7_isBetter_49 ?_
    refine lv_iload_n hx hb dX7_isBetter_52 rfl (lv_at hl 2 rfl) ?_
    refine g_callV (As := [.int (nI i1)]) (rest := []) (b := (L 31 0)) (n := 1) S hE hI hA (l_get l K _ (r, 31, 0) (tbL r 32) (L 31 0) (ySc y) (L 35) i1 hm.2.1 hi1) gX7_isBetter_Jx4a65c_get_915e3 rfl (by decide +kernel) ⟨Nat.le_of_ble_eq_true rfl, Nat.le_of_ble_eq_true rfl⟩ (g_hro hE hI hl1 rfl) rfl hl.1 rfl (Nat.le_of_ble_eq_true rfl) dX7_isBetter_53 ⟨Nat.le_of_ble_eq_true rfl, Nat.le_of_ble_eq_true rfl⟩ (fun E ce q9 Gx H1 locs1 hx9 => hx9.elim) (fun rv Gc_53 H locs hp hI => ?_)
    obtain ⟨rfl, hq9⟩ := hp
    rw [hq9] at hI
    obtain ⟨hsl1, hflc, hsokc⟩ := hm.2.2.2.1 i1 hi1
    have hsok9c := hsokc
    obtain ⟨s1c, s2c, s3c, s4c, s5c, s6c, s7c, s8c⟩ := hsok9c
    refine W.eq (g2 := F0 m 56 ls [.ref (L 35 i1)]) rfl ?_
    refine g_cast S (List.mem_cons_of_mem _ (List.mem_append_left _ (List.mem_append_left _ (List.mem_append_left _ (List.mem_append_left _ (List.mem_append_left _ (List.mem_of_getElem? (i := 4) rfl))))))) (g_hro hE hI hsl1 rfl) dX7_isBetter_56 ?_
    refine g_callV (As := []) (rest := []) (b := (L 35 i1)) (n := 0) S hE hI hA (c_X6_area l K _ (r, 35, i1) (L 35 i1) (yS y i1) (L 36 i1) hsl1) gX7_isBetter_X6_area rfl (by decide +kernel) ⟨Nat.le_of_ble_eq_true rfl, Nat.le_of_ble_eq_true rfl⟩ (g_hro hE hI hsl1 rfl) rfl hl.1 rfl (Nat.le_of_ble_eq_true rfl) dX7_isBetter_59 ⟨Nat.le_of_ble_eq_true rfl, Nat.le_of_ble_eq_true rfl⟩ (fun E ce q9 Gx H1 locs1 hx9 => hx9.elim) (fun rv Gc_59 H locs hp hI => ?_)
    obtain ⟨rfl, hq9⟩ := hp
    rw [hq9] at hI
    refine W.eq (g2 := F0 m 62 ls [.int (nI (sA (yS y i1)))]) rfl ?_
    refine lv_aload_n hx hb dX7_isBetter_62 rfl (lv_at hl 1 rfl) ?_
    refine g_get S hE hI (C := RX7) (T := TX7) (N := 3) (ref := "StonecutterYardModel$Yard") (fun w h => (List.mem_cons_of_mem _ (List.mem_append_left _ (List.mem_append_left _ (List.mem_append_left _ (List.mem_append_right _ h)))))) hm.1.1 rfl 0 (by decide) (List.mem_cons_of_mem _ (List.mem_append_left _ (List.mem_append_left _ (List.mem_append_left _ (List.mem_append_left _ (List.mem_append_left _ (List.mem_of_getElem? (i := 3) rfl))))))) (fun _ h9 => h9) (v := .ref (L 31 0)) rfl dX7_isBetter_63 ?_
    refine lv_iload_n hx hb dX7_isBetter_66 rfl (lv_at hl 4 rfl) ?_
    refine g_callV (As := [.int (nI i2)]) (rest := [.int (nI (sA (yS y i1)))]) (b := (L 31 0)) (n := 1) S hE hI hA (l_get l K _ (r, 31, 0) (tbL r 32) (L 31 0) (ySc y) (L 35) i2 hm.2.1 hi2) gX7_isBetter_Jx4a65c_get_915e3 rfl (by decide +kernel) ⟨Nat.le_of_ble_eq_true rfl, Nat.le_of_ble_eq_true rfl⟩ (g_hro hE hI hl1 rfl) rfl hl.1 rfl (Nat.le_of_ble_eq_true rfl) dX7_isBetter_67 ⟨Nat.le_of_ble_eq_true rfl, Nat.le_of_ble_eq_true rfl⟩ (fun E ce q9 Gx H1 locs1 hx9 => hx9.elim) (fun rv Gc_67 H locs hp hI => ?_)
    obtain ⟨rfl, hq9⟩ := hp
    rw [hq9] at hI
    obtain ⟨hsl2, hfld, hsokd⟩ := hm.2.2.2.1 i2 hi2
    have hsok9d := hsokd
    obtain ⟨s1d, s2d, s3d, s4d, s5d, s6d, s7d, s8d⟩ := hsok9d
    refine W.eq (g2 := F0 m 70 ls [.ref (L 35 i2), .int (nI (sA (yS y i1)))]) rfl ?_
    refine g_cast S (List.mem_cons_of_mem _ (List.mem_append_left _ (List.mem_append_left _ (List.mem_append_left _ (List.mem_append_left _ (List.mem_append_left _ (List.mem_of_getElem? (i := 4) rfl))))))) (g_hro hE hI hsl2 rfl) dX7_isBetter_70 ?_
    refine g_callV (As := []) (rest := [.int (nI (sA (yS y i1)))]) (b := (L 35 i2)) (n := 0) S hE hI hA (c_X6_area l K _ (r, 35, i2) (L 35 i2) (yS y i2) (L 36 i2) hsl2) gX7_isBetter_X6_area rfl (by decide +kernel) ⟨Nat.le_of_ble_eq_true rfl, Nat.le_of_ble_eq_true rfl⟩ (g_hro hE hI hsl2 rfl) rfl hl.1 rfl (Nat.le_of_ble_eq_true rfl) dX7_isBetter_73 ⟨Nat.le_of_ble_eq_true rfl, Nat.le_of_ble_eq_true rfl⟩ (fun E ce q9 Gx H1 locs1 hx9 => hx9.elim) (fun rv Gc_73 H locs hp hI => ?_)
    obtain ⟨rfl, hq9⟩ := hp
    rw [hq9] at hI
    refine W.eq (g2 := F0 m 76 ls [.int (nI (sA (yS y i2))), .int (nI (sA (yS y i1)))]) rfl ?_
    refine lv_isub hx hb dX7_isBetter_76 ?_
    refine lv_istore (lv' := [(6, .int ((nI (sA (yS y i1))) - (nI (sA (yS y i2))))), (5, .int ((nI (kP (yK y j1))) - (nI (kP (yK y j2))))), (0, .ref (L 30 0)), (1, .int (nI i1)), (2, .int (nI j1)), (3, .int (nI i2)), (4, .int (nI j2))]) hx hb dX7_isBetter_77 hl (by decide) rfl (fun ls hl => ?_)
    refine lv_iload hx hb dX7_isBetter_79 (lv_at hl 0 rfl) ?_
    refine lv_if_eq (tgt := 95) hx hb dX7_isBetter_81 (by decide) (fun c_81 => ?_) (fun c_81 => ?_)
    · skip
      have c_81 : (sA (yS y i1)) = (sA (yS y i2)) := (sub_eq0 (by omega) (by omega)).mp c_81
      refine lv_iload_n hx hb dX7_isBetter_95 rfl (lv_at hl 3 rfl) ?_
      refine lv_iload_n hx hb dX7_isBetter_96 rfl (lv_at hl 5 rfl) ?_
      refine lv_icmp_eq (tgt := 113) hx hb dX7_isBetter_97 (by decide) (fun c_97 => ?_) (fun c_97 => ?_)
      · skip
        have c_97 : i1 = i2 := (nI_eq (a := i1) (b := i2) (by omega) (by omega)).mp c_97
        refine lv_iload_n hx hb dX7_isBetter_113 rfl (lv_at hl 4 rfl) ?_
        refine lv_iload hx hb dX7_isBetter_114 (lv_at hl 6 rfl) ?_
        refine lv_icmp_ge (tgt := 123) hx hb dX7_isBetter_116 (by decide) (fun c_116 => ?_) (fun c_116 => ?_)
        · skip
          have c_116 : j2 ≤ j1 := (nI_leI (a := j2) (b := j1) (by omega) (by omega)).mp c_116
          refine lv_iconst (v := nI 0) hx hb dX7_isBetter_123 (by decide) ?_
          exact g_zret S hI hr hlocks (Nat.zero_le _) (Nat.zero_le _) (Or.inl rfl) dX7_isBetter_124 ⟨by unfold mBet; rw [if_pos c_34, if_pos c_81, if_pos c_97, decide_eq_false (Nat.not_lt.mpr c_116)]; rfl, rfl⟩
        · skip
          have c_116 : j1 < j2 := Nat.not_le.mp (fun z => c_116 ((nI_leI (a := j2) (b := j1) (by omega) (by omega)).mpr z))
          refine lv_iconst (v := nI 1) hx hb dX7_isBetter_119 (by decide) ?_
          refine lv_goto (tgt := 124) hx hb dX7_isBetter_120 (by decide) ?_
          exact g_zret S hI hr hlocks (Nat.zero_le _) (Nat.zero_le _) (Or.inr rfl) dX7_isBetter_124 ⟨by unfold mBet; rw [if_pos c_34, if_pos c_81, if_pos c_97, decide_eq_true c_116]; rfl, rfl⟩
      · skip
        have c_97 : i1 ≠ i2 := fun z => c_97 ((nI_eq (a := i1) (b := i2) (by omega) (by omega)).mpr z)
        refine lv_iload_n hx hb dX7_isBetter_100 rfl (lv_at hl 3 rfl) ?_
        refine lv_iload_n hx hb dX7_isBetter_101 rfl (lv_at hl 5 rfl) ?_
        refine lv_icmp_ge (tgt := 109) hx hb dX7_isBetter_102 (by decide) (fun c_102 => ?_) (fun c_102 => ?_)
        · skip
          have c_102 : i2 ≤ i1 := (nI_leI (a := i2) (b := i1) (by omega) (by omega)).mp c_102
          refine lv_iconst (v := nI 0) hx hb dX7_isBetter_109 (by decide) ?_
          refine lv_goto (tgt := 124) hx hb dX7_isBetter_110 (by decide) ?_
          exact g_zret S hI hr hlocks (Nat.zero_le _) (Nat.zero_le _) (Or.inl rfl) dX7_isBetter_124 ⟨by unfold mBet; rw [if_pos c_34, if_pos c_81, if_neg c_97, decide_eq_false (Nat.not_lt.mpr c_102)]; rfl, rfl⟩
        · skip
          have c_102 : i1 < i2 := Nat.not_le.mp (fun z => c_102 ((nI_leI (a := i2) (b := i1) (by omega) (by omega)).mpr z))
          refine lv_iconst (v := nI 1) hx hb dX7_isBetter_105 (by decide) ?_
          refine lv_goto (tgt := 124) hx hb dX7_isBetter_106 (by decide) ?_
          exact g_zret S hI hr hlocks (Nat.zero_le _) (Nat.zero_le _) (Or.inr rfl) dX7_isBetter_124 ⟨by unfold mBet; rw [if_pos c_34, if_pos c_81, if_neg c_97, decide_eq_true c_102]; rfl, rfl⟩
    · skip
      have c_81 : ¬ (sA (yS y i1)) = (sA (yS y i2)) := fun z9 => c_81 ((sub_eq0 (by omega) (by omega)).mpr z9)
      refine lv_iload hx hb dX7_isBetter_84 (lv_at hl 0 rfl) ?_
      refine lv_if_ge (tgt := 93) hx hb dX7_isBetter_86 (by decide) (fun c_86 => ?_) (fun c_86 => ?_)
      · skip
        refine lv_iconst (v := nI 0) hx hb dX7_isBetter_93 (by decide) ?_
        exact g_zret S hI hr hlocks (Nat.zero_le _) (Nat.zero_le _) (Or.inl rfl) dX7_isBetter_94 ⟨by unfold mBet; rw [if_pos c_34, if_neg c_81, decide_eq_false (Nat.not_lt.mpr ((sub_ge0 (by omega) (by omega)).mp c_86))]; rfl, rfl⟩
      · skip
        refine lv_iconst (v := nI 1) hx hb dX7_isBetter_89 (by decide) ?_
        refine lv_goto (tgt := 94) hx hb dX7_isBetter_90 (by decide) ?_
        exact g_zret S hI hr hlocks (Nat.zero_le _) (Nat.zero_le _) (Or.inr rfl) dX7_isBetter_94 ⟨by unfold mBet; rw [if_pos c_34, if_neg c_81, decide_eq_true (Nat.not_le.mp (fun z9 => c_86 ((sub_ge0 (by omega) (by omega)).mpr z9)))]; rfl, rfl⟩
  · skip
    have c_34 : ¬ (kP (yK y j1)) = (kP (yK y j2)) := fun z9 => c_34 ((sub_eq0 (by omega) (by omega)).mpr z9)
    refine lv_iload hx hb dX7_isBetter_37 (lv_at hl 0 rfl) ?_
    refine lv_if_le (tgt := 46) hx hb dX7_isBetter_39 (by decide) (fun c_39 => ?_) (fun c_39 => ?_)
    · skip
      refine lv_iconst (v := nI 0) hx hb dX7_isBetter_46 (by decide) ?_
      exact g_zret S hI hr hlocks (Nat.zero_le _) (Nat.zero_le _) (Or.inl rfl) dX7_isBetter_47 ⟨by unfold mBet; rw [if_neg c_34, decide_eq_false (Nat.not_lt.mpr ((sub_le0 (by omega) (by omega)).mp c_39))]; rfl, rfl⟩
    · skip
      refine lv_iconst (v := nI 1) hx hb dX7_isBetter_42 (by decide) ?_
      refine lv_goto (tgt := 47) hx hb dX7_isBetter_43 (by decide) ?_
      exact g_zret S hI hr hlocks (Nat.zero_le _) (Nat.zero_le _) (Or.inr rfl) dX7_isBetter_47 ⟨by unfold mBet; rw [if_neg c_34, decide_eq_true (Nat.not_le.mp (fun z9 => c_39 ((sub_le0 (by omega) (by omega)).mpr z9)))]; rfl, rfl⟩
