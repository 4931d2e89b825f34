set_option maxHeartbeats 4000000 in
set_option maxRecDepth 100000 in
/-- many 0 -/
theorem c_many0Z (l : Launch) (K : gK) (G : gW) (L1 L2 : Nat → Nat → Nat) (M : Nat → Nat) (hy : Nat) (y : YV) (hlS : l.stackTraces = false) (hy0 : YardC K L1 L2 M hy G y) : gM l yX4_many wsX4_many 5 107 0 0 K [.ref hy, .int (nI 0)] G (oPost K L1 L2 M hy G (oMany y (nI 0))) (oX K L1 L2 M hy G (oMany y (nI 0)) (ex1 eIA)) := by
  refine gM.of (cc := cX4_many) (maxL := 2) (ret := (some .int)) (by decide) rfl (Nat.le_of_ble_eq_true rfl) ?_
  intro p e s m below meth c A S hr hlocks htab hname hE hA hI ls hl
  have hx := S.1
  have hb := S.2.1
  have hml := S.2.2.1
  have hl : lv_has ls 2 [(0, .ref hy), (1, .int (nI 0))] := hl
  have hs := hy0.2.1
  have hy9 := hy0.1
  have h44 := hs.1.2.2.2.1
  have h6 := hs.1.2.2.2.2.1
  have hf2 := hs.1.2.2.2.2.2
  have hc40 := hy0.2.2.2.2
  have ho : oMany y (nI 0) = (0, yMany y 0, y) := by unfold oMany; rw [if_pos (by decide), iN_nI (by decide)]
  obtain ⟨H, hHe⟩ : ∃ z, z = s.heap := ⟨_, rfl⟩
  obtain ⟨locs, hLe⟩ : ∃ z : List Loc, z = [] := ⟨_, rfl⟩
  rw [← hHe, ← hLe]
  have hI : gI K A s G H locs := by rw [hHe, hLe]; exact hI
  clear hHe hLe
  refine lv_iload_n hx hb dX4_many_0 rfl (lv_at hl 1 rfl) ?_
  refine lv_tableIn (tgt := 48) (off := 47) hx hb dX4_many_1 (by decide +kernel) (by decide +kernel) (by decide +kernel) (by decide) ?_
  refine lv_aload_n hx hb dX4_many_48 rfl (lv_at hl 0 rfl) ?_
  refine g_get S hE hI (C := RX4) (T := TX4) (N := 3) (ref := "StonecutterYard") (fun w h => (List.mem_cons_of_mem _ (List.mem_append_left _ (List.mem_append_left _ (List.mem_append_left _ (List.mem_append_left _ (List.mem_append_right _ h))))))) hy9 rfl 0 (by decide) (List.mem_cons_of_mem _ (List.mem_append_left _ (List.mem_append_left _ (List.mem_append_left _ (List.mem_append_left _ (List.mem_append_left _ (List.mem_append_left _ (List.mem_of_getElem? (i := 2) rfl)))))))) (fun _ h9 => h9) (v := .ref (L1 0 0)) rfl dX4_many_49 ?_
  refine g_getN S hE hI (C := RX3) (T := TX3) (N := 5) (ref := "StonecutterYard$Stock") (host := "StonecutterYard") (fun w h => (List.mem_cons_of_mem _ (List.mem_append_left _ (List.mem_append_left _ (List.mem_append_left _ (List.mem_append_right _ h)))))) hs.1.1 rfl 2 (by decide) (List.mem_of_getElem? (i := 0) rfl) (fun _ h9 => h9) (v := .int (nI (ySc y))) rfl dX4_many_52 ?_
  exact g_iret S hI hr hlocks (Nat.zero_le _) (Nat.zero_le _) dX4_many_55 (by rw [ho]; exact ⟨rfl, rfl, hy0, AgY.rf⟩)
set_option maxHeartbeats 4000000 in
set_option maxRecDepth 100000 in
/-- many 1 -/
theorem c_many1Z (l : Launch) (K : gK) (G : gW) (L1 L2 : Nat → Nat → Nat) (M : Nat → Nat) (hy : Nat) (y : YV) (hlS : l.stackTraces = false) (hy0 : YardC K L1 L2 M hy G y) : gM l yX4_many wsX4_many 5 107 0 0 K [.ref hy, .int (nI 1)] G (oPost K L1 L2 M hy G (oMany y (nI 1))) (oX K L1 L2 M hy G (oMany y (nI 1)) (ex1 eIA)) := by
  refine gM.of (cc := cX4_many) (maxL := 2) (ret := (some .int)) (by decide) rfl (Nat.le_of_ble_eq_true rfl) ?_
  intro p e s m below meth c A S hr hlocks htab hname hE hA hI ls hl
  have hx := S.1
  have hb := S.2.1
  have hml := S.2.2.1
  have hl : lv_has ls 2 [(0, .ref hy), (1, .int (nI 1))] := hl
  have hs := hy0.2.1
  have hy9 := hy0.1
  have h44 := hs.1.2.2.2.1
  have h6 := hs.1.2.2.2.2.1
  have hf2 := hs.1.2.2.2.2.2
  have hc40 := hy0.2.2.2.2
  have ho : oMany y (nI 1) = (0, yMany y 1, y) := by unfold oMany; rw [if_pos (by decide), iN_nI (by decide)]
  obtain ⟨H, hHe⟩ : ∃ z, z = s.heap := ⟨_, rfl⟩
  obtain ⟨locs, hLe⟩ : ∃ z : List Loc, z = [] := ⟨_, rfl⟩
  rw [← hHe, ← hLe]
  have hI : gI K A s G H locs := by rw [hHe, hLe]; exact hI
  clear hHe hLe
  refine lv_iload_n hx hb dX4_many_0 rfl (lv_at hl 1 rfl) ?_
  refine lv_tableIn (tgt := 56) (off := 55) hx hb dX4_many_1 (by decide +kernel) (by decide +kernel) (by decide +kernel) (by decide) ?_
  refine lv_aload_n hx hb dX4_many_56 rfl (lv_at hl 0 rfl) ?_
  refine g_get S hE hI (C := RX4) (T := TX4) (N := 3) (ref := "StonecutterYard") (fun w h => (List.mem_cons_of_mem _ (List.mem_append_left _ (List.mem_append_left _ (List.mem_append_left _ (List.mem_append_left _ (List.mem_append_right _ h))))))) hy9 rfl 0 (by decide) (List.mem_cons_of_mem _ (List.mem_append_left _ (List.mem_append_left _ (List.mem_append_left _ (List.mem_append_left _ (List.mem_append_left _ (List.mem_append_left _ (List.mem_of_getElem? (i := 2) rfl)))))))) (fun _ h9 => h9) (v := .ref (L1 0 0)) rfl dX4_many_57 ?_
  refine g_callV (As := []) (rest := []) (b := (L1 0 0)) (n := 0) S hE hI hA (c_X3_countThere l K _ true 1 L1 y hs) gX4_many_X3_countThere rfl (by decide +kernel) ⟨Nat.le_of_ble_eq_true rfl, Nat.le_of_ble_eq_true rfl⟩ (g_hro hE hI hs.1.1 rfl) rfl hl.1 rfl (Nat.le_of_ble_eq_true rfl) dX4_many_60 ⟨Nat.le_of_ble_eq_true rfl, Nat.le_of_ble_eq_true rfl⟩ (fun E ce q9 Gx H1 locs1 hx9 => hx9.elim) (fun rv Gc_60 H locs hp hI => ?_)
  obtain ⟨rfl, hq9⟩ := hp
  rw [hq9] at hI
  refine W.eq (g2 := F0 m 63 ls [.int (nI (yThere y))]) rfl ?_
  exact g_iret S hI hr hlocks (Nat.zero_le _) (Nat.zero_le _) dX4_many_63 (by rw [ho]; exact ⟨rfl, rfl, hy0, AgY.rf⟩)
set_option maxHeartbeats 4000000 in
set_option maxRecDepth 100000 in
/-- many 2 -/
theorem c_many2Z (l : Launch) (K : gK) (G : gW) (L1 L2 : Nat → Nat → Nat) (M : Nat → Nat) (hy : Nat) (y : YV) (hlS : l.stackTraces = false) (hy0 : YardC K L1 L2 M hy G y) : gM l yX4_many wsX4_many 5 107 0 0 K [.ref hy, .int (nI 2)] G (oPost K L1 L2 M hy G (oMany y (nI 2))) (oX K L1 L2 M hy G (oMany y (nI 2)) (ex1 eIA)) := by
  refine gM.of (cc := cX4_many) (maxL := 2) (ret := (some .int)) (by decide) rfl (Nat.le_of_ble_eq_true rfl) ?_
  intro p e s m below meth c A S hr hlocks htab hname hE hA hI ls hl
  have hx := S.1
  have hb := S.2.1
  have hml := S.2.2.1
  have hl : lv_has ls 2 [(0, .ref hy), (1, .int (nI 2))] := hl
  have hs := hy0.2.1
  have hy9 := hy0.1
  have h44 := hs.1.2.2.2.1
  have h6 := hs.1.2.2.2.2.1
  have hf2 := hs.1.2.2.2.2.2
  have hc40 := hy0.2.2.2.2
  have ho : oMany y (nI 2) = (0, yMany y 2, y) := by unfold oMany; rw [if_pos (by decide), iN_nI (by decide)]
  obtain ⟨H, hHe⟩ : ∃ z, z = s.heap := ⟨_, rfl⟩
  obtain ⟨locs, hLe⟩ : ∃ z : List Loc, z = [] := ⟨_, rfl⟩
  rw [← hHe, ← hLe]
  have hI : gI K A s G H locs := by rw [hHe, hLe]; exact hI
  clear hHe hLe
  refine lv_iload_n hx hb dX4_many_0 rfl (lv_at hl 1 rfl) ?_
  refine lv_tableIn (tgt := 64) (off := 63) hx hb dX4_many_1 (by decide +kernel) (by decide +kernel) (by decide +kernel) (by decide) ?_
  refine lv_aload_n hx hb dX4_many_64 rfl (lv_at hl 0 rfl) ?_
  refine g_get S hE hI (C := RX4) (T := TX4) (N := 3) (ref := "StonecutterYard") (fun w h => (List.mem_cons_of_mem _ (List.mem_append_left _ (List.mem_append_left _ (List.mem_append_left _ (List.mem_append_left _ (List.mem_append_right _ h))))))) hy9 rfl 0 (by decide) (List.mem_cons_of_mem _ (List.mem_append_left _ (List.mem_append_left _ (List.mem_append_left _ (List.mem_append_left _ (List.mem_append_left _ (List.mem_append_left _ (List.mem_of_getElem? (i := 2) rfl)))))))) (fun _ h9 => h9) (v := .ref (L1 0 0)) rfl dX4_many_65 ?_
  refine g_getN S hE hI (C := RX3) (T := TX3) (N := 5) (ref := "StonecutterYard$Stock") (host := "StonecutterYard") (fun w h => (List.mem_cons_of_mem _ (List.mem_append_left _ (List.mem_append_left _ (List.mem_append_left _ (List.mem_append_right _ h)))))) hs.1.1 rfl 3 (by decide) (List.mem_of_getElem? (i := 7) rfl) (fun _ h9 => h9) (v := .int (nI (yKc y))) rfl dX4_many_68 ?_
  exact g_iret S hI hr hlocks (Nat.zero_le _) (Nat.zero_le _) dX4_many_71 (by rw [ho]; exact ⟨rfl, rfl, hy0, AgY.rf⟩)
set_option maxHeartbeats 4000000 in
set_option maxRecDepth 100000 in
/-- many 3 -/
theorem c_many3Z (l : Launch) (K : gK) (G : gW) (L1 L2 : Nat → Nat → Nat) (M : Nat → Nat) (hy : Nat) (y : YV) (hlS : l.stackTraces = false) (hy0 : YardC K L1 L2 M hy G y) : gM l yX4_many wsX4_many 5 107 0 0 K [.ref hy, .int (nI 3)] G (oPost K L1 L2 M hy G (oMany y (nI 3))) (oX K L1 L2 M hy G (oMany y (nI 3)) (ex1 eIA)) := by
  refine gM.of (cc := cX4_many) (maxL := 2) (ret := (some .int)) (by decide) rfl (Nat.le_of_ble_eq_true rfl) ?_
  intro p e s m below meth c A S hr hlocks htab hname hE hA hI ls hl
  have hx := S.1
  have hb := S.2.1
  have hml := S.2.2.1
  have hl : lv_has ls 2 [(0, .ref hy), (1, .int (nI 3))] := hl
  have hs := hy0.2.1
  have hy9 := hy0.1
  have h44 := hs.1.2.2.2.1
  have h6 := hs.1.2.2.2.2.1
  have hf2 := hs.1.2.2.2.2.2
  have hc40 := hy0.2.2.2.2
  have ho : oMany y (nI 3) = (0, yMany y 3, y) := by unfold oMany; rw [if_pos (by decide), iN_nI (by decide)]
  obtain ⟨H, hHe⟩ : ∃ z, z = s.heap := ⟨_, rfl⟩
  obtain ⟨locs, hLe⟩ : ∃ z : List Loc, z = [] := ⟨_, rfl⟩
  rw [← hHe, ← hLe]
  have hI : gI K A s G H locs := by rw [hHe, hLe]; exact hI
  clear hHe hLe
  refine lv_iload_n hx hb dX4_many_0 rfl (lv_at hl 1 rfl) ?_
  refine lv_tableIn (tgt := 72) (off := 71) hx hb dX4_many_1 (by decide +kernel) (by decide +kernel) (by decide +kernel) (by decide) ?_
  refine lv_aload_n hx hb dX4_many_72 rfl (lv_at hl 0 rfl) ?_
  refine g_get S hE hI (C := RX4) (T := TX4) (N := 3) (ref := "StonecutterYard") (fun w h => (List.mem_cons_of_mem _ (List.mem_append_left _ (List.mem_append_left _ (List.mem_append_left _ (List.mem_append_left _ (List.mem_append_right _ h))))))) hy9 rfl 0 (by decide) (List.mem_cons_of_mem _ (List.mem_append_left _ (List.mem_append_left _ (List.mem_append_left _ (List.mem_append_left _ (List.mem_append_left _ (List.mem_append_left _ (List.mem_of_getElem? (i := 2) rfl)))))))) (fun _ h9 => h9) (v := .ref (L1 0 0)) rfl dX4_many_73 ?_
  refine g_callV (As := []) (rest := []) (b := (L1 0 0)) (n := 0) S hE hI hA (c_X3_countTaken l K _ true 1 L1 y hs) gX4_many_X3_countTaken rfl (by decide +kernel) ⟨Nat.le_of_ble_eq_true rfl, Nat.le_of_ble_eq_true rfl⟩ (g_hro hE hI hs.1.1 rfl) rfl hl.1 rfl (Nat.le_of_ble_eq_true rfl) dX4_many_76 ⟨Nat.le_of_ble_eq_true rfl, Nat.le_of_ble_eq_true rfl⟩ (fun E ce q9 Gx H1 locs1 hx9 => hx9.elim) (fun rv Gc_76 H locs hp hI => ?_)
  obtain ⟨rfl, hq9⟩ := hp
  rw [hq9] at hI
  refine W.eq (g2 := F0 m 79 ls [.int (nI (yTaken y))]) rfl ?_
  exact g_iret S hI hr hlocks (Nat.zero_le _) (Nat.zero_le _) dX4_many_79 (by rw [ho]; exact ⟨rfl, rfl, hy0, AgY.rf⟩)
set_option maxHeartbeats 4000000 in
set_option maxRecDepth 100000 in
/-- many 4 -/
theorem c_many4Z (l : Launch) (K : gK) (G : gW) (L1 L2 : Nat → Nat → Nat) (M : Nat → Nat) (hy : Nat) (y : YV) (hlS : l.stackTraces = false) (hy0 : YardC K L1 L2 M hy G y) : gM l yX4_many wsX4_many 5 107 0 0 K [.ref hy, .int (nI 4)] G (oPost K L1 L2 M hy G (oMany y (nI 4))) (oX K L1 L2 M hy G (oMany y (nI 4)) (ex1 eIA)) := by
  refine gM.of (cc := cX4_many) (maxL := 2) (ret := (some .int)) (by decide) rfl (Nat.le_of_ble_eq_true rfl) ?_
  intro p e s m below meth c A S hr hlocks htab hname hE hA hI ls hl
  have hx := S.1
  have hb := S.2.1
  have hml := S.2.2.1
  have hl : lv_has ls 2 [(0, .ref hy), (1, .int (nI 4))] := hl
  have hs := hy0.2.1
  have hy9 := hy0.1
  have h44 := hs.1.2.2.2.1
  have h6 := hs.1.2.2.2.2.1
  have hf2 := hs.1.2.2.2.2.2
  have hc40 := hy0.2.2.2.2
  have ho : oMany y (nI 4) = (0, yMany y 4, y) := by unfold oMany; rw [if_pos (by decide), iN_nI (by decide)]
  obtain ⟨H, hHe⟩ : ∃ z, z = s.heap := ⟨_, rfl⟩
  obtain ⟨locs, hLe⟩ : ∃ z : List Loc, z = [] := ⟨_, rfl⟩
  rw [← hHe, ← hLe]
  have hI : gI K A s G H locs := by rw [hHe, hLe]; exact hI
  clear hHe hLe
  refine lv_iload_n hx hb dX4_many_0 rfl (lv_at hl 1 rfl) ?_
  refine lv_tableIn (tgt := 80) (off := 79) hx hb dX4_many_1 (by decide +kernel) (by decide +kernel) (by decide +kernel) (by decide) ?_
  refine lv_aload_n hx hb dX4_many_80 rfl (lv_at hl 0 rfl) ?_
  refine g_get S hE hI (C := RX4) (T := TX4) (N := 3) (ref := "StonecutterYard") (fun w h => (List.mem_cons_of_mem _ (List.mem_append_left _ (List.mem_append_left _ (List.mem_append_left _ (List.mem_append_left _ (List.mem_append_right _ h))))))) hy9 rfl 0 (by decide) (List.mem_cons_of_mem _ (List.mem_append_left _ (List.mem_append_left _ (List.mem_append_left _ (List.mem_append_left _ (List.mem_append_left _ (List.mem_append_left _ (List.mem_of_getElem? (i := 2) rfl)))))))) (fun _ h9 => h9) (v := .ref (L1 0 0)) rfl dX4_many_81 ?_
  refine g_callV (As := []) (rest := []) (b := (L1 0 0)) (n := 0) S hE hI hA (c_X3_sumPaid l K _ true 1 L1 y hs) gX4_many_X3_sumPaid rfl (by decide +kernel) ⟨Nat.le_of_ble_eq_true rfl, Nat.le_of_ble_eq_true rfl⟩ (g_hro hE hI hs.1.1 rfl) rfl hl.1 rfl (Nat.le_of_ble_eq_true rfl) dX4_many_84 ⟨Nat.le_of_ble_eq_true rfl, Nat.le_of_ble_eq_true rfl⟩ (fun E ce q9 Gx H1 locs1 hx9 => hx9.elim) (fun rv Gc_84 H locs hp hI => ?_)
  obtain ⟨rfl, hq9⟩ := hp
  rw [hq9] at hI
  refine W.eq (g2 := F0 m 87 ls [.int (nI (yPaid y))]) rfl ?_
  exact g_iret S hI hr hlocks (Nat.zero_le _) (Nat.zero_le _) dX4_many_87 (by rw [ho]; exact ⟨rfl, rfl, hy0, AgY.rf⟩)
set_option maxHeartbeats 4000000 in
set_option maxRecDepth 100000 in
/-- many 5 -/
theorem c_many5Z (l : Launch) (K : gK) (G : gW) (L1 L2 : Nat → Nat → Nat) (M : Nat → Nat) (hy : Nat) (y : YV) (hlS : l.stackTraces = false) (hy0 : YardC K L1 L2 M hy G y) : gM l yX4_many wsX4_many 5 107 0 0 K [.ref hy, .int (nI 5)] G (oPost K L1 L2 M hy G (oMany y (nI 5))) (oX K L1 L2 M hy G (oMany y (nI 5)) (ex1 eIA)) := by
  refine gM.of (cc := cX4_many) (maxL := 2) (ret := (some .int)) (by decide) rfl (Nat.le_of_ble_eq_true rfl) ?_
  intro p e s m below meth c A S hr hlocks htab hname hE hA hI ls hl
  have hx := S.1
  have hb := S.2.1
  have hml := S.2.2.1
  have hl : lv_has ls 2 [(0, .ref hy), (1, .int (nI 5))] := hl
  have hs := hy0.2.1
  have hy9 := hy0.1
  have h44 := hs.1.2.2.2.1
  have h6 := hs.1.2.2.2.2.1
  have hf2 := hs.1.2.2.2.2.2
  have hc40 := hy0.2.2.2.2
  have ho : oMany y (nI 5) = (0, yMany y 5, y) := by unfold oMany; rw [if_pos (by decide), iN_nI (by decide)]
  obtain ⟨H, hHe⟩ : ∃ z, z = s.heap := ⟨_, rfl⟩
  obtain ⟨locs, hLe⟩ : ∃ z : List Loc, z = [] := ⟨_, rfl⟩
  rw [← hHe, ← hLe]
  have hI : gI K A s G H locs := by rw [hHe, hLe]; exact hI
  clear hHe hLe
  refine lv_iload_n hx hb dX4_many_0 rfl (lv_at hl 1 rfl) ?_
  refine lv_tableIn (tgt := 88) (off := 87) hx hb dX4_many_1 (by decide +kernel) (by decide +kernel) (by decide +kernel) (by decide) ?_
  refine lv_aload_n hx hb dX4_many_88 rfl (lv_at hl 0 rfl) ?_
  refine g_get S hE hI (C := RX4) (T := TX4) (N := 3) (ref := "StonecutterYard") (fun w h => (List.mem_cons_of_mem _ (List.mem_append_left _ (List.mem_append_left _ (List.mem_append_left _ (List.mem_append_left _ (List.mem_append_right _ h))))))) hy9 rfl 0 (by decide) (List.mem_cons_of_mem _ (List.mem_append_left _ (List.mem_append_left _ (List.mem_append_left _ (List.mem_append_left _ (List.mem_append_left _ (List.mem_append_left _ (List.mem_of_getElem? (i := 2) rfl)))))))) (fun _ h9 => h9) (v := .ref (L1 0 0)) rfl dX4_many_89 ?_
  refine g_callV (As := []) (rest := []) (b := (L1 0 0)) (n := 0) S hE hI hA (c_X3_waste l K _ true 1 L1 y hs) gX4_many_X3_waste rfl (by decide +kernel) ⟨Nat.le_of_ble_eq_true rfl, Nat.le_of_ble_eq_true rfl⟩ (g_hro hE hI hs.1.1 rfl) rfl hl.1 rfl (Nat.le_of_ble_eq_true rfl) dX4_many_92 ⟨Nat.le_of_ble_eq_true rfl, Nat.le_of_ble_eq_true rfl⟩ (fun E ce q9 Gx H1 locs1 hx9 => hx9.elim) (fun rv Gc_92 H locs hp hI => ?_)
  obtain ⟨rfl, hq9⟩ := hp
  rw [hq9] at hI
  refine W.eq (g2 := F0 m 95 ls [.int (yWaste y)]) rfl ?_
  exact g_iret S hI hr hlocks (Nat.zero_le _) (Nat.zero_le _) dX4_many_95 (by rw [ho]; exact ⟨rfl, rfl, hy0, AgY.rf⟩)
set_option maxHeartbeats 4000000 in
set_option maxRecDepth 100000 in
/-- many 6 -/
theorem c_many6Z (l : Launch) (K : gK) (G : gW) (L1 L2 : Nat → Nat → Nat) (M : Nat → Nat) (hy : Nat) (y : YV) (hlS : l.stackTraces = false) (hy0 : YardC K L1 L2 M hy G y) : gM l yX4_many wsX4_many 5 107 0 0 K [.ref hy, .int (nI 6)] G (oPost K L1 L2 M hy G (oMany y (nI 6))) (oX K L1 L2 M hy G (oMany y (nI 6)) (ex1 eIA)) := by
  refine gM.of (cc := cX4_many) (maxL := 2) (ret := (some .int)) (by decide) rfl (Nat.le_of_ble_eq_true rfl) ?_
  intro p e s m below meth c A S hr hlocks htab hname hE hA hI ls hl
  have hx := S.1
  have hb := S.2.1
  have hml := S.2.2.1
  have hl : lv_has ls 2 [(0, .ref hy), (1, .int (nI 6))] := hl
  have hs := hy0.2.1
  have hy9 := hy0.1
  have h44 := hs.1.2.2.2.1
  have h6 := hs.1.2.2.2.2.1
  have hf2 := hs.1.2.2.2.2.2
  have hc40 := hy0.2.2.2.2
  have ho : oMany y (nI 6) = (0, yMany y 6, y) := by unfold oMany; rw [if_pos (by decide), iN_nI (by decide)]
  obtain ⟨H, hHe⟩ : ∃ z, z = s.heap := ⟨_, rfl⟩
  obtain ⟨locs, hLe⟩ : ∃ z : List Loc, z = [] := ⟨_, rfl⟩
  rw [← hHe, ← hLe]
  have hI : gI K A s G H locs := by rw [hHe, hLe]; exact hI
  clear hHe hLe
  refine lv_iload_n hx hb dX4_many_0 rfl (lv_at hl 1 rfl) ?_
  refine lv_tableIn (tgt := 96) (off := 95) hx hb dX4_many_1 (by decide +kernel) (by decide +kernel) (by decide +kernel) (by decide) ?_
  refine lv_aload_n hx hb dX4_many_96 rfl (lv_at hl 0 rfl) ?_
  refine g_get S hE hI (C := RX4) (T := TX4) (N := 3) (ref := "StonecutterYard") (fun w h => (List.mem_cons_of_mem _ (List.mem_append_left _ (List.mem_append_left _ (List.mem_append_left _ (List.mem_append_left _ (List.mem_append_right _ h))))))) hy9 rfl 0 (by decide) (List.mem_cons_of_mem _ (List.mem_append_left _ (List.mem_append_left _ (List.mem_append_left _ (List.mem_append_left _ (List.mem_append_left _ (List.mem_append_left _ (List.mem_of_getElem? (i := 2) rfl)))))))) (fun _ h9 => h9) (v := .ref (L1 0 0)) rfl dX4_many_97 ?_
  refine g_callV (As := []) (rest := []) (b := (L1 0 0)) (n := 0) S hE hI hA (c_X3_countWanted l K _ true 1 L1 y hs) gX4_many_X3_countWanted rfl (by decide +kernel) ⟨Nat.le_of_ble_eq_true rfl, Nat.le_of_ble_eq_true rfl⟩ (g_hro hE hI hs.1.1 rfl) rfl hl.1 rfl (Nat.le_of_ble_eq_true rfl) dX4_many_100 ⟨Nat.le_of_ble_eq_true rfl, Nat.le_of_ble_eq_true rfl⟩ (fun E ce q9 Gx H1 locs1 hx9 => hx9.elim) (fun rv Gc_100 H locs hp hI => ?_)
  obtain ⟨rfl, hq9⟩ := hp
  rw [hq9] at hI
  refine W.eq (g2 := F0 m 103 ls [.int (nI (yWanted y))]) rfl ?_
  exact g_iret S hI hr hlocks (Nat.zero_le _) (Nat.zero_le _) dX4_many_103 (by rw [ho]; exact ⟨rfl, rfl, hy0, AgY.rf⟩)
set_option maxHeartbeats 4000000 in
set_option maxRecDepth 100000 in
/-- many 7 -/
theorem c_many7Z (l : Launch) (K : gK) (G : gW) (L1 L2 : Nat → Nat → Nat) (M : Nat → Nat) (hy : Nat) (y : YV) (hlS : l.stackTraces = false) (hy0 : YardC K L1 L2 M hy G y) : gM l yX4_many wsX4_many 5 107 0 0 K [.ref hy, .int (nI 7)] G (oPost K L1 L2 M hy G (oMany y (nI 7))) (oX K L1 L2 M hy G (oMany y (nI 7)) (ex1 eIA)) := by
  refine gM.of (cc := cX4_many) (maxL := 2) (ret := (some .int)) (by decide) rfl (Nat.le_of_ble_eq_true rfl) ?_
  intro p e s m below meth c A S hr hlocks htab hname hE hA hI ls hl
  have hx := S.1
  have hb := S.2.1
  have hml := S.2.2.1
  have hl : lv_has ls 2 [(0, .ref hy), (1, .int (nI 7))] := hl
  have hs := hy0.2.1
  have hy9 := hy0.1
  have h44 := hs.1.2.2.2.1
  have h6 := hs.1.2.2.2.2.1
  have hf2 := hs.1.2.2.2.2.2
  have hc40 := hy0.2.2.2.2
  have ho : oMany y (nI 7) = (0, yMany y 7, y) := by unfold oMany; rw [if_pos (by decide), iN_nI (by decide)]
  obtain ⟨H, hHe⟩ : ∃ z, z = s.heap := ⟨_, rfl⟩
  obtain ⟨locs, hLe⟩ : ∃ z : List Loc, z = [] := ⟨_, rfl⟩
  rw [← hHe, ← hLe]
  have hI : gI K A s G H locs := by rw [hHe, hLe]; exact hI
  clear hHe hLe
  refine lv_iload_n hx hb dX4_many_0 rfl (lv_at hl 1 rfl) ?_
  refine lv_tableIn (tgt := 104) (off := 103) hx hb dX4_many_1 (by decide +kernel) (by decide +kernel) (by decide +kernel) (by decide) ?_
  refine lv_aload_n hx hb dX4_many_104 rfl (lv_at hl 0 rfl) ?_
  refine g_get S hE hI (C := RX4) (T := TX4) (N := 3) (ref := "StonecutterYard") (fun w h => (List.mem_cons_of_mem _ (List.mem_append_left _ (List.mem_append_left _ (List.mem_append_left _ (List.mem_append_left _ (List.mem_append_right _ h))))))) hy9 rfl 0 (by decide) (List.mem_cons_of_mem _ (List.mem_append_left _ (List.mem_append_left _ (List.mem_append_left _ (List.mem_append_left _ (List.mem_append_left _ (List.mem_append_left _ (List.mem_of_getElem? (i := 2) rfl)))))))) (fun _ h9 => h9) (v := .ref (L1 0 0)) rfl dX4_many_105 ?_
  refine g_callV (As := []) (rest := []) (b := (L1 0 0)) (n := 0) S hE hI hA (c_X3_areaThere l K _ true 1 L1 y hs) gX4_many_X3_areaThere rfl (by decide +kernel) ⟨Nat.le_of_ble_eq_true rfl, Nat.le_of_ble_eq_true rfl⟩ (g_hro hE hI hs.1.1 rfl) rfl hl.1 rfl (Nat.le_of_ble_eq_true rfl) dX4_many_108 ⟨Nat.le_of_ble_eq_true rfl, Nat.le_of_ble_eq_true rfl⟩ (fun E ce q9 Gx H1 locs1 hx9 => hx9.elim) (fun rv Gc_108 H locs hp hI => ?_)
  obtain ⟨rfl, hq9⟩ := hp
  rw [hq9] at hI
  refine W.eq (g2 := F0 m 111 ls [.int (nI (yAreaT y))]) rfl ?_
  exact g_iret S hI hr hlocks (Nat.zero_le _) (Nat.zero_le _) dX4_many_111 (by rw [ho]; exact ⟨rfl, rfl, hy0, AgY.rf⟩)
set_option maxHeartbeats 4000000 in
set_option maxRecDepth 100000 in
/-- ofSlab 0 -/
theorem c_ofSlab0Z (l : Launch) (K : gK) (G : gW) (L1 L2 : Nat → Nat → Nat) (M : Nat → Nat) (hy : Nat) (y : YV) (i : Nat) (hlS : l.stackTraces = false) (hy0 : YardC K L1 L2 M hy G y) (hi : i < ySc y) : gM l yX4_ofSlab wsX4_ofSlab 4 83 0 0 K [.ref hy, .int (nI i), .int (nI 0)] G (oPost K L1 L2 M hy G (oOfSlab y (nI i) (nI 0))) (oX K L1 L2 M hy G (oOfSlab y (nI i) (nI 0)) (ex2 eIO eIA)) := by
  refine gM.of (cc := cX4_ofSlab) (maxL := 4) (ret := (some .int)) (by decide) rfl (Nat.le_of_ble_eq_true rfl) ?_
  intro p e s m below meth c A S hr hlocks htab hname hE hA hI ls hl
  have hx := S.1
  have hb := S.2.1
  have hml := S.2.2.1
  have hl : lv_has ls 4 [(0, .ref hy), (1, .int (nI i)), (2, .int (nI 0))] := hl
  have hs := hy0.2.1
  have hy9 := hy0.1
  have h44 := hs.1.2.2.2.1
  have h6 := hs.1.2.2.2.2.1
  have hf2 := hs.1.2.2.2.2.2
  have hc40 := hy0.2.2.2.2
  have hri : inR (nI i) (ySc y) = true := inR_nI hi (by omega)
  have hiN : iN (nI i) = i := iN_nI (by omega)
  obtain ⟨P, hsl, hpt, hpk, hsok⟩ := hs.slab hi
  have hsok9 := hsok
  obtain ⟨s1, s2, s3, s4, s5, s6, s7, s8⟩ := hsok9
  have ho : oOfSlab y (nI i) (nI 0) = (0, sOf (yS y i) 0, y) := by unfold oOfSlab; rw [if_pos hri, if_pos (by decide), hiN, iN_nI (by decide)]
  obtain ⟨H, hHe⟩ : ∃ z, z = s.heap := ⟨_, rfl⟩
  obtain ⟨locs, hLe⟩ : ∃ z : List Loc, z = [] := ⟨_, rfl⟩
  rw [← hHe, ← hLe]
  have hI : gI K A s G H locs := by rw [hHe, hLe]; exact hI
  clear hHe hLe
  refine lv_aload_n hx hb dX4_ofSlab_0 rfl (lv_at hl 0 rfl) ?_
  refine lv_iload_n hx hb dX4_ofSlab_1 rfl (lv_at hl 1 rfl) ?_
  refine g_callV (As := [.int (nI i)]) (rest := []) (b := hy) (n := 1) S hE hI hA (c_slabOfIn l K _ L1 L2 M hy y i hlS hy0 hi) gX4_ofSlab_X4_slabOf rfl (by decide +kernel) ⟨Nat.le_of_ble_eq_true rfl, Nat.le_of_ble_eq_true rfl⟩ (g_hro hE hI hy9 rfl) rfl hl.1 rfl (Nat.le_of_ble_eq_true rfl) dX4_ofSlab_2 ⟨Nat.le_of_ble_eq_true rfl, Nat.le_of_ble_eq_true rfl⟩ (fun E ce q9 Gx H locs hx9 hI hce hcv hcl => ?_) (fun rv Gc_2 H locs hp hI => ?_)
  · skip
    exact hx9.elim
  obtain ⟨rfl, hq9⟩ := hp
  rw [hq9] at hI
  refine W.eq (g2 := F0 m 5 ls [.ref (L1 3 i)]) rfl ?_
  refine lv_astore_n (lv' := [(3, .ref (L1 3 i)), (0, .ref hy), (1, .int (nI i)), (2, .int (nI 0))]) hx hb dX4_ofSlab_5 rfl hl (by decide) rfl (fun ls hl => ?_)
  refine lv_iload_n hx hb dX4_ofSlab_6 rfl (lv_at hl 3 rfl) ?_
  refine lv_tableIn (tgt := 44) (off := 37) hx hb dX4_ofSlab_7 (by decide +kernel) (by decide +kernel) (by decide +kernel) (by decide) ?_
  refine lv_aload_n hx hb dX4_ofSlab_44 rfl (lv_at hl 0 rfl) ?_
  refine g_getN S hE hI (C := RX2) (T := TX2) (N := 7) (ref := "StonecutterYard$Slab") (host := "StonecutterYard") (fun w h => (List.mem_cons_of_mem _ (List.mem_append_left _ (List.mem_append_left _ (List.mem_append_left _ (List.mem_append_left _ (List.mem_append_right _ h))))))) hsl rfl 0 (by decide) (List.mem_of_getElem? (i := 3) rfl) (fun _ h9 => h9) (v := .int (nI (sW (yS y i)))) rfl dX4_ofSlab_45 ?_
  exact g_iret S hI hr hlocks (Nat.zero_le _) (Nat.zero_le _) dX4_ofSlab_48 (by rw [ho]; exact ⟨rfl, rfl, hy0, AgY.rf⟩)
set_option maxHeartbeats 4000000 in
set_option maxRecDepth 100000 in
/-- ofSlab 1 -/
theorem c_ofSlab1Z (l : Launch) (K : gK) (G : gW) (L1 L2 : Nat → Nat → Nat) (M : Nat → Nat) (hy : Nat) (y : YV) (i : Nat) (hlS : l.stackTraces = false) (hy0 : YardC K L1 L2 M hy G y) (hi : i < ySc y) : gM l yX4_ofSlab wsX4_ofSlab 4 83 0 0 K [.ref hy, .int (nI i), .int (nI 1)] G (oPost K L1 L2 M hy G (oOfSlab y (nI i) (nI 1))) (oX K L1 L2 M hy G (oOfSlab y (nI i) (nI 1)) (ex2 eIO eIA)) := by
  refine gM.of (cc := cX4_ofSlab) (maxL := 4) (ret := (some .int)) (by decide) rfl (Nat.le_of_ble_eq_true rfl) ?_
  intro p e s m below meth c A S hr hlocks htab hname hE hA hI ls hl
  have hx := S.1
  have hb := S.2.1
  have hml := S.2.2.1
  have hl : lv_has ls 4 [(0, .ref hy), (1, .int (nI i)), (2, .int (nI 1))] := hl
  have hs := hy0.2.1
  have hy9 := hy0.1
  have h44 := hs.1.2.2.2.1
  have h6 := hs.1.2.2.2.2.1
  have hf2 := hs.1.2.2.2.2.2
  have hc40 := hy0.2.2.2.2
  have hri : inR (nI i) (ySc y) = true := inR_nI hi (by omega)
  have hiN : iN (nI i) = i := iN_nI (by omega)
  obtain ⟨P, hsl, hpt, hpk, hsok⟩ := hs.slab hi
  have hsok9 := hsok
  obtain ⟨s1, s2, s3, s4, s5, s6, s7, s8⟩ := hsok9
  have ho : oOfSlab y (nI i) (nI 1) = (0, sOf (yS y i) 1, y) := by unfold oOfSlab; rw [if_pos hri, if_pos (by decide), hiN, iN_nI (by decide)]
  obtain ⟨H, hHe⟩ : ∃ z, z = s.heap := ⟨_, rfl⟩
  obtain ⟨locs, hLe⟩ : ∃ z : List Loc, z = [] := ⟨_, rfl⟩
  rw [← hHe, ← hLe]
  have hI : gI K A s G H locs := by rw [hHe, hLe]; exact hI
  clear hHe hLe
  refine lv_aload_n hx hb dX4_ofSlab_0 rfl (lv_at hl 0 rfl) ?_
  refine lv_iload_n hx hb dX4_ofSlab_1 rfl (lv_at hl 1 rfl) ?_
  refine g_callV (As := [.int (nI i)]) (rest := []) (b := hy) (n := 1) S hE hI hA (c_slabOfIn l K _ L1 L2 M hy y i hlS hy0 hi) gX4_ofSlab_X4_slabOf rfl (by decide +kernel) ⟨Nat.le_of_ble_eq_true rfl, Nat.le_of_ble_eq_true rfl⟩ (g_hro hE hI hy9 rfl) rfl hl.1 rfl (Nat.le_of_ble_eq_true rfl) dX4_ofSlab_2 ⟨Nat.le_of_ble_eq_true rfl, Nat.le_of_ble_eq_true rfl⟩ (fun E ce q9 Gx H locs hx9 hI hce hcv hcl => ?_) (fun rv Gc_2 H locs hp hI => ?_)
  · skip
    exact hx9.elim
  obtain ⟨rfl, hq9⟩ := hp
  rw [hq9] at hI
  refine W.eq (g2 := F0 m 5 ls [.ref (L1 3 i)]) rfl ?_
  refine lv_astore_n (lv' := [(3, .ref (L1 3 i)), (0, .ref hy), (1, .int (nI i)), (2, .int (nI 1))]) hx hb dX4_ofSlab_5 rfl hl (by decide) rfl (fun ls hl => ?_)
  refine lv_iload_n hx hb dX4_ofSlab_6 rfl (lv_at hl 3 rfl) ?_
  refine lv_tableIn (tgt := 49) (off := 42) hx hb dX4_ofSlab_7 (by decide +kernel) (by decide +kernel) (by decide +kernel) (by decide) ?_
  refine lv_aload_n hx hb dX4_ofSlab_49 rfl (lv_at hl 0 rfl) ?_
  refine g_getN S hE hI (C := RX2) (T := TX2) (N := 7) (ref := "StonecutterYard$Slab") (host := "StonecutterYard") (fun w h => (List.mem_cons_of_mem _ (List.mem_append_left _ (List.mem_append_left _ (List.mem_append_left _ (List.mem_append_left _ (List.mem_append_right _ h))))))) hsl rfl 1 (by decide) (List.mem_of_getElem? (i := 4) rfl) (fun _ h9 => h9) (v := .int (nI (sH (yS y i)))) rfl dX4_ofSlab_50 ?_
  exact g_iret S hI hr hlocks (Nat.zero_le _) (Nat.zero_le _) dX4_ofSlab_53 (by rw [ho]; exact ⟨rfl, rfl, hy0, AgY.rf⟩)
set_option maxHeartbeats 4000000 in
set_option maxRecDepth 100000 in
/-- ofSlab 2 -/
theorem c_ofSlab2Z (l : Launch) (K : gK) (G : gW) (L1 L2 : Nat → Nat → Nat) (M : Nat → Nat) (hy : Nat) (y : YV) (i : Nat) (hlS : l.stackTraces = false) (hy0 : YardC K L1 L2 M hy G y) (hi : i < ySc y) : gM l yX4_ofSlab wsX4_ofSlab 4 83 0 0 K [.ref hy, .int (nI i), .int (nI 2)] G (oPost K L1 L2 M hy G (oOfSlab y (nI i) (nI 2))) (oX K L1 L2 M hy G (oOfSlab y (nI i) (nI 2)) (ex2 eIO eIA)) := by
  refine gM.of (cc := cX4_ofSlab) (maxL := 4) (ret := (some .int)) (by decide) rfl (Nat.le_of_ble_eq_true rfl) ?_
  intro p e s m below meth c A S hr hlocks htab hname hE hA hI ls hl
  have hx := S.1
  have hb := S.2.1
  have hml := S.2.2.1
  have hl : lv_has ls 4 [(0, .ref hy), (1, .int (nI i)), (2, .int (nI 2))] := hl
  have hs := hy0.2.1
  have hy9 := hy0.1
  have h44 := hs.1.2.2.2.1
  have h6 := hs.1.2.2.2.2.1
  have hf2 := hs.1.2.2.2.2.2
  have hc40 := hy0.2.2.2.2
  have hri : inR (nI i) (ySc y) = true := inR_nI hi (by omega)
  have hiN : iN (nI i) = i := iN_nI (by omega)
  obtain ⟨P, hsl, hpt, hpk, hsok⟩ := hs.slab hi
  have hsok9 := hsok
  obtain ⟨s1, s2, s3, s4, s5, s6, s7, s8⟩ := hsok9
  have ho : oOfSlab y (nI i) (nI 2) = (0, sOf (yS y i) 2, y) := by unfold oOfSlab; rw [if_pos hri, if_pos (by decide), hiN, iN_nI (by decide)]
  obtain ⟨H, hHe⟩ : ∃ z, z = s.heap := ⟨_, rfl⟩
  obtain ⟨locs, hLe⟩ : ∃ z : List Loc, z = [] := ⟨_, rfl⟩
  rw [← hHe, ← hLe]
  have hI : gI K A s G H locs := by rw [hHe, hLe]; exact hI
  clear hHe hLe
  refine lv_aload_n hx hb dX4_ofSlab_0 rfl (lv_at hl 0 rfl) ?_
  refine lv_iload_n hx hb dX4_ofSlab_1 rfl (lv_at hl 1 rfl) ?_
  refine g_callV (As := [.int (nI i)]) (rest := []) (b := hy) (n := 1) S hE hI hA (c_slabOfIn l K _ L1 L2 M hy y i hlS hy0 hi) gX4_ofSlab_X4_slabOf rfl (by decide +kernel) ⟨Nat.le_of_ble_eq_true rfl, Nat.le_of_ble_eq_true rfl⟩ (g_hro hE hI hy9 rfl) rfl hl.1 rfl (Nat.le_of_ble_eq_true rfl) dX4_ofSlab_2 ⟨Nat.le_of_ble_eq_true rfl, Nat.le_of_ble_eq_true rfl⟩ (fun E ce q9 Gx H locs hx9 hI hce hcv hcl => ?_) (fun rv Gc_2 H locs hp hI => ?_)
  · skip
    exact hx9.elim
  obtain ⟨rfl, hq9⟩ := hp
  rw [hq9] at hI
  refine W.eq (g2 := F0 m 5 ls [.ref (L1 3 i)]) rfl ?_
  refine lv_astore_n (lv' := [(3, .ref (L1 3 i)), (0, .ref hy), (1, .int (nI i)), (2, .int (nI 2))]) hx hb dX4_ofSlab_5 rfl hl (by decide) rfl (fun ls hl => ?_)
  refine lv_iload_n hx hb dX4_ofSlab_6 rfl (lv_at hl 3 rfl) ?_
  refine lv_tableIn (tgt := 54) (off := 47) hx hb dX4_ofSlab_7 (by decide +kernel) (by decide +kernel) (by decide +kernel) (by decide) ?_
  refine lv_aload_n hx hb dX4_ofSlab_54 rfl (lv_at hl 0 rfl) ?_
  refine g_getN S hE hI (C := RX2) (T := TX2) (N := 7) (ref := "StonecutterYard$Slab") (host := "StonecutterYard") (fun w h => (List.mem_cons_of_mem _ (List.mem_append_left _ (List.mem_append_left _ (List.mem_append_left _ (List.mem_append_left _ (List.mem_append_right _ h))))))) hsl rfl 2 (by decide) (List.mem_of_getElem? (i := 5) rfl) (fun _ h9 => h9) (v := .int (nI (sG (yS y i)))) rfl dX4_ofSlab_55 ?_
  exact g_iret S hI hr hlocks (Nat.zero_le _) (Nat.zero_le _) dX4_ofSlab_58 (by rw [ho]; exact ⟨rfl, rfl, hy0, AgY.rf⟩)
set_option maxHeartbeats 4000000 in
set_option maxRecDepth 100000 in
/-- ofSlab 3 -/
theorem c_ofSlab3Z (l : Launch) (K : gK) (G : gW) (L1 L2 : Nat → Nat → Nat) (M : Nat → Nat) (hy : Nat) (y : YV) (i : Nat) (hlS : l.stackTraces = false) (hy0 : YardC K L1 L2 M hy G y) (hi : i < ySc y) : gM l yX4_ofSlab wsX4_ofSlab 4 83 0 0 K [.ref hy, .int (nI i), .int (nI 3)] G (oPost K L1 L2 M hy G (oOfSlab y (nI i) (nI 3))) (oX K L1 L2 M hy G (oOfSlab y (nI i) (nI 3)) (ex2 eIO eIA)) := by
  refine gM.of (cc := cX4_ofSlab) (maxL := 4) (ret := (some .int)) (by decide) rfl (Nat.le_of_ble_eq_true rfl) ?_
  intro p e s m below meth c A S hr hlocks htab hname hE hA hI ls hl
  have hx := S.1
  have hb := S.2.1
  have hml := S.2.2.1
  have hl : lv_has ls 4 [(0, .ref hy), (1, .int (nI i)), (2, .int (nI 3))] := hl
  have hs := hy0.2.1
  have hy9 := hy0.1
  have h44 := hs.1.2.2.2.1
  have h6 := hs.1.2.2.2.2.1
  have hf2 := hs.1.2.2.2.2.2
  have hc40 := hy0.2.2.2.2
  have hri : inR (nI i) (ySc y) = true := inR_nI hi (by omega)
  have hiN : iN (nI i) = i := iN_nI (by omega)
  obtain ⟨P, hsl, hpt, hpk, hsok⟩ := hs.slab hi
  have hsok9 := hsok
  obtain ⟨s1, s2, s3, s4, s5, s6, s7, s8⟩ := hsok9
  have ho : oOfSlab y (nI i) (nI 3) = (0, sOf (yS y i) 3, y) := by unfold oOfSlab; rw [if_pos hri, if_pos (by decide), hiN, iN_nI (by decide)]
  obtain ⟨H, hHe⟩ : ∃ z, z = s.heap := ⟨_, rfl⟩
  obtain ⟨locs, hLe⟩ : ∃ z : List Loc, z = [] := ⟨_, rfl⟩
  rw [← hHe, ← hLe]
  have hI : gI K A s G H locs := by rw [hHe, hLe]; exact hI
  clear hHe hLe
  refine lv_aload_n hx hb dX4_ofSlab_0 rfl (lv_at hl 0 rfl) ?_
  refine lv_iload_n hx hb dX4_ofSlab_1 rfl (lv_at hl 1 rfl) ?_
  refine g_callV (As := [.int (nI i)]) (rest := []) (b := hy) (n := 1) S hE hI hA (c_slabOfIn l K _ L1 L2 M hy y i hlS hy0 hi) gX4_ofSlab_X4_slabOf rfl (by decide +kernel) ⟨Nat.le_of_ble_eq_true rfl, Nat.le_of_ble_eq_true rfl⟩ (g_hro hE hI hy9 rfl) rfl hl.1 rfl (Nat.le_of_ble_eq_true rfl) dX4_ofSlab_2 ⟨Nat.le_of_ble_eq_true rfl, Nat.le_of_ble_eq_true rfl⟩ (fun E ce q9 Gx H locs hx9 hI hce hcv hcl => ?_) (fun rv Gc_2 H locs hp hI => ?_)
  · skip
    exact hx9.elim
  obtain ⟨rfl, hq9⟩ := hp
  rw [hq9] at hI
  refine W.eq (g2 := F0 m 5 ls [.ref (L1 3 i)]) rfl ?_
  refine lv_astore_n (lv' := [(3, .ref (L1 3 i)), (0, .ref hy), (1, .int (nI i)), (2, .int (nI 3))]) hx hb dX4_ofSlab_5 rfl hl (by decide) rfl (fun ls hl => ?_)
  refine lv_iload_n hx hb dX4_ofSlab_6 rfl (lv_at hl 3 rfl) ?_
  refine lv_tableIn (tgt := 59) (off := 52) hx hb dX4_ofSlab_7 (by decide +kernel) (by decide +kernel) (by decide +kernel) (by decide) ?_
  refine lv_aload_n hx hb dX4_ofSlab_59 rfl (lv_at hl 0 rfl) ?_
  refine g_getN S hE hI (C := RX2) (T := TX2) (N := 7) (ref := "StonecutterYard$Slab") (host := "StonecutterYard") (fun w h => (List.mem_cons_of_mem _ (List.mem_append_left _ (List.mem_append_left _ (List.mem_append_left _ (List.mem_append_left _ (List.mem_append_right _ h))))))) hsl rfl 5 (by decide) (List.mem_of_getElem? (i := 2) rfl) (fun _ h9 => h9) (v := .int (nI ((sL (yS y i)).length))) rfl dX4_ofSlab_60 ?_
  exact g_iret S hI hr hlocks (Nat.zero_le _) (Nat.zero_le _) dX4_ofSlab_63 (by rw [ho]; exact ⟨rfl, rfl, hy0, AgY.rf⟩)
set_option maxHeartbeats 4000000 in
set_option maxRecDepth 100000 in
/-- ofSlab 4 -/
theorem c_ofSlab4Z (l : Launch) (K : gK) (G : gW) (L1 L2 : Nat → Nat → Nat) (M : Nat → Nat) (hy : Nat) (y : YV) (i : Nat) (hlS : l.stackTraces = false) (hy0 : YardC K L1 L2 M hy G y) (hi : i < ySc y) : gM l yX4_ofSlab wsX4_ofSlab 4 83 0 0 K [.ref hy, .int (nI i), .int (nI 4)] G (oPost K L1 L2 M hy G (oOfSlab y (nI i) (nI 4))) (oX K L1 L2 M hy G (oOfSlab y (nI i) (nI 4)) (ex2 eIO eIA)) := by
  refine gM.of (cc := cX4_ofSlab) (maxL := 4) (ret := (some .int)) (by decide) rfl (Nat.le_of_ble_eq_true rfl) ?_
  intro p e s m below meth c A S hr hlocks htab hname hE hA hI ls hl
  have hx := S.1
  have hb := S.2.1
  have hml := S.2.2.1
  have hl : lv_has ls 4 [(0, .ref hy), (1, .int (nI i)), (2, .int (nI 4))] := hl
  have hs := hy0.2.1
  have hy9 := hy0.1
  have h44 := hs.1.2.2.2.1
  have h6 := hs.1.2.2.2.2.1
  have hf2 := hs.1.2.2.2.2.2
  have hc40 := hy0.2.2.2.2
  have hri : inR (nI i) (ySc y) = true := inR_nI hi (by omega)
  have hiN : iN (nI i) = i := iN_nI (by omega)
  obtain ⟨P, hsl, hpt, hpk, hsok⟩ := hs.slab hi
  have hsok9 := hsok
  obtain ⟨s1, s2, s3, s4, s5, s6, s7, s8⟩ := hsok9
  have ho : oOfSlab y (nI i) (nI 4) = (0, sOf (yS y i) 4, y) := by unfold oOfSlab; rw [if_pos hri, if_pos (by decide), hiN, iN_nI (by decide)]
  obtain ⟨H, hHe⟩ : ∃ z, z = s.heap := ⟨_, rfl⟩
  obtain ⟨locs, hLe⟩ : ∃ z : List Loc, z = [] := ⟨_, rfl⟩
  rw [← hHe, ← hLe]
  have hI : gI K A s G H locs := by rw [hHe, hLe]; exact hI
  clear hHe hLe
  refine lv_aload_n hx hb dX4_ofSlab_0 rfl (lv_at hl 0 rfl) ?_
  refine lv_iload_n hx hb dX4_ofSlab_1 rfl (lv_at hl 1 rfl) ?_
  refine g_callV (As := [.int (nI i)]) (rest := []) (b := hy) (n := 1) S hE hI hA (c_slabOfIn l K _ L1 L2 M hy y i hlS hy0 hi) gX4_ofSlab_X4_slabOf rfl (by decide +kernel) ⟨Nat.le_of_ble_eq_true rfl, Nat.le_of_ble_eq_true rfl⟩ (g_hro hE hI hy9 rfl) rfl hl.1 rfl (Nat.le_of_ble_eq_true rfl) dX4_ofSlab_2 ⟨Nat.le_of_ble_eq_true rfl, Nat.le_of_ble_eq_true rfl⟩ (fun E ce q9 Gx H locs hx9 hI hce hcv hcl => ?_) (fun rv Gc_2 H locs hp hI => ?_)
  · skip
    exact hx9.elim
  obtain ⟨rfl, hq9⟩ := hp
  rw [hq9] at hI
  refine W.eq (g2 := F0 m 5 ls [.ref (L1 3 i)]) rfl ?_
  refine lv_astore_n (lv' := [(3, .ref (L1 3 i)), (0, .ref hy), (1, .int (nI i)), (2, .int (nI 4))]) hx hb dX4_ofSlab_5 rfl hl (by decide) rfl (fun ls hl => ?_)
  refine lv_iload_n hx hb dX4_ofSlab_6 rfl (lv_at hl 3 rfl) ?_
  refine lv_tableIn (tgt := 64) (off := 57) hx hb dX4_ofSlab_7 (by decide +kernel) (by decide +kernel) (by decide +kernel) (by decide) ?_
  refine lv_aload_n hx hb dX4_ofSlab_64 rfl (lv_at hl 0 rfl) ?_
  refine g_getN S hE hI (C := RX2) (T := TX2) (N := 7) (ref := "StonecutterYard$Slab") (host := "StonecutterYard") (fun w h => (List.mem_cons_of_mem _ (List.mem_append_left _ (List.mem_append_left _ (List.mem_append_left _ (List.mem_append_left _ (List.mem_append_right _ h))))))) hsl rfl 3 (by decide) (List.mem_of_getElem? (i := 6) rfl) (fun _ h9 => h9) (v := .int (sF (yS y i))) rfl dX4_ofSlab_65 ?_
  exact g_iret S hI hr hlocks (Nat.zero_le _) (Nat.zero_le _) dX4_ofSlab_68 (by rw [ho]; exact ⟨rfl, rfl, hy0, AgY.rf⟩)
set_option maxHeartbeats 4000000 in
set_option maxRecDepth 100000 in
/-- ofSlab 5 -/
theorem c_ofSlab5Z (l : Launch) (K : gK) (G : gW) (L1 L2 : Nat → Nat → Nat) (M : Nat → Nat) (hy : Nat) (y : YV) (i : Nat) (hlS : l.stackTraces = false) (hy0 : YardC K L1 L2 M hy G y) (hi : i < ySc y) : gM l yX4_ofSlab wsX4_ofSlab 4 83 0 0 K [.ref hy, .int (nI i), .int (nI 5)] G (oPost K L1 L2 M hy G (oOfSlab y (nI i) (nI 5))) (oX K L1 L2 M hy G (oOfSlab y (nI i) (nI 5)) (ex2 eIO eIA)) := by
  refine gM.of (cc := cX4_ofSlab) (maxL := 4) (ret := (some .int)) (by decide) rfl (Nat.le_of_ble_eq_true rfl) ?_
  intro p e s m below meth c A S hr hlocks htab hname hE hA hI ls hl
  have hx := S.1
  have hb := S.2.1
  have hml := S.2.2.1
  have hl : lv_has ls 4 [(0, .ref hy), (1, .int (nI i)), (2, .int (nI 5))] := hl
  have hs := hy0.2.1
  have hy9 := hy0.1
  have h44 := hs.1.2.2.2.1
  have h6 := hs.1.2.2.2.2.1
  have hf2 := hs.1.2.2.2.2.2
  have hc40 := hy0.2.2.2.2
  have hri : inR (nI i) (ySc y) = true := inR_nI hi (by omega)
  have hiN : iN (nI i) = i := iN_nI (by omega)
  obtain ⟨P, hsl, hpt, hpk, hsok⟩ := hs.slab hi
  have hsok9 := hsok
  obtain ⟨s1, s2, s3, s4, s5, s6, s7, s8⟩ := hsok9
  have ho : oOfSlab y (nI i) (nI 5) = (0, sOf (yS y i) 5, y) := by unfold oOfSlab; rw [if_pos hri, if_pos (by decide), hiN, iN_nI (by decide)]
  obtain ⟨H, hHe⟩ : ∃ z, z = s.heap := ⟨_, rfl⟩
  obtain ⟨locs, hLe⟩ : ∃ z : List Loc, z = [] := ⟨_, rfl⟩
  rw [← hHe, ← hLe]
  have hI : gI K A s G H locs := by rw [hHe, hLe]; exact hI
  clear hHe hLe
  refine lv_aload_n hx hb dX4_ofSlab_0 rfl (lv_at hl 0 rfl) ?_
  refine lv_iload_n hx hb dX4_ofSlab_1 rfl (lv_at hl 1 rfl) ?_
  refine g_callV (As := [.int (nI i)]) (rest := []) (b := hy) (n := 1) S hE hI hA (c_slabOfIn l K _ L1 L2 M hy y i hlS hy0 hi) gX4_ofSlab_X4_slabOf rfl (by decide +kernel) ⟨Nat.le_of_ble_eq_true rfl, Nat.le_of_ble_eq_true rfl⟩ (g_hro hE hI hy9 rfl) rfl hl.1 rfl (Nat.le_of_ble_eq_true rfl) dX4_ofSlab_2 ⟨Nat.le_of_ble_eq_true rfl, Nat.le_of_ble_eq_true rfl⟩ (fun E ce q9 Gx H locs hx9 hI hce hcv hcl => ?_) (fun rv Gc_2 H locs hp hI => ?_)
  · skip
    exact hx9.elim
  obtain ⟨rfl, hq9⟩ := hp
  rw [hq9] at hI
  refine W.eq (g2 := F0 m 5 ls [.ref (L1 3 i)]) rfl ?_
  refine lv_astore_n (lv' := [(3, .ref (L1 3 i)), (0, .ref hy), (1, .int (nI i)), (2, .int (nI 5))]) hx hb dX4_ofSlab_5 rfl hl (by decide) rfl (fun ls hl => ?_)
  refine lv_iload_n hx hb dX4_ofSlab_6 rfl (lv_at hl 3 rfl) ?_
  refine lv_tableIn (tgt := 69) (off := 62) hx hb dX4_ofSlab_7 (by decide +kernel) (by decide +kernel) (by decide +kernel) (by decide) ?_
  refine lv_aload_n hx hb dX4_ofSlab_69 rfl (lv_at hl 0 rfl) ?_
  refine g_getN S hE hI (C := RX2) (T := TX2) (N := 7) (ref := "StonecutterYard$Slab") (host := "StonecutterYard") (fun w h => (List.mem_cons_of_mem _ (List.mem_append_left _ (List.mem_append_left _ (List.mem_append_left _ (List.mem_append_left _ (List.mem_append_right _ h))))))) hsl rfl 4 (by decide) (List.mem_of_getElem? (i := 1) rfl) (fun _ h9 => h9) (v := .int (nI (sT (yS y i)))) rfl dX4_ofSlab_70 ?_
  exact g_iret S hI hr hlocks (Nat.zero_le _) (Nat.zero_le _) dX4_ofSlab_73 (by rw [ho]; exact ⟨rfl, rfl, hy0, AgY.rf⟩)
set_option maxHeartbeats 4000000 in
set_option maxRecDepth 100000 in
/-- ofKind 0 -/
theorem c_ofKind0Z (l : Launch) (K : gK) (G : gW) (L1 L2 : Nat → Nat → Nat) (M : Nat → Nat) (hy : Nat) (y : YV) (i : Nat) (hlS : l.stackTraces = false) (hy0 : YardC K L1 L2 M hy G y) (hi : i < yKc y) : gM l yX4_ofKind wsX4_ofKind 4 83 0 0 K [.ref hy, .int (nI i), .int (nI 0)] G (oPost K L1 L2 M hy G (oOfKind y (nI i) (nI 0))) (oX K L1 L2 M hy G (oOfKind y (nI i) (nI 0)) (ex2 eIO eIA)) := by
  refine gM.of (cc := cX4_ofKind) (maxL := 4) (ret := (some .int)) (by decide) rfl (Nat.le_of_ble_eq_true rfl) ?_
  intro p e s m below meth c A S hr hlocks htab hname hE hA hI ls hl
  have hx := S.1
  have hb := S.2.1
  have hml := S.2.2.1
  have hl : lv_has ls 4 [(0, .ref hy), (1, .int (nI i)), (2, .int (nI 0))] := hl
  have hs := hy0.2.1
  have hy9 := hy0.1
  have h44 := hs.1.2.2.2.1
  have h6 := hs.1.2.2.2.2.1
  have hf2 := hs.1.2.2.2.2.2
  have hc40 := hy0.2.2.2.2
  have hri : inR (nI i) (yKc y) = true := inR_nI hi (by omega)
  have hiN : iN (nI i) = i := iN_nI (by omega)
  obtain ⟨hkd, hkok⟩ := hs.kind hi
  have hkok9 := hkok
  obtain ⟨k1, k2, k3, k4, k5, k6, k7, k8, k9⟩ := hkok9
  have ho : oOfKind y (nI i) (nI 0) = (0, kOf (yK y i) 0, y) := by unfold oOfKind; rw [if_pos hri, if_pos (by decide), hiN, iN_nI (by decide)]
  obtain ⟨H, hHe⟩ : ∃ z, z = s.heap := ⟨_, rfl⟩
  obtain ⟨locs, hLe⟩ : ∃ z : List Loc, z = [] := ⟨_, rfl⟩
  rw [← hHe, ← hLe]
  have hI : gI K A s G H locs := by rw [hHe, hLe]; exact hI
  clear hHe hLe
  refine lv_aload_n hx hb dX4_ofKind_0 rfl (lv_at hl 0 rfl) ?_
  refine lv_iload_n hx hb dX4_ofKind_1 rfl (lv_at hl 1 rfl) ?_
  refine g_callV (As := [.int (nI i)]) (rest := []) (b := hy) (n := 1) S hE hI hA (c_kindOfIn l K _ L1 L2 M hy y i hlS hy0 hi) gX4_ofKind_X4_kindOf rfl (by decide +kernel) ⟨Nat.le_of_ble_eq_true rfl, Nat.le_of_ble_eq_true rfl⟩ (g_hro hE hI hy9 rfl) rfl hl.1 rfl (Nat.le_of_ble_eq_true rfl) dX4_ofKind_2 ⟨Nat.le_of_ble_eq_true rfl, Nat.le_of_ble_eq_true rfl⟩ (fun E ce q9 Gx H locs hx9 hI hce hcv hcl => ?_) (fun rv Gc_2 H locs hp hI => ?_)
  · skip
    exact hx9.elim
  obtain ⟨rfl, hq9⟩ := hp
  rw [hq9] at hI
  refine W.eq (g2 := F0 m 5 ls [.ref (L1 5 i)]) rfl ?_
  refine lv_astore_n (lv' := [(3, .ref (L1 5 i)), (0, .ref hy), (1, .int (nI i)), (2, .int (nI 0))]) hx hb dX4_ofKind_5 rfl hl (by decide) rfl (fun ls hl => ?_)
  refine lv_iload_n hx hb dX4_ofKind_6 rfl (lv_at hl 3 rfl) ?_
  refine lv_tableIn (tgt := 52) (off := 45) hx hb dX4_ofKind_7 (by decide +kernel) (by decide +kernel) (by decide +kernel) (by decide) ?_
  refine lv_aload_n hx hb dX4_ofKind_52 rfl (lv_at hl 0 rfl) ?_
  refine g_getN S hE hI (C := RX0) (T := TX0) (N := 8) (ref := "StonecutterYard$Kind") (host := "StonecutterYard") (fun w h => (List.mem_cons_of_mem _ (List.mem_append_left _ (List.mem_append_left _ (List.mem_append_left _ (List.mem_append_left _ (List.mem_append_right _ h))))))) hkd rfl 0 (by decide) (List.mem_of_getElem? (i := 11) rfl) (fun _ h9 => h9) (v := .int (nI (kL (yK y i)))) rfl dX4_ofKind_53 ?_
  exact g_iret S hI hr hlocks (Nat.zero_le _) (Nat.zero_le _) dX4_ofKind_56 (by rw [ho]; exact ⟨rfl, rfl, hy0, AgY.rf⟩)
set_option maxHeartbeats 4000000 in
set_option maxRecDepth 100000 in
/-- ofKind 1 -/
theorem c_ofKind1Z (l : Launch) (K : gK) (G : gW) (L1 L2 : Nat → Nat → Nat) (M : Nat → Nat) (hy : Nat) (y : YV) (i : Nat) (hlS : l.stackTraces = false) (hy0 : YardC K L1 L2 M hy G y) (hi : i < yKc y) : gM l yX4_ofKind wsX4_ofKind 4 83 0 0 K [.ref hy, .int (nI i), .int (nI 1)] G (oPost K L1 L2 M hy G (oOfKind y (nI i) (nI 1))) (oX K L1 L2 M hy G (oOfKind y (nI i) (nI 1)) (ex2 eIO eIA)) := by
  refine gM.of (cc := cX4_ofKind) (maxL := 4) (ret := (some .int)) (by decide) rfl (Nat.le_of_ble_eq_true rfl) ?_
  intro p e s m below meth c A S hr hlocks htab hname hE hA hI ls hl
  have hx := S.1
  have hb := S.2.1
  have hml := S.2.2.1
  have hl : lv_has ls 4 [(0, .ref hy), (1, .int (nI i)), (2, .int (nI 1))] := hl
  have hs := hy0.2.1
  have hy9 := hy0.1
  have h44 := hs.1.2.2.2.1
  have h6 := hs.1.2.2.2.2.1
  have hf2 := hs.1.2.2.2.2.2
  have hc40 := hy0.2.2.2.2
  have hri : inR (nI i) (yKc y) = true := inR_nI hi (by omega)
  have hiN : iN (nI i) = i := iN_nI (by omega)
  obtain ⟨hkd, hkok⟩ := hs.kind hi
  have hkok9 := hkok
  obtain ⟨k1, k2, k3, k4, k5, k6, k7, k8, k9⟩ := hkok9
  have ho : oOfKind y (nI i) (nI 1) = (0, kOf (yK y i) 1, y) := by unfold oOfKind; rw [if_pos hri, if_pos (by decide), hiN, iN_nI (by decide)]
  obtain ⟨H, hHe⟩ : ∃ z, z = s.heap := ⟨_, rfl⟩
  obtain ⟨locs, hLe⟩ : ∃ z : List Loc, z = [] := ⟨_, rfl⟩
  rw [← hHe, ← hLe]
  have hI : gI K A s G H locs := by rw [hHe, hLe]; exact hI
  clear hHe hLe
  refine lv_aload_n hx hb dX4_ofKind_0 rfl (lv_at hl 0 rfl) ?_
  refine lv_iload_n hx hb dX4_ofKind_1 rfl (lv_at hl 1 rfl) ?_
  refine g_callV (As := [.int (nI i)]) (rest := []) (b := hy) (n := 1) S hE hI hA (c_kindOfIn l K _ L1 L2 M hy y i hlS hy0 hi) gX4_ofKind_X4_kindOf rfl (by decide +kernel) ⟨Nat.le_of_ble_eq_true rfl, Nat.le_of_ble_eq_true rfl⟩ (g_hro hE hI hy9 rfl) rfl hl.1 rfl (Nat.le_of_ble_eq_true rfl) dX4_ofKind_2 ⟨Nat.le_of_ble_eq_true rfl, Nat.le_of_ble_eq_true rfl⟩ (fun E ce q9 Gx H locs hx9 hI hce hcv hcl => ?_) (fun rv Gc_2 H locs hp hI => ?_)
  · skip
    exact hx9.elim
  obtain ⟨rfl, hq9⟩ := hp
  rw [hq9] at hI
  refine W.eq (g2 := F0 m 5 ls [.ref (L1 5 i)]) rfl ?_
  refine lv_astore_n (lv' := [(3, .ref (L1 5 i)), (0, .ref hy), (1, .int (nI i)), (2, .int (nI 1))]) hx hb dX4_ofKind_5 rfl hl (by decide) rfl (fun ls hl => ?_)
  refine lv_iload_n hx hb dX4_ofKind_6 rfl (lv_at hl 3 rfl) ?_
  refine lv_tableIn (tgt := 57) (off := 50) hx hb dX4_ofKind_7 (by decide +kernel) (by decide +kernel) (by decide +kernel) (by decide) ?_
  refine lv_aload_n hx hb dX4_ofKind_57 rfl (lv_at hl 0 rfl) ?_
  refine g_getN S hE hI (C := RX0) (T := TX0) (N := 8) (ref := "StonecutterYard$Kind") (host := "StonecutterYard") (fun w h => (List.mem_cons_of_mem _ (List.mem_append_left _ (List.mem_append_left _ (List.mem_append_left _ (List.mem_append_left _ (List.mem_append_right _ h))))))) hkd rfl 1 (by decide) (List.mem_of_getElem? (i := 12) rfl) (fun _ h9 => h9) (v := .int (nI (kB (yK y i)))) rfl dX4_ofKind_58 ?_
  exact g_iret S hI hr hlocks (Nat.zero_le _) (Nat.zero_le _) dX4_ofKind_61 (by rw [ho]; exact ⟨rfl, rfl, hy0, AgY.rf⟩)
set_option maxHeartbeats 4000000 in
set_option maxRecDepth 100000 in
/-- ofKind 2 -/
theorem c_ofKind2Z (l : Launch) (K : gK) (G : gW) (L1 L2 : Nat → Nat → Nat) (M : Nat → Nat) (hy : Nat) (y : YV) (i : Nat) (hlS : l.stackTraces = false) (hy0 : YardC K L1 L2 M hy G y) (hi : i < yKc y) : gM l yX4_ofKind wsX4_ofKind 4 83 0 0 K [.ref hy, .int (nI i), .int (nI 2)] G (oPost K L1 L2 M hy G (oOfKind y (nI i) (nI 2))) (oX K L1 L2 M hy G (oOfKind y (nI i) (nI 2)) (ex2 eIO eIA)) := by
  refine gM.of (cc := cX4_ofKind) (maxL := 4) (ret := (some .int)) (by decide) rfl (Nat.le_of_ble_eq_true rfl) ?_
  intro p e s m below meth c A S hr hlocks htab hname hE hA hI ls hl
  have hx := S.1
  have hb := S.2.1
  have hml := S.2.2.1
  have hl : lv_has ls 4 [(0, .ref hy), (1, .int (nI i)), (2, .int (nI 2))] := hl
  have hs := hy0.2.1
  have hy9 := hy0.1
  have h44 := hs.1.2.2.2.1
  have h6 := hs.1.2.2.2.2.1
  have hf2 := hs.1.2.2.2.2.2
  have hc40 := hy0.2.2.2.2
  have hri : inR (nI i) (yKc y) = true := inR_nI hi (by omega)
  have hiN : iN (nI i) = i := iN_nI (by omega)
  obtain ⟨hkd, hkok⟩ := hs.kind hi
  have hkok9 := hkok
  obtain ⟨k1, k2, k3, k4, k5, k6, k7, k8, k9⟩ := hkok9
  have ho : oOfKind y (nI i) (nI 2) = (0, kOf (yK y i) 2, y) := by unfold oOfKind; rw [if_pos hri, if_pos (by decide), hiN, iN_nI (by decide)]
  obtain ⟨H, hHe⟩ : ∃ z, z = s.heap := ⟨_, rfl⟩
  obtain ⟨locs, hLe⟩ : ∃ z : List Loc, z = [] := ⟨_, rfl⟩
  rw [← hHe, ← hLe]
  have hI : gI K A s G H locs := by rw [hHe, hLe]; exact hI
  clear hHe hLe
  refine lv_aload_n hx hb dX4_ofKind_0 rfl (lv_at hl 0 rfl) ?_
  refine lv_iload_n hx hb dX4_ofKind_1 rfl (lv_at hl 1 rfl) ?_
  refine g_callV (As := [.int (nI i)]) (rest := []) (b := hy) (n := 1) S hE hI hA (c_kindOfIn l K _ L1 L2 M hy y i hlS hy0 hi) gX4_ofKind_X4_kindOf rfl (by decide +kernel) ⟨Nat.le_of_ble_eq_true rfl, Nat.le_of_ble_eq_true rfl⟩ (g_hro hE hI hy9 rfl) rfl hl.1 rfl (Nat.le_of_ble_eq_true rfl) dX4_ofKind_2 ⟨Nat.le_of_ble_eq_true rfl, Nat.le_of_ble_eq_true rfl⟩ (fun E ce q9 Gx H locs hx9 hI hce hcv hcl => ?_) (fun rv Gc_2 H locs hp hI => ?_)
  · skip
    exact hx9.elim
  obtain ⟨rfl, hq9⟩ := hp
  rw [hq9] at hI
  refine W.eq (g2 := F0 m 5 ls [.ref (L1 5 i)]) rfl ?_
  refine lv_astore_n (lv' := [(3, .ref (L1 5 i)), (0, .ref hy), (1, .int (nI i)), (2, .int (nI 2))]) hx hb dX4_ofKind_5 rfl hl (by decide) rfl (fun ls hl => ?_)
  refine lv_iload_n hx hb dX4_ofKind_6 rfl (lv_at hl 3 rfl) ?_
  refine lv_tableIn (tgt := 62) (off := 55) hx hb dX4_ofKind_7 (by decide +kernel) (by decide +kernel) (by decide +kernel) (by decide) ?_
  refine lv_aload_n hx hb dX4_ofKind_62 rfl (lv_at hl 0 rfl) ?_
  refine g_getN S hE hI (C := RX0) (T := TX0) (N := 8) (ref := "StonecutterYard$Kind") (host := "StonecutterYard") (fun w h => (List.mem_cons_of_mem _ (List.mem_append_left _ (List.mem_append_left _ (List.mem_append_left _ (List.mem_append_left _ (List.mem_append_right _ h))))))) hkd rfl 2 (by decide) (List.mem_of_getElem? (i := 8) rfl) (fun _ h9 => h9) (v := .int (nI (kW (yK y i)))) rfl dX4_ofKind_63 ?_
  exact g_iret S hI hr hlocks (Nat.zero_le _) (Nat.zero_le _) dX4_ofKind_66 (by rw [ho]; exact ⟨rfl, rfl, hy0, AgY.rf⟩)
set_option maxHeartbeats 4000000 in
set_option maxRecDepth 100000 in
/-- ofKind 3 -/
theorem c_ofKind3Z (l : Launch) (K : gK) (G : gW) (L1 L2 : Nat → Nat → Nat) (M : Nat → Nat) (hy : Nat) (y : YV) (i : Nat) (hlS : l.stackTraces = false) (hy0 : YardC K L1 L2 M hy G y) (hi : i < yKc y) : gM l yX4_ofKind wsX4_ofKind 4 83 0 0 K [.ref hy, .int (nI i), .int (nI 3)] G (oPost K L1 L2 M hy G (oOfKind y (nI i) (nI 3))) (oX K L1 L2 M hy G (oOfKind y (nI i) (nI 3)) (ex2 eIO eIA)) := by
  refine gM.of (cc := cX4_ofKind) (maxL := 4) (ret := (some .int)) (by decide) rfl (Nat.le_of_ble_eq_true rfl) ?_
  intro p e s m below meth c A S hr hlocks htab hname hE hA hI ls hl
  have hx := S.1
  have hb := S.2.1
  have hml := S.2.2.1
  have hl : lv_has ls 4 [(0, .ref hy), (1, .int (nI i)), (2, .int (nI 3))] := hl
  have hs := hy0.2.1
  have hy9 := hy0.1
  have h44 := hs.1.2.2.2.1
  have h6 := hs.1.2.2.2.2.1
  have hf2 := hs.1.2.2.2.2.2
  have hc40 := hy0.2.2.2.2
  have hri : inR (nI i) (yKc y) = true := inR_nI hi (by omega)
  have hiN : iN (nI i) = i := iN_nI (by omega)
  obtain ⟨hkd, hkok⟩ := hs.kind hi
  have hkok9 := hkok
  obtain ⟨k1, k2, k3, k4, k5, k6, k7, k8, k9⟩ := hkok9
  have ho : oOfKind y (nI i) (nI 3) = (0, kOf (yK y i) 3, y) := by unfold oOfKind; rw [if_pos hri, if_pos (by decide), hiN, iN_nI (by decide)]
  obtain ⟨H, hHe⟩ : ∃ z, z = s.heap := ⟨_, rfl⟩
  obtain ⟨locs, hLe⟩ : ∃ z : List Loc, z = [] := ⟨_, rfl⟩
  rw [← hHe, ← hLe]
  have hI : gI K A s G H locs := by rw [hHe, hLe]; exact hI
  clear hHe hLe
  refine lv_aload_n hx hb dX4_ofKind_0 rfl (lv_at hl 0 rfl) ?_
  refine lv_iload_n hx hb dX4_ofKind_1 rfl (lv_at hl 1 rfl) ?_
  refine g_callV (As := [.int (nI i)]) (rest := []) (b := hy) (n := 1) S hE hI hA (c_kindOfIn l K _ L1 L2 M hy y i hlS hy0 hi) gX4_ofKind_X4_kindOf rfl (by decide +kernel) ⟨Nat.le_of_ble_eq_true rfl, Nat.le_of_ble_eq_true rfl⟩ (g_hro hE hI hy9 rfl) rfl hl.1 rfl (Nat.le_of_ble_eq_true rfl) dX4_ofKind_2 ⟨Nat.le_of_ble_eq_true rfl, Nat.le_of_ble_eq_true rfl⟩ (fun E ce q9 Gx H locs hx9 hI hce hcv hcl => ?_) (fun rv Gc_2 H locs hp hI => ?_)
  · skip
    exact hx9.elim
  obtain ⟨rfl, hq9⟩ := hp
  rw [hq9] at hI
  refine W.eq (g2 := F0 m 5 ls [.ref (L1 5 i)]) rfl ?_
  refine lv_astore_n (lv' := [(3, .ref (L1 5 i)), (0, .ref hy), (1, .int (nI i)), (2, .int (nI 3))]) hx hb dX4_ofKind_5 rfl hl (by decide) rfl (fun ls hl => ?_)
  refine lv_iload_n hx hb dX4_ofKind_6 rfl (lv_at hl 3 rfl) ?_
  refine lv_tableIn (tgt := 67) (off := 60) hx hb dX4_ofKind_7 (by decide +kernel) (by decide +kernel) (by decide +kernel) (by decide) ?_
  refine lv_aload_n hx hb dX4_ofKind_67 rfl (lv_at hl 0 rfl) ?_
  refine g_getN S hE hI (C := RX0) (T := TX0) (N := 8) (ref := "StonecutterYard$Kind") (host := "StonecutterYard") (fun w h => (List.mem_cons_of_mem _ (List.mem_append_left _ (List.mem_append_left _ (List.mem_append_left _ (List.mem_append_left _ (List.mem_append_right _ h))))))) hkd rfl 3 (by decide) (List.mem_of_getElem? (i := 9) rfl) (fun _ h9 => h9) (v := .int (nI (kF (yK y i)))) rfl dX4_ofKind_68 ?_
  exact g_iret S hI hr hlocks (Nat.zero_le _) (Nat.zero_le _) dX4_ofKind_71 (by rw [ho]; exact ⟨rfl, rfl, hy0, AgY.rf⟩)
set_option maxHeartbeats 4000000 in
set_option maxRecDepth 100000 in
/-- ofKind 4 -/
theorem c_ofKind4Z (l : Launch) (K : gK) (G : gW) (L1 L2 : Nat → Nat → Nat) (M : Nat → Nat) (hy : Nat) (y : YV) (i : Nat) (hlS : l.stackTraces = false) (hy0 : YardC K L1 L2 M hy G y) (hi : i < yKc y) : gM l yX4_ofKind wsX4_ofKind 4 83 0 0 K [.ref hy, .int (nI i), .int (nI 4)] G (oPost K L1 L2 M hy G (oOfKind y (nI i) (nI 4))) (oX K L1 L2 M hy G (oOfKind y (nI i) (nI 4)) (ex2 eIO eIA)) := by
  refine gM.of (cc := cX4_ofKind) (maxL := 4) (ret := (some .int)) (by decide) rfl (Nat.le_of_ble_eq_true rfl) ?_
  intro p e s m below meth c A S hr hlocks htab hname hE hA hI ls hl
  have hx := S.1
  have hb := S.2.1
  have hml := S.2.2.1
  have hl : lv_has ls 4 [(0, .ref hy), (1, .int (nI i)), (2, .int (nI 4))] := hl
  have hs := hy0.2.1
  have hy9 := hy0.1
  have h44 := hs.1.2.2.2.1
  have h6 := hs.1.2.2.2.2.1
  have hf2 := hs.1.2.2.2.2.2
  have hc40 := hy0.2.2.2.2
  have hri : inR (nI i) (yKc y) = true := inR_nI hi (by omega)
  have hiN : iN (nI i) = i := iN_nI (by omega)
  obtain ⟨hkd, hkok⟩ := hs.kind hi
  have hkok9 := hkok
  obtain ⟨k1, k2, k3, k4, k5, k6, k7, k8, k9⟩ := hkok9
  have ho : oOfKind y (nI i) (nI 4) = (0, kOf (yK y i) 4, y) := by unfold oOfKind; rw [if_pos hri, if_pos (by decide), hiN, iN_nI (by decide)]
  obtain ⟨H, hHe⟩ : ∃ z, z = s.heap := ⟨_, rfl⟩
  obtain ⟨locs, hLe⟩ : ∃ z : List Loc, z = [] := ⟨_, rfl⟩
  rw [← hHe, ← hLe]
  have hI : gI K A s G H locs := by rw [hHe, hLe]; exact hI
  clear hHe hLe
  refine lv_aload_n hx hb dX4_ofKind_0 rfl (lv_at hl 0 rfl) ?_
  refine lv_iload_n hx hb dX4_ofKind_1 rfl (lv_at hl 1 rfl) ?_
  refine g_callV (As := [.int (nI i)]) (rest := []) (b := hy) (n := 1) S hE hI hA (c_kindOfIn l K _ L1 L2 M hy y i hlS hy0 hi) gX4_ofKind_X4_kindOf rfl (by decide +kernel) ⟨Nat.le_of_ble_eq_true rfl, Nat.le_of_ble_eq_true rfl⟩ (g_hro hE hI hy9 rfl) rfl hl.1 rfl (Nat.le_of_ble_eq_true rfl) dX4_ofKind_2 ⟨Nat.le_of_ble_eq_true rfl, Nat.le_of_ble_eq_true rfl⟩ (fun E ce q9 Gx H locs hx9 hI hce hcv hcl => ?_) (fun rv Gc_2 H locs hp hI => ?_)
  · skip
    exact hx9.elim
  obtain ⟨rfl, hq9⟩ := hp
  rw [hq9] at hI
  refine W.eq (g2 := F0 m 5 ls [.ref (L1 5 i)]) rfl ?_
  refine lv_astore_n (lv' := [(3, .ref (L1 5 i)), (0, .ref hy), (1, .int (nI i)), (2, .int (nI 4))]) hx hb dX4_ofKind_5 rfl hl (by decide) rfl (fun ls hl => ?_)
  refine lv_iload_n hx hb dX4_ofKind_6 rfl (lv_at hl 3 rfl) ?_
  refine lv_tableIn (tgt := 72) (off := 65) hx hb dX4_ofKind_7 (by decide +kernel) (by decide +kernel) (by decide +kernel) (by decide) ?_
  refine lv_aload_n hx hb dX4_ofKind_72 rfl (lv_at hl 0 rfl) ?_
  refine g_getN S hE hI (C := RX0) (T := TX0) (N := 8) (ref := "StonecutterYard$Kind") (host := "StonecutterYard") (fun w h => (List.mem_cons_of_mem _ (List.mem_append_left _ (List.mem_append_left _ (List.mem_append_left _ (List.mem_append_left _ (List.mem_append_right _ h))))))) hkd rfl 4 (by decide) (List.mem_of_getElem? (i := 13) rfl) (fun _ h9 => h9) (v := .int (nI (kP (yK y i)))) rfl dX4_ofKind_73 ?_
  exact g_iret S hI hr hlocks (Nat.zero_le _) (Nat.zero_le _) dX4_ofKind_76 (by rw [ho]; exact ⟨rfl, rfl, hy0, AgY.rf⟩)
set_option maxHeartbeats 4000000 in
set_option maxRecDepth 100000 in
/-- ofKind 5 -/
theorem c_ofKind5Z (l : Launch) (K : gK) (G : gW) (L1 L2 : Nat → Nat → Nat) (M : Nat → Nat) (hy : Nat) (y : YV) (i : Nat) (hlS : l.stackTraces = false) (hy0 : YardC K L1 L2 M hy G y) (hi : i < yKc y) : gM l yX4_ofKind wsX4_ofKind 4 83 0 0 K [.ref hy, .int (nI i), .int (nI 5)] G (oPost K L1 L2 M hy G (oOfKind y (nI i) (nI 5))) (oX K L1 L2 M hy G (oOfKind y (nI i) (nI 5)) (ex2 eIO eIA)) := by
  refine gM.of (cc := cX4_ofKind) (maxL := 4) (ret := (some .int)) (by decide) rfl (Nat.le_of_ble_eq_true rfl) ?_
  intro p e s m below meth c A S hr hlocks htab hname hE hA hI ls hl
  have hx := S.1
  have hb := S.2.1
  have hml := S.2.2.1
  have hl : lv_has ls 4 [(0, .ref hy), (1, .int (nI i)), (2, .int (nI 5))] := hl
  have hs := hy0.2.1
  have hy9 := hy0.1
  have h44 := hs.1.2.2.2.1
  have h6 := hs.1.2.2.2.2.1
  have hf2 := hs.1.2.2.2.2.2
  have hc40 := hy0.2.2.2.2
  have hri : inR (nI i) (yKc y) = true := inR_nI hi (by omega)
  have hiN : iN (nI i) = i := iN_nI (by omega)
  obtain ⟨hkd, hkok⟩ := hs.kind hi
  have hkok9 := hkok
  obtain ⟨k1, k2, k3, k4, k5, k6, k7, k8, k9⟩ := hkok9
  have ho : oOfKind y (nI i) (nI 5) = (0, kOf (yK y i) 5, y) := by unfold oOfKind; rw [if_pos hri, if_pos (by decide), hiN, iN_nI (by decide)]
  obtain ⟨H, hHe⟩ : ∃ z, z = s.heap := ⟨_, rfl⟩
  obtain ⟨locs, hLe⟩ : ∃ z : List Loc, z = [] := ⟨_, rfl⟩
  rw [← hHe, ← hLe]
  have hI : gI K A s G H locs := by rw [hHe, hLe]; exact hI
  clear hHe hLe
  refine lv_aload_n hx hb dX4_ofKind_0 rfl (lv_at hl 0 rfl) ?_
  refine lv_iload_n hx hb dX4_ofKind_1 rfl (lv_at hl 1 rfl) ?_
  refine g_callV (As := [.int (nI i)]) (rest := []) (b := hy) (n := 1) S hE hI hA (c_kindOfIn l K _ L1 L2 M hy y i hlS hy0 hi) gX4_ofKind_X4_kindOf rfl (by decide +kernel) ⟨Nat.le_of_ble_eq_true rfl, Nat.le_of_ble_eq_true rfl⟩ (g_hro hE hI hy9 rfl) rfl hl.1 rfl (Nat.le_of_ble_eq_true rfl) dX4_ofKind_2 ⟨Nat.le_of_ble_eq_true rfl, Nat.le_of_ble_eq_true rfl⟩ (fun E ce q9 Gx H locs hx9 hI hce hcv hcl => ?_) (fun rv Gc_2 H locs hp hI => ?_)
  · skip
    exact hx9.elim
  obtain ⟨rfl, hq9⟩ := hp
  rw [hq9] at hI
  refine W.eq (g2 := F0 m 5 ls [.ref (L1 5 i)]) rfl ?_
  refine lv_astore_n (lv' := [(3, .ref (L1 5 i)), (0, .ref hy), (1, .int (nI i)), (2, .int (nI 5))]) hx hb dX4_ofKind_5 rfl hl (by decide) rfl (fun ls hl => ?_)
  refine lv_iload_n hx hb dX4_ofKind_6 rfl (lv_at hl 3 rfl) ?_
  refine lv_tableIn (tgt := 77) (off := 70) hx hb dX4_ofKind_7 (by decide +kernel) (by decide +kernel) (by decide +kernel) (by decide) ?_
  refine lv_aload_n hx hb dX4_ofKind_77 rfl (lv_at hl 0 rfl) ?_
  refine g_getN S hE hI (C := RX0) (T := TX0) (N := 8) (ref := "StonecutterYard$Kind") (host := "StonecutterYard") (fun w h => (List.mem_cons_of_mem _ (List.mem_append_left _ (List.mem_append_left _ (List.mem_append_left _ (List.mem_append_left _ (List.mem_append_right _ h))))))) hkd rfl 5 (by decide) (List.mem_of_getElem? (i := 10) rfl) (fun _ h9 => h9) (v := .int (nI (kN (yK y i)))) rfl dX4_ofKind_78 ?_
  exact g_iret S hI hr hlocks (Nat.zero_le _) (Nat.zero_le _) dX4_ofKind_81 (by rw [ho]; exact ⟨rfl, rfl, hy0, AgY.rf⟩)
set_option maxHeartbeats 4000000 in
set_option maxRecDepth 100000 in
/-- ofKind 6 -/
theorem c_ofKind6Z (l : Launch) (K : gK) (G : gW) (L1 L2 : Nat → Nat → Nat) (M : Nat → Nat) (hy : Nat) (y : YV) (i : Nat) (hlS : l.stackTraces = false) (hy0 : YardC K L1 L2 M hy G y) (hi : i < yKc y) : gM l yX4_ofKind wsX4_ofKind 4 83 0 0 K [.ref hy, .int (nI i), .int (nI 6)] G (oPost K L1 L2 M hy G (oOfKind y (nI i) (nI 6))) (oX K L1 L2 M hy G (oOfKind y (nI i) (nI 6)) (ex2 eIO eIA)) := by
  refine gM.of (cc := cX4_ofKind) (maxL := 4) (ret := (some .int)) (by decide) rfl (Nat.le_of_ble_eq_true rfl) ?_
  intro p e s m below meth c A S hr hlocks htab hname hE hA hI ls hl
  have hx := S.1
  have hb := S.2.1
  have hml := S.2.2.1
  have hl : lv_has ls 4 [(0, .ref hy), (1, .int (nI i)), (2, .int (nI 6))] := hl
  have hs := hy0.2.1
  have hy9 := hy0.1
  have h44 := hs.1.2.2.2.1
  have h6 := hs.1.2.2.2.2.1
  have hf2 := hs.1.2.2.2.2.2
  have hc40 := hy0.2.2.2.2
  have hri : inR (nI i) (yKc y) = true := inR_nI hi (by omega)
  have hiN : iN (nI i) = i := iN_nI (by omega)
  obtain ⟨hkd, hkok⟩ := hs.kind hi
  have hkok9 := hkok
  obtain ⟨k1, k2, k3, k4, k5, k6, k7, k8, k9⟩ := hkok9
  have ho : oOfKind y (nI i) (nI 6) = (0, kOf (yK y i) 6, y) := by unfold oOfKind; rw [if_pos hri, if_pos (by decide), hiN, iN_nI (by decide)]
  obtain ⟨H, hHe⟩ : ∃ z, z = s.heap := ⟨_, rfl⟩
  obtain ⟨locs, hLe⟩ : ∃ z : List Loc, z = [] := ⟨_, rfl⟩
  rw [← hHe, ← hLe]
  have hI : gI K A s G H locs := by rw [hHe, hLe]; exact hI
  clear hHe hLe
  refine lv_aload_n hx hb dX4_ofKind_0 rfl (lv_at hl 0 rfl) ?_
  refine lv_iload_n hx hb dX4_ofKind_1 rfl (lv_at hl 1 rfl) ?_
  refine g_callV (As := [.int (nI i)]) (rest := []) (b := hy) (n := 1) S hE hI hA (c_kindOfIn l K _ L1 L2 M hy y i hlS hy0 hi) gX4_ofKind_X4_kindOf rfl (by decide +kernel) ⟨Nat.le_of_ble_eq_true rfl, Nat.le_of_ble_eq_true rfl⟩ (g_hro hE hI hy9 rfl) rfl hl.1 rfl (Nat.le_of_ble_eq_true rfl) dX4_ofKind_2 ⟨Nat.le_of_ble_eq_true rfl, Nat.le_of_ble_eq_true rfl⟩ (fun E ce q9 Gx H locs hx9 hI hce hcv hcl => ?_) (fun rv Gc_2 H locs hp hI => ?_)
  · skip
    exact hx9.elim
  obtain ⟨rfl, hq9⟩ := hp
  rw [hq9] at hI
  refine W.eq (g2 := F0 m 5 ls [.ref (L1 5 i)]) rfl ?_
  refine lv_astore_n (lv' := [(3, .ref (L1 5 i)), (0, .ref hy), (1, .int (nI i)), (2, .int (nI 6))]) hx hb dX4_ofKind_5 rfl hl (by decide) rfl (fun ls hl => ?_)
  refine lv_iload_n hx hb dX4_ofKind_6 rfl (lv_at hl 3 rfl) ?_
  refine lv_tableIn (tgt := 82) (off := 75) hx hb dX4_ofKind_7 (by decide +kernel) (by decide +kernel) (by decide +kernel) (by decide) ?_
  refine lv_aload_n hx hb dX4_ofKind_82 rfl (lv_at hl 0 rfl) ?_
  refine g_getN S hE hI (C := RX0) (T := TX0) (N := 8) (ref := "StonecutterYard$Kind") (host := "StonecutterYard") (fun w h => (List.mem_cons_of_mem _ (List.mem_append_left _ (List.mem_append_left _ (List.mem_append_left _ (List.mem_append_left _ (List.mem_append_right _ h))))))) hkd rfl 6 (by decide) (List.mem_of_getElem? (i := 14) rfl) (fun _ h9 => h9) (v := .int (nI (kT (yK y i)))) rfl dX4_ofKind_83 ?_
  exact g_iret S hI hr hlocks (Nat.zero_le _) (Nat.zero_le _) dX4_ofKind_86 (by rw [ho]; exact ⟨rfl, rfl, hy0, AgY.rf⟩)
set_option maxHeartbeats 4000000 in
set_option maxRecDepth 100000 in
/-- ofKind 7 -/
theorem c_ofKind7Z (l : Launch) (K : gK) (G : gW) (L1 L2 : Nat → Nat → Nat) (M : Nat → Nat) (hy : Nat) (y : YV) (i : Nat) (hlS : l.stackTraces = false) (hy0 : YardC K L1 L2 M hy G y) (hi : i < yKc y) : gM l yX4_ofKind wsX4_ofKind 4 83 0 0 K [.ref hy, .int (nI i), .int (nI 7)] G (oPost K L1 L2 M hy G (oOfKind y (nI i) (nI 7))) (oX K L1 L2 M hy G (oOfKind y (nI i) (nI 7)) (ex2 eIO eIA)) := by
  refine gM.of (cc := cX4_ofKind) (maxL := 4) (ret := (some .int)) (by decide) rfl (Nat.le_of_ble_eq_true rfl) ?_
  intro p e s m below meth c A S hr hlocks htab hname hE hA hI ls hl
  have hx := S.1
  have hb := S.2.1
  have hml := S.2.2.1
  have hl : lv_has ls 4 [(0, .ref hy), (1, .int (nI i)), (2, .int (nI 7))] := hl
  have hs := hy0.2.1
  have hy9 := hy0.1
  have h44 := hs.1.2.2.2.1
  have h6 := hs.1.2.2.2.2.1
  have hf2 := hs.1.2.2.2.2.2
  have hc40 := hy0.2.2.2.2
  have hri : inR (nI i) (yKc y) = true := inR_nI hi (by omega)
  have hiN : iN (nI i) = i := iN_nI (by omega)
  obtain ⟨hkd, hkok⟩ := hs.kind hi
  have hkok9 := hkok
  obtain ⟨k1, k2, k3, k4, k5, k6, k7, k8, k9⟩ := hkok9
  have ho : oOfKind y (nI i) (nI 7) = (0, kOf (yK y i) 7, y) := by unfold oOfKind; rw [if_pos hri, if_pos (by decide), hiN, iN_nI (by decide)]
  obtain ⟨H, hHe⟩ : ∃ z, z = s.heap := ⟨_, rfl⟩
  obtain ⟨locs, hLe⟩ : ∃ z : List Loc, z = [] := ⟨_, rfl⟩
  rw [← hHe, ← hLe]
  have hI : gI K A s G H locs := by rw [hHe, hLe]; exact hI
  clear hHe hLe
  refine lv_aload_n hx hb dX4_ofKind_0 rfl (lv_at hl 0 rfl) ?_
  refine lv_iload_n hx hb dX4_ofKind_1 rfl (lv_at hl 1 rfl) ?_
  refine g_callV (As := [.int (nI i)]) (rest := []) (b := hy) (n := 1) S hE hI hA (c_kindOfIn l K _ L1 L2 M hy y i hlS hy0 hi) gX4_ofKind_X4_kindOf rfl (by decide +kernel) ⟨Nat.le_of_ble_eq_true rfl, Nat.le_of_ble_eq_true rfl⟩ (g_hro hE hI hy9 rfl) rfl hl.1 rfl (Nat.le_of_ble_eq_true rfl) dX4_ofKind_2 ⟨Nat.le_of_ble_eq_true rfl, Nat.le_of_ble_eq_true rfl⟩ (fun E ce q9 Gx H locs hx9 hI hce hcv hcl => ?_) (fun rv Gc_2 H locs hp hI => ?_)
  · skip
    exact hx9.elim
  obtain ⟨rfl, hq9⟩ := hp
  rw [hq9] at hI
  refine W.eq (g2 := F0 m 5 ls [.ref (L1 5 i)]) rfl ?_
  refine lv_astore_n (lv' := [(3, .ref (L1 5 i)), (0, .ref hy), (1, .int (nI i)), (2, .int (nI 7))]) hx hb dX4_ofKind_5 rfl hl (by decide) rfl (fun ls hl => ?_)
  refine lv_iload_n hx hb dX4_ofKind_6 rfl (lv_at hl 3 rfl) ?_
  refine lv_tableIn (tgt := 87) (off := 80) hx hb dX4_ofKind_7 (by decide +kernel) (by decide +kernel) (by decide +kernel) (by decide) ?_
  refine lv_aload_n hx hb dX4_ofKind_87 rfl (lv_at hl 0 rfl) ?_
  refine g_getN S hE hI (C := RX0) (T := TX0) (N := 8) (ref := "StonecutterYard$Kind") (host := "StonecutterYard") (fun w h => (List.mem_cons_of_mem _ (List.mem_append_left _ (List.mem_append_left _ (List.mem_append_left _ (List.mem_append_left _ (List.mem_append_right _ h))))))) hkd rfl 7 (by decide) (List.mem_of_getElem? (i := 15) rfl) (fun _ h9 => h9) (v := .int (nI (kD (yK y i)))) rfl dX4_ofKind_88 ?_
  exact g_iret S hI hr hlocks (Nat.zero_le _) (Nat.zero_le _) dX4_ofKind_91 (by rw [ho]; exact ⟨rfl, rfl, hy0, AgY.rf⟩)
set_option maxHeartbeats 4000000 in
set_option maxRecDepth 100000 in
/-- fits -/
theorem c_fitsCZ (l : Launch) (K : gK) (G : gW) (L1 L2 : Nat → Nat → Nat) (M : Nat → Nat) (hy : Nat) (y : YV) (i j : Nat) (hlS : l.stackTraces = false) (hy0 : YardC K L1 L2 M hy G y) (hi : i < ySc y) (hj : j < yKc y) : gM l yX4_fits wsX4_fits 4 90 0 0 K [.ref hy, .int (nI i), .int (nI j)] G (oPost K L1 L2 M hy G (oFits y (nI i) (nI j))) (oX K L1 L2 M hy G (oFits y (nI i) (nI j)) (ex1 eIO)) := by
  refine gM.of (cc := cX4_fits) (maxL := 3) (ret := (some .int)) (by decide) rfl (Nat.le_of_ble_eq_true rfl) ?_
  intro p e s m below meth c A S hr hlocks htab hname hE hA hI ls hl
  have hx := S.1
  have hb := S.2.1
  have hml := S.2.2.1
  have hl : lv_has ls 3 [(0, .ref hy), (1, .int (nI i)), (2, .int (nI j))] := hl
  have hs := hy0.2.1
  have hy9 := hy0.1
  have h44 := hs.1.2.2.2.1
  have h6 := hs.1.2.2.2.2.1
  have hf2 := hs.1.2.2.2.2.2
  have hc40 := hy0.2.2.2.2
  have hri : inR (nI i) (ySc y) = true := inR_nI hi (by omega)
  have hiN : iN (nI i) = i := iN_nI (by omega)
  have hrj : inR (nI j) (yKc y) = true := inR_nI hj (by omega)
  have hjN : iN (nI j) = j := iN_nI (by omega)
  obtain ⟨P, hsl, hpt, hpk, hsok⟩ := hs.slab hi
  have hsok9 := hsok
  obtain ⟨s1, s2, s3, s4, s5, s6, s7, s8⟩ := hsok9
  obtain ⟨hkd, hkok⟩ := hs.kind hj
  have hkok9 := hkok
  obtain ⟨k1, k2, k3, k4, k5, k6, k7, k8, k9⟩ := hkok9
  have ho : oFits y (nI i) (nI j) = (0, oI (sFits (yS y i) (yK y j)), y) := by unfold oFits; rw [if_pos (by rw [hri, hrj]; rfl), hiN, hjN]
  obtain ⟨H, hHe⟩ : ∃ z, z = s.heap := ⟨_, rfl⟩
  obtain ⟨locs, hLe⟩ : ∃ z : List Loc, z = [] := ⟨_, rfl⟩
  rw [← hHe, ← hLe]
  have hI : gI K A s G H locs := by rw [hHe, hLe]; exact hI
  clear hHe hLe
  refine lv_aload_n hx hb dX4_fits_0 rfl (lv_at hl 0 rfl) ?_
  refine lv_iload_n hx hb dX4_fits_1 rfl (lv_at hl 1 rfl) ?_
  refine g_callV (As := [.int (nI i)]) (rest := []) (b := hy) (n := 1) S hE hI hA (c_slabOfIn l K _ L1 L2 M hy y i hlS hy0 hi) gX4_fits_X4_slabOf rfl (by decide +kernel) ⟨Nat.le_of_ble_eq_true rfl, Nat.le_of_ble_eq_true rfl⟩ (g_hro hE hI hy9 rfl) rfl hl.1 rfl (Nat.le_of_ble_eq_true rfl) dX4_fits_2 ⟨Nat.le_of_ble_eq_true rfl, Nat.le_of_ble_eq_true rfl⟩ (fun E ce q9 Gx H locs hx9 hI hce hcv hcl => ?_) (fun rv Gc_2 H locs hp hI => ?_)
  · skip
    exact hx9.elim
  obtain ⟨rfl, hq9⟩ := hp
  rw [hq9] at hI
  refine W.eq (g2 := F0 m 5 ls [.ref (L1 3 i)]) rfl ?_
  refine lv_aload_n hx hb dX4_fits_5 rfl (lv_at hl 0 rfl) ?_
  refine lv_iload_n hx hb dX4_fits_6 rfl (lv_at hl 2 rfl) ?_
  refine g_callV (As := [.int (nI j)]) (rest := [.ref (L1 3 i)]) (b := hy) (n := 1) S hE hI hA (c_kindOfIn l K _ L1 L2 M hy y j hlS hy0 hj) gX4_fits_X4_kindOf rfl (by decide +kernel) ⟨Nat.le_of_ble_eq_true rfl, Nat.le_of_ble_eq_true rfl⟩ (g_hro hE hI hy9 rfl) rfl hl.1 rfl (Nat.le_of_ble_eq_true rfl) dX4_fits_7 ⟨Nat.le_of_ble_eq_true rfl, Nat.le_of_ble_eq_true rfl⟩ (fun E ce q9 Gx H locs hx9 hI hce hcv hcl => ?_) (fun rv Gc_7 H locs hp hI => ?_)
  · skip
    exact hx9.elim
  obtain ⟨rfl, hq9⟩ := hp
  rw [hq9] at hI
  refine W.eq (g2 := F0 m 10 ls [.ref (L1 5 j), .ref (L1 3 i)]) rfl ?_
  refine g_callV (As := [.ref (L1 5 j)]) (rest := []) (b := (L1 3 i)) (n := 1) S hE hI hA (c_X2_firstManner l K _ (1, 3, i) (1, 4, i) (1, 5, j) (L1 3 i) (L1 5 j) (yS y i) (L1 4 i) P (yK y j) hsl hpt hkd hsok hkok hpk) gX4_fits_X2_firstManner rfl (by decide +kernel) ⟨Nat.le_of_ble_eq_true rfl, Nat.le_of_ble_eq_true rfl⟩ (g_hro hE hI hsl rfl) rfl hl.1 rfl (Nat.le_of_ble_eq_true rfl) dX4_fits_10 ⟨Nat.le_of_ble_eq_true rfl, Nat.le_of_ble_eq_true rfl⟩ (fun E ce q9 Gx H1 locs1 hx9 => hx9.elim) (fun rv Gc_10 H locs hp hI => ?_)
  obtain ⟨rfl, hq9⟩ := hp
  rw [hq9] at hI
  refine W.eq (g2 := F0 m 13 ls [.int (oI (sFits (yS y i) (yK y j)))]) rfl ?_
  exact g_iret S hI hr hlocks (Nat.zero_le _) (Nat.zero_le _) dX4_fits_13 (by rw [ho]; exact ⟨rfl, rfl, hy0, AgY.rf⟩)
set_option maxHeartbeats 4000000 in
set_option maxRecDepth 100000 in
/-- worth -/
theorem c_worthBZ (l : Launch) (K : gK) (G : gW) (L1 L2 : Nat → Nat → Nat) (M : Nat → Nat) (hy : Nat) (y : YV) (w h g : Nat) (hlS : l.stackTraces = false) (hy0 : YardC K L1 L2 M hy G y) (hb9 : (1 ≤ w ∧ w ≤ 24) ∧ (1 ≤ h ∧ h ≤ 24) ∧ g ≤ 1) : gM l yX4_worth wsX4_worth 6 144 0 0 K [.ref hy, .int (nI w), .int (nI h), .int (nI g)] G (oPost K L1 L2 M hy G (oWorth y (nI w) (nI h) (nI g))) (oX K L1 L2 M hy G (oWorth y (nI w) (nI h) (nI g)) (ex1 eIA)) := by
  refine gM.of (cc := cX4_worth) (maxL := 4) (ret := (some .int)) (by decide) rfl (Nat.le_of_ble_eq_true rfl) ?_
  intro p e s m below meth c A S hr hlocks htab hname hE hA hI ls hl
  have hx := S.1
  have hb := S.2.1
  have hml := S.2.2.1
  have hl : lv_has ls 4 [(0, .ref hy), (1, .int (nI w)), (2, .int (nI h)), (3, .int (nI g))] := hl
  have hs := hy0.2.1
  have hy9 := hy0.1
  have h44 := hs.1.2.2.2.1
  have h6 := hs.1.2.2.2.2.1
  have hf2 := hs.1.2.2.2.2.2
  have hc40 := hy0.2.2.2.2
  have hp9 := inP_nI hb9
  obtain ⟨⟨b1, b2⟩, ⟨b3, b4⟩, b5⟩ := hb9
  obtain ⟨vW, vC, vT, vN, kf0, hw0⟩ := hy0.2.2.2.1
  have ho : oWorth y (nI w) (nI h) (nI g) = (0, nI (wV (ySt2 y g) (yF y) w h), y) := by unfold oWorth; rw [if_pos hp9, iN_nI (by omega), iN_nI (by omega), iN_nI (by omega)]
  obtain ⟨H, hHe⟩ : ∃ z, z = s.heap := ⟨_, rfl⟩
  obtain ⟨locs, hLe⟩ : ∃ z : List Loc, z = [] := ⟨_, rfl⟩
  rw [← hHe, ← hLe]
  have hI : gI K A s G H locs := by rw [hHe, hLe]; exact hI
  clear hHe hLe
  refine lv_iload_n hx hb dX4_worth_0 rfl (lv_at hl 1 rfl) ?_
  refine lv_iload_n hx hb dX4_worth_1 rfl (lv_at hl 2 rfl) ?_
  refine lv_iload_n hx hb dX4_worth_2 rfl (lv_at hl 3 rfl) ?_
  refine g_callS (As := [.int (nI w), .int (nI h), .int (nI g)]) (rest := []) (n := 3) S hE hI hA (c_reqPieceIn l K _ (nI w) (nI h) (nI g) hlS hp9) gX4_worth_X4_requirePiece rfl (by decide +kernel) ⟨Nat.le_of_ble_eq_true rfl, Nat.le_of_ble_eq_true rfl⟩ rfl hl.1 rfl (Nat.le_of_ble_eq_true rfl) dX4_worth_3 ⟨Nat.le_of_ble_eq_true rfl, Nat.le_of_ble_eq_true rfl⟩ (fun E ce q9 Gx H1 locs1 hx9 => hx9.elim) (fun rv Gc_3 H locs hp hI => ?_)
  obtain ⟨rfl, hq9⟩ := hp
  rw [hq9] at hI
  refine W.eq (g2 := F0 m 6 ls []) rfl ?_
  refine lv_aload_n hx hb dX4_worth_6 rfl (lv_at hl 0 rfl) ?_
  refine g_get S hE hI (C := RX4) (T := TX4) (N := 3) (ref := "StonecutterYard") (fun w h => (List.mem_cons_of_mem _ (List.mem_append_left _ (List.mem_append_left _ (List.mem_append_left _ (List.mem_append_left _ (List.mem_append_right _ h))))))) hy9 rfl 2 (by decide) (List.mem_cons_of_mem _ (List.mem_append_left _ (List.mem_append_left _ (List.mem_append_left _ (List.mem_append_left _ (List.mem_append_left _ (List.mem_append_left _ (List.mem_of_getElem? (i := 0) rfl)))))))) (fun _ h9 => h9) (v := .ref (M 0)) rfl dX4_worth_7 ?_
  refine lv_aload_n hx hb dX4_worth_10 rfl (lv_at hl 0 rfl) ?_
  refine g_get S hE hI (C := RX4) (T := TX4) (N := 3) (ref := "StonecutterYard") (fun w h => (List.mem_cons_of_mem _ (List.mem_append_left _ (List.mem_append_left _ (List.mem_append_left _ (List.mem_append_left _ (List.mem_append_right _ h))))))) hy9 rfl 0 (by decide) (List.mem_cons_of_mem _ (List.mem_append_left _ (List.mem_append_left _ (List.mem_append_left _ (List.mem_append_left _ (List.mem_append_left _ (List.mem_append_left _ (List.mem_of_getElem? (i := 1) rfl)))))))) (fun _ h9 => h9) (v := .ref (L1 0 0)) rfl dX4_worth_11 ?_
  refine lv_iload_n hx hb dX4_worth_14 rfl (lv_at hl 1 rfl) ?_
  refine lv_iload_n hx hb dX4_worth_15 rfl (lv_at hl 2 rfl) ?_
  refine lv_iload_n hx hb dX4_worth_16 rfl (lv_at hl 3 rfl) ?_
  refine g_callV (As := [.ref (L1 0 0), .int (nI w), .int (nI h), .int (nI g)]) (rest := []) (b := (M 0)) (n := 4) S hE hI hA (c_X1_measure l K _ 3 M vW vC vT vN kf0 true 1 L1 y w h g hw0 hs (by decide) ⟨by omega, by omega, by omega⟩) gX4_worth_X1_measure rfl (by decide +kernel) ⟨Nat.le_of_ble_eq_true rfl, Nat.le_of_ble_eq_true rfl⟩ (g_hro hE hI hw0.1 rfl) rfl hl.1 rfl (Nat.le_of_ble_eq_true rfl) dX4_worth_17 ⟨Nat.le_of_ble_eq_true rfl, Nat.le_of_ble_eq_true rfl⟩ (fun E ce q9 Gx H1 locs1 hx9 => hx9.elim) (fun rv Gc_17 H locs hp hI => ?_)
  obtain ⟨rfl, ⟨W1, C1, T1, hw1, htb⟩, ha1⟩ := hp
  have hy1 : YardC K L1 L2 M hy Gc_17 y := hy0.saw hw1 ha1
  have hcell := htb w h (by omega) (by omega) (Nat.le_refl _) (Nat.le_refl _)
  refine W.eq (g2 := F0 m 20 ls []) rfl ?_
  refine lv_aload_n hx hb dX4_worth_20 rfl (lv_at hl 0 rfl) ?_
  refine g_get S hE hI (C := RX4) (T := TX4) (N := 3) (ref := "StonecutterYard") (fun w h => (List.mem_cons_of_mem _ (List.mem_append_left _ (List.mem_append_left _ (List.mem_append_left _ (List.mem_append_left _ (List.mem_append_right _ h))))))) hy1.1 rfl 2 (by decide) (List.mem_cons_of_mem _ (List.mem_append_left _ (List.mem_append_left _ (List.mem_append_left _ (List.mem_append_left _ (List.mem_append_left _ (List.mem_append_left _ (List.mem_of_getElem? (i := 0) rfl)))))))) (fun _ h9 => h9) (v := .ref (M 0)) rfl dX4_worth_21 ?_
  refine lv_iload_n hx hb dX4_worth_24 rfl (lv_at hl 1 rfl) ?_
  refine lv_iload_n hx hb dX4_worth_25 rfl (lv_at hl 2 rfl) ?_
  refine g_callV (As := [.int (nI w), .int (nI h)]) (rest := []) (b := (M 0)) (n := 2) S hE hI hA (c_X1_worthOf l K _ 3 M W1 C1 T1 vN (yF y) w h hw1 ⟨b2, b4⟩) gX4_worth_X1_worthOf rfl (by decide +kernel) ⟨Nat.le_of_ble_eq_true rfl, Nat.le_of_ble_eq_true rfl⟩ (g_hro hE hI hw1.1 rfl) rfl hl.1 rfl (Nat.le_of_ble_eq_true rfl) dX4_worth_26 ⟨Nat.le_of_ble_eq_true rfl, Nat.le_of_ble_eq_true rfl⟩ (fun E ce q9 Gx H1 locs1 hx9 => hx9.elim) (fun rv Gc_26 H locs hp hI => ?_)
  obtain ⟨rfl, hq9⟩ := hp
  rw [hq9] at hI
  rw [hcell.1]
  refine W.eq (g2 := F0 m 29 ls [.int (nI (wV (ySt2 y g) (yF y) w h))]) rfl ?_
  exact g_iret S hI hr hlocks (Nat.zero_le _) (Nat.zero_le _) dX4_worth_29 (by rw [ho]; exact ⟨rfl, rfl, hy1, ha1.y (by decide)⟩)
set_option maxHeartbeats 4000000 in
set_option maxRecDepth 100000 in
/-- best -/
theorem c_bestBZ (l : Launch) (K : gK) (G : gW) (L1 L2 : Nat → Nat → Nat) (M : Nat → Nat) (hy : Nat) (y : YV) (w h g : Nat) (hlS : l.stackTraces = false) (hy0 : YardC K L1 L2 M hy G y) (hb9 : (1 ≤ w ∧ w ≤ 24) ∧ (1 ≤ h ∧ h ≤ 24) ∧ g ≤ 1) : gM l yX4_bestCut wsX4_bestCut 6 144 0 0 K [.ref hy, .int (nI w), .int (nI h), .int (nI g)] G (oPost K L1 L2 M hy G (oBest y (nI w) (nI h) (nI g))) (oX K L1 L2 M hy G (oBest y (nI w) (nI h) (nI g)) (ex1 eIA)) := by
  refine gM.of (cc := cX4_bestCut) (maxL := 4) (ret := (some .int)) (by decide) rfl (Nat.le_of_ble_eq_true rfl) ?_
  intro p e s m below meth c A S hr hlocks htab hname hE hA hI ls hl
  have hx := S.1
  have hb := S.2.1
  have hml := S.2.2.1
  have hl : lv_has ls 4 [(0, .ref hy), (1, .int (nI w)), (2, .int (nI h)), (3, .int (nI g))] := hl
  have hs := hy0.2.1
  have hy9 := hy0.1
  have h44 := hs.1.2.2.2.1
  have h6 := hs.1.2.2.2.2.1
  have hf2 := hs.1.2.2.2.2.2
  have hc40 := hy0.2.2.2.2
  have hp9 := inP_nI hb9
  obtain ⟨⟨b1, b2⟩, ⟨b3, b4⟩, b5⟩ := hb9
  obtain ⟨vW, vC, vT, vN, kf0, hw0⟩ := hy0.2.2.2.1
  have ho : oBest y (nI w) (nI h) (nI g) = (0, cE (qV (ySt2 y g) (yF y) w h).2, y) := by unfold oBest; rw [if_pos hp9, iN_nI (by omega), iN_nI (by omega), iN_nI (by omega)]
  obtain ⟨H, hHe⟩ : ∃ z, z = s.heap := ⟨_, rfl⟩
  obtain ⟨locs, hLe⟩ : ∃ z : List Loc, z = [] := ⟨_, rfl⟩
  rw [← hHe, ← hLe]
  have hI : gI K A s G H locs := by rw [hHe, hLe]; exact hI
  clear hHe hLe
  refine lv_iload_n hx hb dX4_bestCut_0 rfl (lv_at hl 1 rfl) ?_
  refine lv_iload_n hx hb dX4_bestCut_1 rfl (lv_at hl 2 rfl) ?_
  refine lv_iload_n hx hb dX4_bestCut_2 rfl (lv_at hl 3 rfl) ?_
  refine g_callS (As := [.int (nI w), .int (nI h), .int (nI g)]) (rest := []) (n := 3) S hE hI hA (c_reqPieceIn l K _ (nI w) (nI h) (nI g) hlS hp9) gX4_bestCut_X4_requirePiece rfl (by decide +kernel) ⟨Nat.le_of_ble_eq_true rfl, Nat.le_of_ble_eq_true rfl⟩ rfl hl.1 rfl (Nat.le_of_ble_eq_true rfl) dX4_bestCut_3 ⟨Nat.le_of_ble_eq_true rfl, Nat.le_of_ble_eq_true rfl⟩ (fun E ce q9 Gx H1 locs1 hx9 => hx9.elim) (fun rv Gc_3 H locs hp hI => ?_)
  obtain ⟨rfl, hq9⟩ := hp
  rw [hq9] at hI
  refine W.eq (g2 := F0 m 6 ls []) rfl ?_
  refine lv_aload_n hx hb dX4_bestCut_6 rfl (lv_at hl 0 rfl) ?_
  refine g_get S hE hI (C := RX4) (T := TX4) (N := 3) (ref := "StonecutterYard") (fun w h => (List.mem_cons_of_mem _ (List.mem_append_left _ (List.mem_append_left _ (List.mem_append_left _ (List.mem_append_left _ (List.mem_append_right _ h))))))) hy9 rfl 2 (by decide) (List.mem_cons_of_mem _ (List.mem_append_left _ (List.mem_append_left _ (List.mem_append_left _ (List.mem_append_left _ (List.mem_append_left _ (List.mem_append_left _ (List.mem_of_getElem? (i := 0) rfl)))))))) (fun _ h9 => h9) (v := .ref (M 0)) rfl dX4_bestCut_7 ?_
  refine lv_aload_n hx hb dX4_bestCut_10 rfl (lv_at hl 0 rfl) ?_
  refine g_get S hE hI (C := RX4) (T := TX4) (N := 3) (ref := "StonecutterYard") (fun w h => (List.mem_cons_of_mem _ (List.mem_append_left _ (List.mem_append_left _ (List.mem_append_left _ (List.mem_append_left _ (List.mem_append_right _ h))))))) hy9 rfl 0 (by decide) (List.mem_cons_of_mem _ (List.mem_append_left _ (List.mem_append_left _ (List.mem_append_left _ (List.mem_append_left _ (List.mem_append_left _ (List.mem_append_left _ (List.mem_of_getElem? (i := 1) rfl)))))))) (fun _ h9 => h9) (v := .ref (L1 0 0)) rfl dX4_bestCut_11 ?_
  refine lv_iload_n hx hb dX4_bestCut_14 rfl (lv_at hl 1 rfl) ?_
  refine lv_iload_n hx hb dX4_bestCut_15 rfl (lv_at hl 2 rfl) ?_
  refine lv_iload_n hx hb dX4_bestCut_16 rfl (lv_at hl 3 rfl) ?_
  refine g_callV (As := [.ref (L1 0 0), .int (nI w), .int (nI h), .int (nI g)]) (rest := []) (b := (M 0)) (n := 4) S hE hI hA (c_X1_measure l K _ 3 M vW vC vT vN kf0 true 1 L1 y w h g hw0 hs (by decide) ⟨by omega, by omega, by omega⟩) gX4_bestCut_X1_measure rfl (by decide +kernel) ⟨Nat.le_of_ble_eq_true rfl, Nat.le_of_ble_eq_true rfl⟩ (g_hro hE hI hw0.1 rfl) rfl hl.1 rfl (Nat.le_of_ble_eq_true rfl) dX4_bestCut_17 ⟨Nat.le_of_ble_eq_true rfl, Nat.le_of_ble_eq_true rfl⟩ (fun E ce q9 Gx H1 locs1 hx9 => hx9.elim) (fun rv Gc_17 H locs hp hI => ?_)
  obtain ⟨rfl, ⟨W1, C1, T1, hw1, htb⟩, ha1⟩ := hp
  have hy1 : YardC K L1 L2 M hy Gc_17 y := hy0.saw hw1 ha1
  have hcell := htb w h (by omega) (by omega) (Nat.le_refl _) (Nat.le_refl _)
  refine W.eq (g2 := F0 m 20 ls []) rfl ?_
  refine lv_aload_n hx hb dX4_bestCut_20 rfl (lv_at hl 0 rfl) ?_
  refine g_get S hE hI (C := RX4) (T := TX4) (N := 3) (ref := "StonecutterYard") (fun w h => (List.mem_cons_of_mem _ (List.mem_append_left _ (List.mem_append_left _ (List.mem_append_left _ (List.mem_append_left _ (List.mem_append_right _ h))))))) hy1.1 rfl 2 (by decide) (List.mem_cons_of_mem _ (List.mem_append_left _ (List.mem_append_left _ (List.mem_append_left _ (List.mem_append_left _ (List.mem_append_left _ (List.mem_append_left _ (List.mem_of_getElem? (i := 0) rfl)))))))) (fun _ h9 => h9) (v := .ref (M 0)) rfl dX4_bestCut_21 ?_
  refine lv_iload_n hx hb dX4_bestCut_24 rfl (lv_at hl 1 rfl) ?_
  refine lv_iload_n hx hb dX4_bestCut_25 rfl (lv_at hl 2 rfl) ?_
  refine g_callV (As := [.int (nI w), .int (nI h)]) (rest := []) (b := (M 0)) (n := 2) S hE hI hA (c_X1_cutOf l K _ 3 M W1 C1 T1 vN (yF y) w h hw1 ⟨b2, b4⟩) gX4_bestCut_X1_cutOf rfl (by decide +kernel) ⟨Nat.le_of_ble_eq_true rfl, Nat.le_of_ble_eq_true rfl⟩ (g_hro hE hI hw1.1 rfl) rfl hl.1 rfl (Nat.le_of_ble_eq_true rfl) dX4_bestCut_26 ⟨Nat.le_of_ble_eq_true rfl, Nat.le_of_ble_eq_true rfl⟩ (fun E ce q9 Gx H1 locs1 hx9 => hx9.elim) (fun rv Gc_26 H locs hp hI => ?_)
  obtain ⟨rfl, hq9⟩ := hp
  rw [hq9] at hI
  rw [hcell.2.1]
  refine W.eq (g2 := F0 m 29 ls [.int (cE (qV (ySt2 y g) (yF y) w h).2)]) rfl ?_
  exact g_iret S hI hr hlocks (Nat.zero_le _) (Nat.zero_le _) dX4_bestCut_29 (by rw [ho]; exact ⟨rfl, rfl, hy1, ha1.y (by decide)⟩)
set_option maxHeartbeats 4000000 in
set_option maxRecDepth 100000 in
/-- planPays -/
theorem c_paysBZ (l : Launch) (K : gK) (G : gW) (L1 L2 : Nat → Nat → Nat) (M : Nat → Nat) (hy : Nat) (y : YV) (n9 : Nat) (hlS : l.stackTraces = false) (hy0 : YardC K L1 L2 M hy G y) (hn9 : 1 ≤ n9 ∧ n9 ≤ 20) : gM l yX4_planPays wsX4_planPays 7 169 0 0 K [.ref hy, .int (nI n9)] G (oPost K L1 L2 M hy G (oPays y (nI n9))) (oX K L1 L2 M hy G (oPays y (nI n9)) (ex1 eIA)) := by
  refine gM.of (cc := cX4_planPays) (maxL := 2) (ret := (some .int)) (by decide) rfl (Nat.le_of_ble_eq_true rfl) ?_
  intro p e s m below meth c A S hr hlocks htab hname hE hA hI ls hl
  have hx := S.1
  have hb := S.2.1
  have hml := S.2.2.1
  have hl : lv_has ls 2 [(0, .ref hy), (1, .int (nI n9))] := hl
  have hs := hy0.2.1
  have hy9 := hy0.1
  have h44 := hs.1.2.2.2.1
  have h6 := hs.1.2.2.2.2.1
  have hf2 := hs.1.2.2.2.2.2
  have hc40 := hy0.2.2.2.2
  obtain ⟨y2, ht0⟩ := hy0.2.2.1
  have ho : oPays y (nI n9) = (0, yPays y n9, y) := by unfold oPays; rw [if_pos (by rw [inB_nI (by omega)]; exact decide_eq_true (by omega)), iN_nI (by omega)]
  obtain ⟨H, hHe⟩ : ∃ z, z = s.heap := ⟨_, rfl⟩
  obtain ⟨locs, hLe⟩ : ∃ z : List Loc, z = [] := ⟨_, rfl⟩
  rw [← hHe, ← hLe]
  have hI : gI K A s G H locs := by rw [hHe, hLe]; exact hI
  clear hHe hLe
  refine lv_iload_n hx hb dX4_planPays_0 rfl (lv_at hl 1 rfl) ?_
  refine g_callS (As := [.int (nI n9)]) (rest := []) (n := 1) S hE hI hA (c_reqMostIn l K _ n9 hlS hn9) gX4_planPays_X4_requireMost rfl (by decide +kernel) ⟨Nat.le_of_ble_eq_true rfl, Nat.le_of_ble_eq_true rfl⟩ rfl hl.1 rfl (Nat.le_of_ble_eq_true rfl) dX4_planPays_1 ⟨Nat.le_of_ble_eq_true rfl, Nat.le_of_ble_eq_true rfl⟩ (fun E ce q9 Gx H1 locs1 hx9 => hx9.elim) (fun rv Gc_1 H locs hp hI => ?_)
  obtain ⟨rfl, hq9⟩ := hp
  rw [hq9] at hI
  refine W.eq (g2 := F0 m 4 ls []) rfl ?_
  refine lv_aload_n hx hb dX4_planPays_4 rfl (lv_at hl 0 rfl) ?_
  refine g_get S hE hI (C := RX4) (T := TX4) (N := 3) (ref := "StonecutterYard") (fun w h => (List.mem_cons_of_mem _ (List.mem_append_left _ (List.mem_append_left _ (List.mem_append_left _ (List.mem_append_left _ (List.mem_append_right _ h))))))) hy9 rfl 1 (by decide) (List.mem_cons_of_mem _ (List.mem_append_left _ (List.mem_append_left _ (List.mem_append_left _ (List.mem_append_left _ (List.mem_append_left _ (List.mem_append_left _ (List.mem_of_getElem? (i := 0) rfl)))))))) (fun _ h9 => h9) (v := .ref (L2 0 0)) rfl dX4_planPays_5 ?_
  refine lv_aload_n hx hb dX4_planPays_8 rfl (lv_at hl 0 rfl) ?_
  refine g_get S hE hI (C := RX4) (T := TX4) (N := 3) (ref := "StonecutterYard") (fun w h => (List.mem_cons_of_mem _ (List.mem_append_left _ (List.mem_append_left _ (List.mem_append_left _ (List.mem_append_left _ (List.mem_append_right _ h))))))) hy9 rfl 0 (by decide) (List.mem_cons_of_mem _ (List.mem_append_left _ (List.mem_append_left _ (List.mem_append_left _ (List.mem_append_left _ (List.mem_append_left _ (List.mem_append_left _ (List.mem_of_getElem? (i := 1) rfl)))))))) (fun _ h9 => h9) (v := .ref (L1 0 0)) rfl dX4_planPays_9 ?_
  refine g_callV (As := [.ref (L1 0 0)]) (rest := []) (b := (L2 0 0)) (n := 1) S hE hI hA (c_X3_copyFrom l K _ false 2 L2 y2 true 1 L1 y ht0 hs (by decide)) gX4_planPays_X3_copyFrom rfl (by decide +kernel) ⟨Nat.le_of_ble_eq_true rfl, Nat.le_of_ble_eq_true rfl⟩ (g_hro hE hI ht0.1.1 rfl) rfl hl.1 rfl (Nat.le_of_ble_eq_true rfl) dX4_planPays_12 ⟨Nat.le_of_ble_eq_true rfl, Nat.le_of_ble_eq_true rfl⟩ (fun E ce q9 Gx H1 locs1 hx9 => hx9.elim) (fun rv Gc_12 H locs hp hI => ?_)
  obtain ⟨rfl, hst, hat⟩ := hp
  have hyc : YardC K L1 L2 M hy Gc_12 y := hy0.trial hst hat
  refine W.eq (g2 := F0 m 15 ls []) rfl ?_
  refine lv_aload_n hx hb dX4_planPays_15 rfl (lv_at hl 0 rfl) ?_
  refine g_get S hE hI (C := RX4) (T := TX4) (N := 3) (ref := "StonecutterYard") (fun w h => (List.mem_cons_of_mem _ (List.mem_append_left _ (List.mem_append_left _ (List.mem_append_left _ (List.mem_append_left _ (List.mem_append_right _ h))))))) hyc.1 rfl 1 (by decide) (List.mem_cons_of_mem _ (List.mem_append_left _ (List.mem_append_left _ (List.mem_append_left _ (List.mem_append_left _ (List.mem_append_left _ (List.mem_append_left _ (List.mem_of_getElem? (i := 0) rfl)))))))) (fun _ h9 => h9) (v := .ref (L2 0 0)) rfl dX4_planPays_16 ?_
  refine lv_iload_n hx hb dX4_planPays_19 rfl (lv_at hl 1 rfl) ?_
  refine g_callV (As := [.int (nI n9)]) (rest := []) (b := (L2 0 0)) (n := 1) S hE hI hA (c_X3_takeByPlan l K _ false 2 L2 y n9 hst hn9.2) gX4_planPays_X3_takeByPlan rfl (by decide +kernel) ⟨Nat.le_of_ble_eq_true rfl, Nat.le_of_ble_eq_true rfl⟩ (g_hro hE hI hst.1.1 rfl) rfl hl.1 rfl (Nat.le_of_ble_eq_true rfl) dX4_planPays_20 ⟨Nat.le_of_ble_eq_true rfl, Nat.le_of_ble_eq_true rfl⟩ (fun E ce q9 Gx H1 locs1 hx9 => hx9.elim) (fun rv Gc_20 H locs hp hI => ?_)
  obtain ⟨rfl, hst2, hat2⟩ := hp
  have hyp : YardC K L1 L2 M hy Gc_20 y := hyc.trial hst2 hat2
  refine W.eq (g2 := F0 m 23 ls [.int (nI ((yPlan n9 y).1))]) rfl ?_
  refine lv_pop hx hb dX4_planPays_23 rfl ?_
  refine lv_aload_n hx hb dX4_planPays_24 rfl (lv_at hl 0 rfl) ?_
  refine g_get S hE hI (C := RX4) (T := TX4) (N := 3) (ref := "StonecutterYard") (fun w h => (List.mem_cons_of_mem _ (List.mem_append_left _ (List.mem_append_left _ (List.mem_append_left _ (List.mem_append_left _ (List.mem_append_right _ h))))))) hyp.1 rfl 1 (by decide) (List.mem_cons_of_mem _ (List.mem_append_left _ (List.mem_append_left _ (List.mem_append_left _ (List.mem_append_left _ (List.mem_append_left _ (List.mem_append_left _ (List.mem_of_getElem? (i := 0) rfl)))))))) (fun _ h9 => h9) (v := .ref (L2 0 0)) rfl dX4_planPays_25 ?_
  refine g_callV (As := []) (rest := []) (b := (L2 0 0)) (n := 0) S hE hI hA (c_X3_sumPaid l K _ false 2 L2 (yPlan n9 y).2 hst2) gX4_planPays_X3_sumPaid rfl (by decide +kernel) ⟨Nat.le_of_ble_eq_true rfl, Nat.le_of_ble_eq_true rfl⟩ (g_hro hE hI hst2.1.1 rfl) rfl hl.1 rfl (Nat.le_of_ble_eq_true rfl) dX4_planPays_28 ⟨Nat.le_of_ble_eq_true rfl, Nat.le_of_ble_eq_true rfl⟩ (fun E ce q9 Gx H1 locs1 hx9 => hx9.elim) (fun rv Gc_28 H locs hp hI => ?_)
  obtain ⟨rfl, hq9⟩ := hp
  rw [hq9] at hI
  refine W.eq (g2 := F0 m 31 ls [.int (nI (yPaid (yPlan n9 y).2))]) rfl ?_
  refine lv_aload_n hx hb dX4_planPays_31 rfl (lv_at hl 0 rfl) ?_
  refine g_get S hE hI (C := RX4) (T := TX4) (N := 3) (ref := "StonecutterYard") (fun w h => (List.mem_cons_of_mem _ (List.mem_append_left _ (List.mem_append_left _ (List.mem_append_left _ (List.mem_append_left _ (List.mem_append_right _ h))))))) hyp.1 rfl 0 (by decide) (List.mem_cons_of_mem _ (List.mem_append_left _ (List.mem_append_left _ (List.mem_append_left _ (List.mem_append_left _ (List.mem_append_left _ (List.mem_append_left _ (List.mem_of_getElem? (i := 1) rfl)))))))) (fun _ h9 => h9) (v := .ref (L1 0 0)) rfl dX4_planPays_32 ?_
  refine g_callV (As := []) (rest := [.int (nI (yPaid (yPlan n9 y).2))]) (b := (L1 0 0)) (n := 0) S hE hI hA (c_X3_sumPaid l K _ true 1 L1 y hyp.2.1) gX4_planPays_X3_sumPaid rfl (by decide +kernel) ⟨Nat.le_of_ble_eq_true rfl, Nat.le_of_ble_eq_true rfl⟩ (g_hro hE hI hyp.2.1.1.1 rfl) rfl hl.1 rfl (Nat.le_of_ble_eq_true rfl) dX4_planPays_35 ⟨Nat.le_of_ble_eq_true rfl, Nat.le_of_ble_eq_true rfl⟩ (fun E ce q9 Gx H1 locs1 hx9 => hx9.elim) (fun rv Gc_35 H locs hp hI => ?_)
  obtain ⟨rfl, hq9⟩ := hp
  rw [hq9] at hI
  refine W.eq (g2 := F0 m 38 ls [.int (nI (yPaid y)), .int (nI (yPaid (yPlan n9 y).2))]) rfl ?_
  refine lv_isub hx hb dX4_planPays_38 ?_
  exact g_iret S hI hr hlocks (Nat.zero_le _) (Nat.zero_le _) dX4_planPays_39 (by rw [ho]; exact ⟨rfl, rfl, hyp, (hat.y (by decide)).tr (hat2.y (by decide))⟩)
theorem gM.ok {l : Launch} {ym : MethodName} {ws : List Cond} {fr lo mc ms : Nat} {K : gK} {av : List Value} {G : gW} {L1 L2 : Nat → Nat → Nat} {M : Nat → Nat} {hy : Nat} {y : YV} {o : oT} {ex : Nat → String} {v : Int32} (h : gM l ym ws fr lo mc ms K av G (oPost K L1 L2 M hy G o) (oX K L1 L2 M hy G o ex)) (e : o = (0, v, y)) : gM l ym ws fr lo mc ms K av G (fun r G1 => r = some (.int v) ∧ YardC K L1 L2 M hy G1 y ∧ AgY G G1) gNo := by
  subst e
  exact h.mono (fun r G1 hp => ⟨hp.2.1, hp.2.2.1, hp.2.2.2⟩) (fun E G1 hp => hp.1 rfl)
