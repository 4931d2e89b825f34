set_option maxHeartbeats 4000000 in
set_option maxRecDepth 100000 in
/-- X4_isSide -/
theorem c_X4_isSide (l : Launch) (K : gK) (G : gW) (x : Int32) : gM l yX4_isSide wsX4_isSide 2 40 0 0 K [.int x] G (fun v G1 => v = some (.int (bI (inB x 1 24))) ∧ G1 = G) (gNo) := by
  refine gM.of (cc := cX4_isSide) (maxL := 1) (ret := (some .boolean)) (by decide) rfl (Nat.le_of_ble_eq_true rfl) ?_
  intro p e s m below meth c A S hr hlocks htab hname hE hA hI ls hl
  have hx := S.1
  have hb := S.2.1
  have hml := S.2.2.1
  have hl : lv_has ls 1 [(0, .int x)] := hl
  obtain ⟨H, hHe⟩ : ∃ z, z = s.heap := ⟨_, rfl⟩
  obtain ⟨locs, hLe⟩ : ∃ z : List Loc, z = [] := ⟨_, rfl⟩
  rw [← hHe, ← hLe]
  have hI : gI K A s G H locs := by rw [hHe, hLe]; exact hI
  clear hHe hLe
  refine lv_iload_n hx hb dX4_isSide_0 rfl (lv_at hl 0 rfl) ?_
  refine lv_iconst (v := nI 1) hx hb dX4_isSide_1 (by decide) ?_
  refine lv_icmp_lt (tgt := 15) hx hb dX4_isSide_2 (by decide) (fun c_2 => ?_) (fun c_2 => ?_)
  · skip
    have hv9 : inB x 1 24 = false := inB_lo ((lt_nI (by decide)).mp c_2)
    refine lv_iconst (v := nI 0) hx hb dX4_isSide_15 (by decide) ?_
    exact g_zret S hI hr hlocks (Nat.zero_le _) (Nat.zero_le _) (Or.inl rfl) dX4_isSide_16 ⟨by rw [hv9]; rfl, rfl⟩
  · skip
    refine lv_iload_n hx hb dX4_isSide_5 rfl (lv_at hl 0 rfl) ?_
    refine lv_bipush (v := nI 24) hx hb dX4_isSide_6 (by decide) ?_
    refine lv_icmp_gt (tgt := 15) hx hb dX4_isSide_8 (by decide) (fun c_8 => ?_) (fun c_8 => ?_)
    · skip
      have hv9 : inB x 1 24 = false := inB_hi ((nI_lt' (by decide)).mp c_8)
      refine lv_iconst (v := nI 0) hx hb dX4_isSide_15 (by decide) ?_
      exact g_zret S hI hr hlocks (Nat.zero_le _) (Nat.zero_le _) (Or.inl rfl) dX4_isSide_16 ⟨by rw [hv9]; rfl, rfl⟩
    · skip
      have hv9 : inB x 1 24 = true := inB_ok (Int.not_lt.mp (fun z9 => c_2 ((lt_nI (by decide)).mpr z9))) (Int.not_lt.mp (fun z9 => c_8 ((nI_lt' (by decide)).mpr z9)))
      refine lv_iconst (v := nI 1) hx hb dX4_isSide_11 (by decide) ?_
      refine lv_goto (tgt := 16) hx hb dX4_isSide_12 (by decide) ?_
      exact g_zret S hI hr hlocks (Nat.zero_le _) (Nat.zero_le _) (Or.inr rfl) dX4_isSide_16 ⟨by rw [hv9]; rfl, rfl⟩
set_option maxHeartbeats 4000000 in
set_option maxRecDepth 100000 in
/-- X4_isPrice -/
theorem c_X4_isPrice (l : Launch) (K : gK) (G : gW) (x : Int32) : gM l yX4_isPrice wsX4_isPrice 2 40 0 0 K [.int x] G (fun v G1 => v = some (.int (bI (inB x 1 999))) ∧ G1 = G) (gNo) := by
  refine gM.of (cc := cX4_isPrice) (maxL := 1) (ret := (some .boolean)) (by decide) rfl (Nat.le_of_ble_eq_true rfl) ?_
  intro p e s m below meth c A S hr hlocks htab hname hE hA hI ls hl
  have hx := S.1
  have hb := S.2.1
  have hml := S.2.2.1
  have hl : lv_has ls 1 [(0, .int x)] := hl
  obtain ⟨H, hHe⟩ : ∃ z, z = s.heap := ⟨_, rfl⟩
  obtain ⟨locs, hLe⟩ : ∃ z : List Loc, z = [] := ⟨_, rfl⟩
  rw [← hHe, ← hLe]
  have hI : gI K A s G H locs := by rw [hHe, hLe]; exact hI
  clear hHe hLe
  refine lv_iload_n hx hb dX4_isPrice_0 rfl (lv_at hl 0 rfl) ?_
  refine lv_iconst (v := nI 1) hx hb dX4_isPrice_1 (by decide) ?_
  refine lv_icmp_lt (tgt := 16) hx hb dX4_isPrice_2 (by decide) (fun c_2 => ?_) (fun c_2 => ?_)
  · skip
    have hv9 : inB x 1 999 = false := inB_lo ((lt_nI (by decide)).mp c_2)
    refine lv_iconst (v := nI 0) hx hb dX4_isPrice_16 (by decide) ?_
    exact g_zret S hI hr hlocks (Nat.zero_le _) (Nat.zero_le _) (Or.inl rfl) dX4_isPrice_17 ⟨by rw [hv9]; rfl, rfl⟩
  · skip
    refine lv_iload_n hx hb dX4_isPrice_5 rfl (lv_at hl 0 rfl) ?_
    refine lv_sipush (v := nI 999) hx hb dX4_isPrice_6 (by decide) ?_
    refine lv_icmp_gt (tgt := 16) hx hb dX4_isPrice_9 (by decide) (fun c_9 => ?_) (fun c_9 => ?_)
    · skip
      have hv9 : inB x 1 999 = false := inB_hi ((nI_lt' (by decide)).mp c_9)
      refine lv_iconst (v := nI 0) hx hb dX4_isPrice_16 (by decide) ?_
      exact g_zret S hI hr hlocks (Nat.zero_le _) (Nat.zero_le _) (Or.inl rfl) dX4_isPrice_17 ⟨by rw [hv9]; rfl, rfl⟩
    · skip
      have hv9 : inB x 1 999 = true := inB_ok (Int.not_lt.mp (fun z9 => c_2 ((lt_nI (by decide)).mpr z9))) (Int.not_lt.mp (fun z9 => c_9 ((nI_lt' (by decide)).mpr z9)))
      refine lv_iconst (v := nI 1) hx hb dX4_isPrice_12 (by decide) ?_
      refine lv_goto (tgt := 17) hx hb dX4_isPrice_13 (by decide) ?_
      exact g_zret S hI hr hlocks (Nat.zero_le _) (Nat.zero_le _) (Or.inr rfl) dX4_isPrice_17 ⟨by rw [hv9]; rfl, rfl⟩
set_option maxHeartbeats 4000000 in
set_option maxRecDepth 100000 in
/-- slabOf of a place -/
theorem c_slabOfIn (l : Launch) (K : gK) (G : gW) (L1 L2 : Nat → Nat → Nat) (M : Nat → Nat) (hy : Nat) (y : YV) (i : Nat) (hlS : l.stackTraces = false) (hy0 : YardC K L1 L2 M hy G y) (hi : i < (ySc y)) : gM l yX4_slabOf wsX4_slabOf 3 61 0 0 K [.ref hy, .int (nI i)] G (fun v G1 => v = some (.ref (L1 3 i)) ∧ G1 = G) (gNo) := by
  refine gM.of (cc := cX4_slabOf) (maxL := 3) (ret := (some (.object "StonecutterYard$Slab"))) (by decide) rfl (Nat.le_of_ble_eq_true rfl) ?_
  intro p e s m below meth c A S hr hlocks htab hname hE hA hI ls hl
  have hx := S.1
  have hb := S.2.1
  have hml := S.2.2.1
  have hl : lv_has ls 3 [(0, .ref hy), (1, .int (nI i))] := hl
  have hs := hy0.2.1
  have hy9 := hy0.1
  have h44 := hs.1.2.2.2.1
  have h6 := hs.1.2.2.2.2.1
  have hf2 := hs.1.2.2.2.2.2
  have hc40 := hy0.2.2.2.2
  obtain ⟨H, hHe⟩ : ∃ z, z = s.heap := ⟨_, rfl⟩
  obtain ⟨locs, hLe⟩ : ∃ z : List Loc, z = [] := ⟨_, rfl⟩
  rw [← hHe, ← hLe]
  have hI : gI K A s G H locs := by rw [hHe, hLe]; exact hI
  clear hHe hLe
  refine lv_aload_n hx hb dX4_slabOf_0 rfl (lv_at hl 0 rfl) ?_
  refine g_get S hE hI (C := RX4) (T := TX4) (N := 3) (ref := "StonecutterYard") (fun w h => (List.mem_cons_of_mem _ (List.mem_append_left _ (List.mem_append_left _ (List.mem_append_right _ h))))) hy9 rfl 0 (by decide) (List.mem_cons_of_mem _ (List.mem_append_left _ (List.mem_append_left _ (List.mem_append_left _ (List.mem_of_getElem? (i := 2) rfl))))) (fun _ h9 => h9) (v := .ref (L1 0 0)) rfl dX4_slabOf_1 ?_
  refine lv_iload_n hx hb dX4_slabOf_4 rfl (lv_at hl 1 rfl) ?_
  refine g_callV (As := [.int (nI i)]) (rest := []) (b := (L1 0 0)) (n := 1) S hE hI hA (c_slabIn l K _ 1 L1 (ySc y) (yKc y) (yF y) i hs.1 hi) gX4_slabOf_X3_slabOrNull rfl (by decide +kernel) ⟨Nat.le_of_ble_eq_true rfl, Nat.le_of_ble_eq_true rfl⟩ (g_hro hE hI hs.1.1 rfl) rfl hl.1 rfl (Nat.le_of_ble_eq_true rfl) dX4_slabOf_5 ⟨Nat.le_of_ble_eq_true rfl, Nat.le_of_ble_eq_true rfl⟩ (fun E ce q9 Gx H1 locs1 hx9 => hx9.elim) (fun rv Gc_5 H locs hp hI => ?_)
  obtain ⟨rfl, hq9⟩ := hp
  rw [hq9] at hI
  refine W.eq (g2 := F0 m 8 ls [.ref (L1 3 i)]) rfl ?_
  refine lv_astore_n (lv' := [(2, .ref (L1 3 i)), (0, .ref hy), (1, .int (nI i))]) hx hb dX4_slabOf_8 rfl hl (by decide) rfl (fun ls hl => ?_)
  refine lv_aload_n hx hb dX4_slabOf_9 rfl (lv_at hl 0 rfl) ?_
  refine lv_ifnonnull (tgt := 24) hx hb dX4_slabOf_10 (by decide) ?_
  refine lv_aload_n hx hb dX4_slabOf_24 rfl (lv_at hl 0 rfl) ?_
  exact g_aret S hI hr (Or.inl ⟨_, rfl⟩) (Or.inr ⟨_, rfl⟩) hlocks (Nat.zero_le _) (Nat.zero_le _) dX4_slabOf_25 ⟨rfl, rfl⟩
set_option maxHeartbeats 4000000 in
set_option maxRecDepth 100000 in
/-- kindOf of a place -/
theorem c_kindOfIn (l : Launch) (K : gK) (G : gW) (L1 L2 : Nat → Nat → Nat) (M : Nat → Nat) (hy : Nat) (y : YV) (i : Nat) (hlS : l.stackTraces = false) (hy0 : YardC K L1 L2 M hy G y) (hi : i < (yKc y)) : gM l yX4_kindOf wsX4_kindOf 3 61 0 0 K [.ref hy, .int (nI i)] G (fun v G1 => v = some (.ref (L1 5 i)) ∧ G1 = G) (gNo) := by
  refine gM.of (cc := cX4_kindOf) (maxL := 3) (ret := (some (.object "StonecutterYard$Kind"))) (by decide) rfl (Nat.le_of_ble_eq_true rfl) ?_
  intro p e s m below meth c A S hr hlocks htab hname hE hA hI ls hl
  have hx := S.1
  have hb := S.2.1
  have hml := S.2.2.1
  have hl : lv_has ls 3 [(0, .ref hy), (1, .int (nI i))] := hl
  have hs := hy0.2.1
  have hy9 := hy0.1
  have h44 := hs.1.2.2.2.1
  have h6 := hs.1.2.2.2.2.1
  have hf2 := hs.1.2.2.2.2.2
  have hc40 := hy0.2.2.2.2
  obtain ⟨H, hHe⟩ : ∃ z, z = s.heap := ⟨_, rfl⟩
  obtain ⟨locs, hLe⟩ : ∃ z : List Loc, z = [] := ⟨_, rfl⟩
  rw [← hHe, ← hLe]
  have hI : gI K A s G H locs := by rw [hHe, hLe]; exact hI
  clear hHe hLe
  refine lv_aload_n hx hb dX4_kindOf_0 rfl (lv_at hl 0 rfl) ?_
  refine g_get S hE hI (C := RX4) (T := TX4) (N := 3) (ref := "StonecutterYard") (fun w h => (List.mem_cons_of_mem _ (List.mem_append_left _ (List.mem_append_left _ (List.mem_append_right _ h))))) hy9 rfl 0 (by decide) (List.mem_cons_of_mem _ (List.mem_append_left _ (List.mem_append_left _ (List.mem_append_left _ (List.mem_of_getElem? (i := 2) rfl))))) (fun _ h9 => h9) (v := .ref (L1 0 0)) rfl dX4_kindOf_1 ?_
  refine lv_iload_n hx hb dX4_kindOf_4 rfl (lv_at hl 1 rfl) ?_
  refine g_callV (As := [.int (nI i)]) (rest := []) (b := (L1 0 0)) (n := 1) S hE hI hA (c_kindIn l K _ 1 L1 (ySc y) (yKc y) (yF y) i hs.1 hi) gX4_kindOf_X3_kindOrNull rfl (by decide +kernel) ⟨Nat.le_of_ble_eq_true rfl, Nat.le_of_ble_eq_true rfl⟩ (g_hro hE hI hs.1.1 rfl) rfl hl.1 rfl (Nat.le_of_ble_eq_true rfl) dX4_kindOf_5 ⟨Nat.le_of_ble_eq_true rfl, Nat.le_of_ble_eq_true rfl⟩ (fun E ce q9 Gx H1 locs1 hx9 => hx9.elim) (fun rv Gc_5 H locs hp hI => ?_)
  obtain ⟨rfl, hq9⟩ := hp
  rw [hq9] at hI
  refine W.eq (g2 := F0 m 8 ls [.ref (L1 5 i)]) rfl ?_
  refine lv_astore_n (lv' := [(2, .ref (L1 5 i)), (0, .ref hy), (1, .int (nI i))]) hx hb dX4_kindOf_8 rfl hl (by decide) rfl (fun ls hl => ?_)
  refine lv_aload_n hx hb dX4_kindOf_9 rfl (lv_at hl 0 rfl) ?_
  refine lv_ifnonnull (tgt := 24) hx hb dX4_kindOf_10 (by decide) ?_
  refine lv_aload_n hx hb dX4_kindOf_24 rfl (lv_at hl 0 rfl) ?_
  exact g_aret S hI hr (Or.inl ⟨_, rfl⟩) (Or.inr ⟨_, rfl⟩) hlocks (Nat.zero_le _) (Nat.zero_le _) dX4_kindOf_25 ⟨rfl, rfl⟩
set_option maxHeartbeats 4000000 in
set_option maxRecDepth 100000 in
/-- requirePoint of a point -/
theorem c_reqPointIn (l : Launch) (K : gK) (G : gW) (t : gTag) (h0 : Nat) (u : SV) (pa : Nat) (a b : Nat) (hlS : l.stackTraces = false) (hg : G t = some (h0, cS u pa)) (hwh : sW u ≤ 24 ∧ sH u ≤ 24) (hab : a < sW u ∧ b < sH u) : gM l yX4_requirePoint wsX4_requirePoint 2 40 0 0 K [.ref h0, .int (nI a), .int (nI b)] G (fun v G1 => v = none ∧ G1 = G) (gNo) := by
  refine gM.of (cc := cX4_requirePoint) (maxL := 3) (ret := none) (by decide) rfl (Nat.le_of_ble_eq_true rfl) ?_
  intro p e s m below meth c A S hr hlocks htab hname hE hA hI ls hl
  have hx := S.1
  have hb := S.2.1
  have hml := S.2.2.1
  have hl : lv_has ls 3 [(0, .ref h0), (1, .int (nI a)), (2, .int (nI b))] := hl
  obtain ⟨H, hHe⟩ : ∃ z, z = s.heap := ⟨_, rfl⟩
  obtain ⟨locs, hLe⟩ : ∃ z : List Loc, z = [] := ⟨_, rfl⟩
  rw [← hHe, ← hLe]
  have hI : gI K A s G H locs := by rw [hHe, hLe]; exact hI
  clear hHe hLe
  refine lv_iload_n hx hb dX4_requirePoint_0 rfl (lv_at hl 1 rfl) ?_
  refine lv_if_lt (tgt := 24) hx hb dX4_requirePoint_1 (by decide) (fun c_1 => ?_) (fun c_1 => ?_)
  · skip
    have c_1 : a < 0 := (nI_ltI (a := a) (b := 0) (by omega) (by omega)).mp c_1
    exact absurd c_1 (by omega)
  · skip
    have c_1 : 0 ≤ a := Nat.not_lt.mp (fun z => c_1 ((nI_ltI (a := a) (b := 0) (by omega) (by omega)).mpr z))
    refine lv_iload_n hx hb dX4_requirePoint_4 rfl (lv_at hl 1 rfl) ?_
    refine lv_aload_n hx hb dX4_requirePoint_5 rfl (lv_at hl 0 rfl) ?_
    refine g_getN S hE hI (C := RX2) (T := TX2) (N := 7) (ref := "StonecutterYard$Slab") (host := "StonecutterYard") (fun w h => (List.mem_cons_of_mem _ (List.mem_append_left _ (List.mem_append_right _ h)))) hg rfl 0 (by decide) (List.mem_of_getElem? (i := 3) rfl) (fun _ h9 => h9) (v := .int (nI (sW u))) rfl dX4_requirePoint_6 ?_
    refine lv_icmp_ge (tgt := 24) hx hb dX4_requirePoint_9 (by decide) (fun c_9 => ?_) (fun c_9 => ?_)
    · skip
      have c_9 : (sW u) ≤ a := (nI_leI (a := (sW u)) (b := a) (by omega) (by omega)).mp c_9
      exact absurd c_9 (by omega)
    · skip
      have c_9 : a < (sW u) := Nat.not_le.mp (fun z => c_9 ((nI_leI (a := (sW u)) (b := a) (by omega) (by omega)).mpr z))
      refine lv_iload_n hx hb dX4_requirePoint_12 rfl (lv_at hl 2 rfl) ?_
      refine lv_if_lt (tgt := 24) hx hb dX4_requirePoint_13 (by decide) (fun c_13 => ?_) (fun c_13 => ?_)
      · skip
        have c_13 : b < 0 := (nI_ltI (a := b) (b := 0) (by omega) (by omega)).mp c_13
        exact absurd c_13 (by omega)
      · skip
        have c_13 : 0 ≤ b := Nat.not_lt.mp (fun z => c_13 ((nI_ltI (a := b) (b := 0) (by omega) (by omega)).mpr z))
        refine lv_iload_n hx hb dX4_requirePoint_16 rfl (lv_at hl 2 rfl) ?_
        refine lv_aload_n hx hb dX4_requirePoint_17 rfl (lv_at hl 0 rfl) ?_
        refine g_getN S hE hI (C := RX2) (T := TX2) (N := 7) (ref := "StonecutterYard$Slab") (host := "StonecutterYard") (fun w h => (List.mem_cons_of_mem _ (List.mem_append_left _ (List.mem_append_right _ h)))) hg rfl 1 (by decide) (List.mem_of_getElem? (i := 4) rfl) (fun _ h9 => h9) (v := .int (nI (sH u))) rfl dX4_requirePoint_18 ?_
        refine lv_icmp_lt (tgt := 35) hx hb dX4_requirePoint_21 (by decide) (fun c_21 => ?_) (fun c_21 => ?_)
        · skip
          have c_21 : b < (sH u) := (nI_ltI (a := b) (b := (sH u)) (by omega) (by omega)).mp c_21
          exact g_vret S hI hr hlocks (Nat.zero_le _) (Nat.zero_le _) dX4_requirePoint_35 ⟨rfl, rfl⟩
        · skip
          have c_21 : (sH u) ≤ b := Nat.not_lt.mp (fun z => c_21 ((nI_ltI (a := b) (b := (sH u)) (by omega) (by omega)).mpr z))
          exact absurd c_21 (by omega)
set_option maxHeartbeats 4000000 in
set_option maxRecDepth 100000 in
/-- requirePiece of a piece -/
theorem c_reqPieceIn (l : Launch) (K : gK) (G : gW) (w h g : Int32) (hlS : l.stackTraces = false) (hp9 : inP w h g = true) : gM l yX4_requirePiece wsX4_requirePiece 3 60 0 0 K [.int w, .int h, .int g] G (fun v G1 => v = none ∧ G1 = G) (gNo) := by
  refine gM.of (cc := cX4_requirePiece) (maxL := 3) (ret := none) (by decide) rfl (Nat.le_of_ble_eq_true rfl) ?_
  intro p e s m below meth c A S hr hlocks htab hname hE hA hI ls hl
  have hx := S.1
  have hb := S.2.1
  have hml := S.2.2.1
  have hl : lv_has ls 3 [(0, .int w), (1, .int h), (2, .int g)] := hl
  obtain ⟨hp8, hpg⟩ := (Bool.and_eq_true _ _).mp hp9
  obtain ⟨hpw, hph⟩ := (Bool.and_eq_true _ _).mp hp8
  have hpg9 := of_decide_eq_true hpg
  obtain ⟨H, hHe⟩ : ∃ z, z = s.heap := ⟨_, rfl⟩
  obtain ⟨locs, hLe⟩ : ∃ z : List Loc, z = [] := ⟨_, rfl⟩
  rw [← hHe, ← hLe]
  have hI : gI K A s G H locs := by rw [hHe, hLe]; exact hI
  clear hHe hLe
  refine lv_iload_n hx hb dX4_requirePiece_0 rfl (lv_at hl 0 rfl) ?_
  refine g_callS (As := [.int w]) (rest := []) (n := 1) S hE hI hA (c_X4_isSide l K _ w) gX4_requirePiece_X4_isSide rfl (by decide +kernel) ⟨Nat.le_of_ble_eq_true rfl, Nat.le_of_ble_eq_true rfl⟩ rfl hl.1 rfl (Nat.le_of_ble_eq_true rfl) dX4_requirePiece_1 ⟨Nat.le_of_ble_eq_true rfl, Nat.le_of_ble_eq_true rfl⟩ (fun E ce q9 Gx H1 locs1 hx9 => hx9.elim) (fun rv Gc_1 H locs hp hI => ?_)
  obtain ⟨rfl, hq9⟩ := hp
  rw [hq9] at hI
  refine W.eq (g2 := F0 m 4 ls [.int (bI (inB w 1 24))]) rfl ?_
  refine lv_if_eq (tgt := 23) hx hb dX4_requirePiece_4 (by decide) (fun c_4 => ?_) (fun c_4 => ?_)
  · skip
    have c_4 : (inB w 1 24) = false := bI_0.mp c_4
    rw [hpw] at c_4; cases c_4
  · skip
    have c_4 : (inB w 1 24) = true := bI_1.mp c_4
    refine lv_iload_n hx hb dX4_requirePiece_7 rfl (lv_at hl 1 rfl) ?_
    refine g_callS (As := [.int h]) (rest := []) (n := 1) S hE hI hA (c_X4_isSide l K _ h) gX4_requirePiece_X4_isSide rfl (by decide +kernel) ⟨Nat.le_of_ble_eq_true rfl, Nat.le_of_ble_eq_true rfl⟩ rfl hl.1 rfl (Nat.le_of_ble_eq_true rfl) dX4_requirePiece_8 ⟨Nat.le_of_ble_eq_true rfl, Nat.le_of_ble_eq_true rfl⟩ (fun E ce q9 Gx H1 locs1 hx9 => hx9.elim) (fun rv Gc_8 H locs hp hI => ?_)
    obtain ⟨rfl, hq9⟩ := hp
    rw [hq9] at hI
    refine W.eq (g2 := F0 m 11 ls [.int (bI (inB h 1 24))]) rfl ?_
    refine lv_if_eq (tgt := 23) hx hb dX4_requirePiece_11 (by decide) (fun c_11 => ?_) (fun c_11 => ?_)
    · skip
      have c_11 : (inB h 1 24) = false := bI_0.mp c_11
      rw [hph] at c_11; cases c_11
    · skip
      have c_11 : (inB h 1 24) = true := bI_1.mp c_11
      refine lv_iload_n hx hb dX4_requirePiece_14 rfl (lv_at hl 2 rfl) ?_
      refine lv_if_lt (tgt := 23) hx hb dX4_requirePiece_15 (by decide) (fun c_15 => ?_) (fun c_15 => ?_)
      · skip
        exact absurd (lt_zI.mp c_15) (by omega)
      · skip
        refine lv_iload_n hx hb dX4_requirePiece_18 rfl (lv_at hl 2 rfl) ?_
        refine lv_iconst (v := nI 2) hx hb dX4_requirePiece_19 (by decide) ?_
        refine lv_icmp_lt (tgt := 34) hx hb dX4_requirePiece_20 (by decide) (fun c_20 => ?_) (fun c_20 => ?_)
        · skip
          exact g_vret S hI hr hlocks (Nat.zero_le _) (Nat.zero_le _) dX4_requirePiece_34 ⟨rfl, rfl⟩
        · skip
          exact absurd ((lt_nI (by decide)).mpr (show g.toInt < (2 : Nat) by omega)) c_20
set_option maxHeartbeats 4000000 in
set_option maxRecDepth 100000 in
/-- requireMost -/
theorem c_reqMostIn (l : Launch) (K : gK) (G : gW) (n : Nat) (hlS : l.stackTraces = false) (hn9 : 1 ≤ n ∧ n ≤ 20) : gM l yX4_requireMost wsX4_requireMost 2 40 0 0 K [.int (nI n)] G (fun v G1 => v = none ∧ G1 = G) (gNo) := by
  refine gM.of (cc := cX4_requireMost) (maxL := 1) (ret := none) (by decide) rfl (Nat.le_of_ble_eq_true rfl) ?_
  intro p e s m below meth c A S hr hlocks htab hname hE hA hI ls hl
  have hx := S.1
  have hb := S.2.1
  have hml := S.2.2.1
  have hl : lv_has ls 1 [(0, .int (nI n))] := hl
  obtain ⟨H, hHe⟩ : ∃ z, z = s.heap := ⟨_, rfl⟩
  obtain ⟨locs, hLe⟩ : ∃ z : List Loc, z = [] := ⟨_, rfl⟩
  rw [← hHe, ← hLe]
  have hI : gI K A s G H locs := by rw [hHe, hLe]; exact hI
  clear hHe hLe
  refine lv_iload_n hx hb dX4_requireMost_0 rfl (lv_at hl 0 rfl) ?_
  refine lv_iconst (v := nI 1) hx hb dX4_requireMost_1 (by decide) ?_
  refine lv_icmp_lt (tgt := 11) hx hb dX4_requireMost_2 (by decide) (fun c_2 => ?_) (fun c_2 => ?_)
  · skip
    have c_2 : n < 1 := (nI_ltI (a := n) (b := 1) (by omega) (by omega)).mp c_2
    exact absurd c_2 (by omega)
  · skip
    have c_2 : 1 ≤ n := Nat.not_lt.mp (fun z => c_2 ((nI_ltI (a := n) (b := 1) (by omega) (by omega)).mpr z))
    refine lv_iload_n hx hb dX4_requireMost_5 rfl (lv_at hl 0 rfl) ?_
    refine lv_bipush (v := nI 20) hx hb dX4_requireMost_6 (by decide) ?_
    refine lv_icmp_le (tgt := 22) hx hb dX4_requireMost_8 (by decide) (fun c_8 => ?_) (fun c_8 => ?_)
    · skip
      have c_8 : n ≤ 20 := (nI_leI (a := n) (b := 20) (by omega) (by omega)).mp c_8
      exact g_vret S hI hr hlocks (Nat.zero_le _) (Nat.zero_le _) dX4_requireMost_22 ⟨rfl, rfl⟩
    · skip
      have c_8 : 20 < n := Nat.not_le.mp (fun z => c_8 ((nI_leI (a := n) (b := 20) (by omega) (by omega)).mpr z))
      exact absurd c_8 (by omega)
