theorem yRoot_end {y : YV} {n i : Nat} (h : sF (yS y i) = -1) : yRoot y n i = i := by
  cases n with
  | zero => rfl
  | succ n => rw [yRoot, if_pos h]
theorem yRoot_s {y : YV} {n i j : Nat} (h : sF (yS y i) = nI j) (hj : j < 2 ^ 31) : yRoot y (n + 1) i = yRoot y n j := by
  rw [yRoot, if_neg (by rw [h]; exact nI_m1 hj), h, iN_nI hj]
set_option maxHeartbeats 4000000 in
set_option maxRecDepth 100000 in
/-- root -/
theorem c_rootB (l : Launch) (K : gK) (G : gW) (L1 L2 : Nat → Nat → Nat) (M : Nat → Nat) (hy : Nat) (y : YV) (i : Nat) (hlS : l.stackTraces = false) (hy0 : YardC K L1 L2 M hy G y) (hi : i < ySc y) (hfr : yFr y) : gM l yX4_root wsX4_root 4 83 0 0 K [.ref hy, .int (nI i)] G (oPost K L1 L2 M hy G (oRoot y (nI i))) (oX K L1 L2 M hy G (oRoot y (nI i)) (ex1 eIO)) := by
  refine gM.of (cc := cX4_root) (maxL := 5) (ret := (some .int)) (by decide) rfl (Nat.le_of_ble_eq_true rfl) ?_
  intro p e s m below meth c A S hr hlocks htab hname hE hA hI ls hl
  have hx := S.1
  have hb := S.2.1
  have hml := S.2.2.1
  have hl : lv_has ls 5 [(0, .ref hy), (1, .int (nI i))] := hl
  have hs := hy0.2.1
  have hy9 := hy0.1
  have h44 := hs.1.2.2.2.1
  have h6 := hs.1.2.2.2.2.1
  have hf2 := hs.1.2.2.2.2.2
  have hc40 := hy0.2.2.2.2
  have hri : inR (nI i) (ySc y) = true := inR_nI hi (by omega)
  have hiN : iN (nI i) = i := iN_nI (by omega)
  have hy99 := hy0
  have ho : oRoot y (nI i) = (0, nI (yRoot y 40 i), y) := by unfold oRoot; rw [if_pos hri, hiN]
  obtain ⟨H, hHe⟩ : ∃ z, z = s.heap := ⟨_, rfl⟩
  obtain ⟨locs, hLe⟩ : ∃ z : List Loc, z = [] := ⟨_, rfl⟩
  rw [← hHe, ← hLe]
  have hI : gI K A s G H locs := by rw [hHe, hLe]; exact hI
  clear hHe hLe
  refine lv_iload_n hx hb dX4_root_0 rfl (lv_at hl 1 rfl) ?_
  refine lv_istore_n (lv' := [(2, .int (nI i)), (0, .ref hy), (1, .int (nI i))]) hx hb dX4_root_1 rfl hl (by decide) rfl (fun ls hl => ?_)
  refine lv_aload_n hx hb dX4_root_2 rfl (lv_at hl 1 rfl) ?_
  refine lv_iload_n hx hb dX4_root_3 rfl (lv_at hl 2 rfl) ?_
  refine g_callV (As := [.int (nI i)]) (rest := []) (b := hy) (n := 1) S hE hI hA (c_slabOfIn l K _ L1 L2 M hy y i hlS hy0 hi) gX4_root_X4_slabOf rfl (by decide +kernel) ⟨Nat.le_of_ble_eq_true rfl, Nat.le_of_ble_eq_true rfl⟩ (g_hro hE hI hy9 rfl) rfl hl.1 rfl (Nat.le_of_ble_eq_true rfl) dX4_root_4 ⟨Nat.le_of_ble_eq_true rfl, Nat.le_of_ble_eq_true rfl⟩ (fun E ce q9 Gx H locs hx9 hI hce hcv hcl => ?_) (fun rv Gc_4 H locs hp hI => ?_)
  · skip
    exact hx9.elim
  obtain ⟨rfl, hq9⟩ := hp
  rw [hq9] at hI
  refine W.eq (g2 := F0 m 7 ls [.ref (L1 3 i)]) rfl ?_
  refine lv_astore_n (lv' := [(3, .ref (L1 3 i)), (2, .int (nI i)), (0, .ref hy), (1, .int (nI i))]) hx hb dX4_root_7 rfl hl (by decide) rfl (fun ls hl => ?_)
  refine lv_iconst (v := nI 0) hx hb dX4_root_8 (by decide) ?_
  refine lv_istore (lv' := [(4, .int (nI 0)), (3, .ref (L1 3 i)), (2, .int (nI i)), (0, .ref hy), (1, .int (nI i))]) hx hb dX4_root_9 hl (by decide) rfl (fun ls hl => ?_)
  have L11 : ∀ (n : Nat) (d9 j : Nat) (H : Heap) (locs : List Loc) (ls : Array Slot) (hn : 40 - d9 < n) (hd9 : d9 ≤ 40) (hj : j < ySc y) (hrt : yRoot y 40 i = yRoot y (40 - d9) j), gI K A s G H locs → lv_has ls 5 [(0, .ref hy), (1, .int (nI i)), (2, .int (nI j)), (3, .ref (L1 3 j)), (4, .int (nI d9))] → W p l e (gRoom 4 83 0 0) s m ([.ref hy, .int (nI i)] : List Value).toArray below meth c H locs 0 0 (gEnd K below (oPost K L1 L2 M hy G (oRoot y (nI i))) (oX K L1 L2 M hy G (oRoot y (nI i)) (ex1 eIO)) A ([.ref hy, .int (nI i)] : List Value).toArray s 0 0) (F0 m 11 ls []) := by
    clear hI hl
    intro n
    induction n with
    | zero =>
      intro d9 j H locs ls hn hd9 hj hrt hI hl
      exact absurd hn (Nat.not_lt_zero _)
    | succ n ih =>
      intro d9 j H locs ls hn hd9 hj hrt hI hl
      obtain ⟨P, hslj, -, -, -⟩ := hs.slab hj
      refine lv_iload hx hb dX4_root_11 (lv_at hl 4 rfl) ?_
      refine lv_bipush (v := nI 40) hx hb dX4_root_13 (by decide) ?_
      refine lv_icmp_ge (tgt := 43) hx hb dX4_root_15 (by decide) (fun c_15 => ?_) (fun c_15 => ?_)
      · skip
        have c_15 : 40 ≤ d9 := (nI_leI (a := 40) (b := d9) (by omega) (by omega)).mp c_15
        have hfin : yRoot y 40 i = j := by rw [hrt, show 40 - d9 = 0 by omega]; rfl
        refine lv_iload_n hx hb dX4_root_43 rfl (lv_at hl 2 rfl) ?_
        exact g_iret S hI hr hlocks (Nat.zero_le _) (Nat.zero_le _) dX4_root_44 (by rw [ho, hfin]; exact ⟨rfl, rfl, hy0, AgY.rf⟩)
      · skip
        have c_15 : d9 < 40 := Nat.not_le.mp (fun z => c_15 ((nI_leI (a := 40) (b := d9) (by omega) (by omega)).mpr z))
        refine lv_aload_n hx hb dX4_root_18 rfl (lv_at hl 3 rfl) ?_
        refine g_getN S hE hI (C := RX2) (T := TX2) (N := 7) (ref := "StonecutterYard$Slab") (host := "StonecutterYard") (fun w h => (List.mem_cons_of_mem _ (List.mem_append_left _ (List.mem_append_left _ (List.mem_append_left _ (List.mem_append_right _ h)))))) hslj rfl 3 (by decide) (List.mem_of_getElem? (i := 6) rfl) (fun _ h9 => h9) (v := .int (sF (yS y j))) rfl dX4_root_19 ?_
        refine lv_iconst (v := (-1)) hx hb dX4_root_22 (by decide) ?_
        refine lv_icmp_eq (tgt := 43) hx hb dX4_root_23 (by decide) (fun c_23 => ?_) (fun c_23 => ?_)
        · skip
          have hfin : yRoot y 40 i = j := by rw [hrt, yRoot_end c_23]
          refine lv_iload_n hx hb dX4_root_43 rfl (lv_at hl 2 rfl) ?_
          exact g_iret S hI hr hlocks (Nat.zero_le _) (Nat.zero_le _) dX4_root_44 (by rw [ho, hfin]; exact ⟨rfl, rfl, hy0, AgY.rf⟩)
        · skip
          obtain ⟨k9, hkj, hk9⟩ := (hfr j hj).resolve_left c_23
          refine lv_aload_n hx hb dX4_root_26 rfl (lv_at hl 3 rfl) ?_
          refine g_getN S hE hI (C := RX2) (T := TX2) (N := 7) (ref := "StonecutterYard$Slab") (host := "StonecutterYard") (fun w h => (List.mem_cons_of_mem _ (List.mem_append_left _ (List.mem_append_left _ (List.mem_append_left _ (List.mem_append_right _ h)))))) hslj rfl 3 (by decide) (List.mem_of_getElem? (i := 6) rfl) (fun _ h9 => h9) (v := .int (sF (yS y j))) rfl dX4_root_27 ?_
          refine W.eq (g2 := F0 m 30 ls [.int (nI k9)]) (by rw [hk9]) ?_
          refine lv_istore_n (lv' := [(2, .int (nI k9)), (0, .ref hy), (1, .int (nI i)), (3, .ref (L1 3 j)), (4, .int (nI d9))]) hx hb dX4_root_30 rfl hl (by decide) rfl (fun ls hl => ?_)
          refine lv_aload_n hx hb dX4_root_31 rfl (lv_at hl 1 rfl) ?_
          refine lv_iload_n hx hb dX4_root_32 rfl (lv_at hl 0 rfl) ?_
          refine g_callV (As := [.int (nI k9)]) (rest := []) (b := hy) (n := 1) S hE hI hA (c_slabOfIn l K _ L1 L2 M hy y k9 hlS hy0 (by omega)) gX4_root_X4_slabOf rfl (by decide +kernel) ⟨Nat.le_of_ble_eq_true rfl, Nat.le_of_ble_eq_true rfl⟩ (g_hro hE hI hy9 rfl) rfl hl.1 rfl (Nat.le_of_ble_eq_true rfl) dX4_root_33 ⟨Nat.le_of_ble_eq_true rfl, Nat.le_of_ble_eq_true rfl⟩ (fun E ce q9 Gx H locs hx9 hI hce hcv hcl => ?_) (fun rv Gc_33 H locs hp hI => ?_)
          · skip
            exact hx9.elim
          obtain ⟨rfl, hq9⟩ := hp
          rw [hq9] at hI
          refine W.eq (g2 := F0 m 36 ls [.ref (L1 3 k9)]) rfl ?_
          refine lv_astore_n (lv' := [(3, .ref (L1 3 k9)), (2, .int (nI k9)), (0, .ref hy), (1, .int (nI i)), (4, .int (nI d9))]) hx hb dX4_root_36 rfl hl (by decide) rfl (fun ls hl => ?_)
          refine lv_iinc (v := nI (d9 + 1)) (lv' := [(4, .int (nI (d9 + 1))), (3, .ref (L1 3 k9)), (2, .int (nI k9)), (0, .ref hy), (1, .int (nI i))]) hx hb dX4_root_37 hl (k := 4) rfl (nI_add _ 1) (by decide) rfl (fun ls hl => ?_)
          refine lv_goto (tgt := 11) hx hb dX4_root_40 (by decide) ?_
          exact ih (d9 + 1) k9 H locs ls (by omega) (by omega) (by omega) (by rw [hrt, show 40 - d9 = (40 - (d9 + 1)) + 1 by omega, yRoot_s hk9 (by omega)]) hI (lv_sub hl [3,4,2,1,0] rfl)
  exact L11 _ 0 i H locs ls (Nat.lt_succ_self _) (Nat.zero_le _) hi rfl hI (lv_sub hl [3,4,2,1,0] rfl)
set_option maxHeartbeats 4000000 in
set_option maxRecDepth 100000 in
/-- kind -/
theorem c_kindC (l : Launch) (K : gK) (G : gW) (L1 L2 : Nat → Nat → Nat) (M : Nat → Nat) (hy : Nat) (y : YV) (a b q : Nat) (hlS : l.stackTraces = false) (hy0 : YardC K L1 L2 M hy G y) (hb9 : (1 ≤ a ∧ a ≤ 24) ∧ (1 ≤ b ∧ b ≤ 24) ∧ 1 ≤ q ∧ q ≤ 999) (hroom : yKc y < 6) : gM l yX4_kind wsX4_kind 4 87 0 0 K [.ref hy, .int (nI a), .int (nI b), .int (nI q)] G (oPost K L1 L2 M hy G (oKind y (nI a) (nI b) (nI q))) (oX K L1 L2 M hy G (oKind y (nI a) (nI b) (nI q)) (ex2 eIA eIS)) := by
  refine gM.of (cc := cX4_kind) (maxL := 5) (ret := (some .int)) (by decide) rfl (Nat.le_of_ble_eq_true rfl) ?_
  intro p e s m below meth c A S hr hlocks htab hname hE hA hI ls hl
  have hx := S.1
  have hb := S.2.1
  have hml := S.2.2.1
  have hl : lv_has ls 5 [(0, .ref hy), (1, .int (nI a)), (2, .int (nI b)), (3, .int (nI q))] := hl
  have hs := hy0.2.1
  have hy9 := hy0.1
  have h44 := hs.1.2.2.2.1
  have h6 := hs.1.2.2.2.2.1
  have hf2 := hs.1.2.2.2.2.2
  have hc40 := hy0.2.2.2.2
  obtain ⟨⟨b1, b2⟩, ⟨b3, b4⟩, b5, b6⟩ := hb9
  have hx1 : inB (nI a) 1 24 = true := by rw [inB_nI (by omega)]; exact decide_eq_true (by omega)
  have hx2 : inB (nI b) 1 24 = true := by rw [inB_nI (by omega)]; exact decide_eq_true (by omega)
  have hx3 : inB (nI q) 1 999 = true := by rw [inB_nI (by omega)]; exact decide_eq_true (by omega)
  have ho : oKind y (nI a) (nI b) (nI q) = (0, nI (yKc y), yAddK y (a, b, 0, 0, q, 0, 0, 0)) := by unfold oKind; rw [hx1, hx2, hx3, iN_nI (by omega), iN_nI (by omega), iN_nI (by omega)]; exact if_pos hroom
  obtain ⟨H, hHe⟩ : ∃ z, z = s.heap := ⟨_, rfl⟩
  obtain ⟨locs, hLe⟩ : ∃ z : List Loc, z = [] := ⟨_, rfl⟩
  rw [← hHe, ← hLe]
  have hI : gI K A s G H locs := by rw [hHe, hLe]; exact hI
  clear hHe hLe
  refine lv_iload_n hx hb dX4_kind_0 rfl (lv_at hl 1 rfl) ?_
  refine g_callS (As := [.int (nI a)]) (rest := []) (n := 1) S hE hI hA (c_X4_isSide l K _ (nI a)) gX4_kind_X4_isSide rfl (by decide +kernel) ⟨Nat.le_of_ble_eq_true rfl, Nat.le_of_ble_eq_true rfl⟩ rfl hl.1 rfl (Nat.le_of_ble_eq_true rfl) dX4_kind_1 ⟨Nat.le_of_ble_eq_true rfl, Nat.le_of_ble_eq_true rfl⟩ (fun E ce q9 Gx H1 locs1 hx9 => hx9.elim) (fun rv Gc_1 H locs hp hI => ?_)
  obtain ⟨rfl, hq9⟩ := hp
  rw [hq9] at hI
  refine W.eq (g2 := F0 m 4 ls [.int (bI (inB (nI a) 1 24))]) rfl ?_
  refine lv_if_eq (tgt := 21) hx hb dX4_kind_4 (by decide) (fun c_4 => ?_) (fun c_4 => ?_)
  · skip
    have c_4 : (inB (nI a) 1 24) = false := bI_0.mp c_4
    rw [hx1] at c_4; cases c_4
  · skip
    have c_4 : (inB (nI a) 1 24) = true := bI_1.mp c_4
    refine lv_iload_n hx hb dX4_kind_7 rfl (lv_at hl 2 rfl) ?_
    refine g_callS (As := [.int (nI b)]) (rest := []) (n := 1) S hE hI hA (c_X4_isSide l K _ (nI b)) gX4_kind_X4_isSide rfl (by decide +kernel) ⟨Nat.le_of_ble_eq_true rfl, Nat.le_of_ble_eq_true rfl⟩ rfl hl.1 rfl (Nat.le_of_ble_eq_true rfl) dX4_kind_8 ⟨Nat.le_of_ble_eq_true rfl, Nat.le_of_ble_eq_true rfl⟩ (fun E ce q9 Gx H1 locs1 hx9 => hx9.elim) (fun rv Gc_8 H locs hp hI => ?_)
    obtain ⟨rfl, hq9⟩ := hp
    rw [hq9] at hI
    refine W.eq (g2 := F0 m 11 ls [.int (bI (inB (nI b) 1 24))]) rfl ?_
    refine lv_if_eq (tgt := 21) hx hb dX4_kind_11 (by decide) (fun c_11 => ?_) (fun c_11 => ?_)
    · skip
      have c_11 : (inB (nI b) 1 24) = false := bI_0.mp c_11
      rw [hx2] at c_11; cases c_11
    · skip
      have c_11 : (inB (nI b) 1 24) = true := bI_1.mp c_11
      refine lv_iload_n hx hb dX4_kind_14 rfl (lv_at hl 3 rfl) ?_
      refine g_callS (As := [.int (nI q)]) (rest := []) (n := 1) S hE hI hA (c_X4_isPrice l K _ (nI q)) gX4_kind_X4_isPrice rfl (by decide +kernel) ⟨Nat.le_of_ble_eq_true rfl, Nat.le_of_ble_eq_true rfl⟩ rfl hl.1 rfl (Nat.le_of_ble_eq_true rfl) dX4_kind_15 ⟨Nat.le_of_ble_eq_true rfl, Nat.le_of_ble_eq_true rfl⟩ (fun E ce q9 Gx H1 locs1 hx9 => hx9.elim) (fun rv Gc_15 H locs hp hI => ?_)
      obtain ⟨rfl, hq9⟩ := hp
      rw [hq9] at hI
      refine W.eq (g2 := F0 m 18 ls [.int (bI (inB (nI q) 1 999))]) rfl ?_
      refine lv_if_ne (tgt := 31) hx hb dX4_kind_18 (by decide) (fun c_18 => ?_) (fun c_18 => ?_)
      · skip
        have c_18 : (inB (nI q) 1 999) = true := bI_1.mp c_18
        refine lv_aload_n hx hb dX4_kind_31 rfl (lv_at hl 0 rfl) ?_
        refine g_get S hE hI (C := RX4) (T := TX4) (N := 3) (ref := "StonecutterYard") (fun w h => (List.mem_cons_of_mem _ (List.mem_append_left _ (List.mem_append_left _ (List.mem_append_left _ (List.mem_append_left _ (List.mem_append_right _ h))))))) hy9 rfl 0 (by decide) (List.mem_cons_of_mem _ (List.mem_append_left _ (List.mem_append_left _ (List.mem_append_left _ (List.mem_append_left _ (List.mem_append_left _ (List.mem_append_left _ (List.mem_of_getElem? (i := 4) rfl)))))))) (fun _ h9 => h9) (v := .ref (L1 0 0)) rfl dX4_kind_32 ?_
        refine g_getN S hE hI (C := RX3) (T := TX3) (N := 5) (ref := "StonecutterYard$Stock") (host := "StonecutterYard") (fun w h => (List.mem_cons_of_mem _ (List.mem_append_left _ (List.mem_append_left _ (List.mem_append_left _ (List.mem_append_right _ h)))))) hs.1.1 rfl 3 (by decide) (List.mem_of_getElem? (i := 7) rfl) (fun _ h9 => h9) (v := .int (nI (yKc y))) rfl dX4_kind_35 ?_
        refine lv_bipush (v := nI 6) hx hb dX4_kind_38 (by decide) ?_
        refine lv_icmp_lt (tgt := 53) hx hb dX4_kind_40 (by decide) (fun c_40 => ?_) (fun c_40 => ?_)
        · skip
          have c_40 : (yKc y) < 6 := (nI_ltI (a := (yKc y)) (b := 6) (by omega) (by omega)).mp c_40
          refine lv_aload_n hx hb dX4_kind_53 rfl (lv_at hl 0 rfl) ?_
          refine g_get S hE hI (C := RX4) (T := TX4) (N := 3) (ref := "StonecutterYard") (fun w h => (List.mem_cons_of_mem _ (List.mem_append_left _ (List.mem_append_left _ (List.mem_append_left _ (List.mem_append_left _ (List.mem_append_right _ h))))))) hy9 rfl 0 (by decide) (List.mem_cons_of_mem _ (List.mem_append_left _ (List.mem_append_left _ (List.mem_append_left _ (List.mem_append_left _ (List.mem_append_left _ (List.mem_append_left _ (List.mem_of_getElem? (i := 4) rfl)))))))) (fun _ h9 => h9) (v := .ref (L1 0 0)) rfl dX4_kind_54 ?_
          refine g_getN S hE hI (C := RX3) (T := TX3) (N := 5) (ref := "StonecutterYard$Stock") (host := "StonecutterYard") (fun w h => (List.mem_cons_of_mem _ (List.mem_append_left _ (List.mem_append_left _ (List.mem_append_left _ (List.mem_append_right _ h)))))) hs.1.1 rfl 3 (by decide) (List.mem_of_getElem? (i := 7) rfl) (fun _ h9 => h9) (v := .int (nI (yKc y))) rfl dX4_kind_57 ?_
          refine lv_istore (lv' := [(4, .int (nI (yKc y))), (0, .ref hy), (1, .int (nI a)), (2, .int (nI b)), (3, .int (nI q))]) hx hb dX4_kind_60 hl (by decide) rfl (fun ls hl => ?_)
          refine lv_aload_n hx hb dX4_kind_62 rfl (lv_at hl 1 rfl) ?_
          refine g_get S hE hI (C := RX4) (T := TX4) (N := 3) (ref := "StonecutterYard") (fun w h => (List.mem_cons_of_mem _ (List.mem_append_left _ (List.mem_append_left _ (List.mem_append_left _ (List.mem_append_left _ (List.mem_append_right _ h))))))) hy9 rfl 0 (by decide) (List.mem_cons_of_mem _ (List.mem_append_left _ (List.mem_append_left _ (List.mem_append_left _ (List.mem_append_left _ (List.mem_append_left _ (List.mem_append_left _ (List.mem_of_getElem? (i := 4) rfl)))))))) (fun _ h9 => h9) (v := .ref (L1 0 0)) rfl dX4_kind_63 ?_
          refine lv_iload_n hx hb dX4_kind_66 rfl (lv_at hl 2 rfl) ?_
          refine lv_iload_n hx hb dX4_kind_67 rfl (lv_at hl 3 rfl) ?_
          refine lv_iload_n hx hb dX4_kind_68 rfl (lv_at hl 4 rfl) ?_
          refine g_callV (As := [.int (nI a), .int (nI b), .int (nI q)]) (rest := []) (b := (L1 0 0)) (n := 3) S hE hI hA (c_X3_addKind l K _ 1 L1 y a b q hs hroom ⟨b1, b2, b3, b4, Nat.zero_le _, Nat.zero_le _, b5, b6, Nat.zero_le _⟩) gX4_kind_X3_addKind rfl (by decide +kernel) ⟨Nat.le_of_ble_eq_true rfl, Nat.le_of_ble_eq_true rfl⟩ (g_hro hE hI hs.1.1 rfl) rfl hl.1 rfl (Nat.le_of_ble_eq_true rfl) dX4_kind_69 ⟨Nat.le_of_ble_eq_true rfl, Nat.le_of_ble_eq_true rfl⟩ (fun E ce q9 Gx H1 locs1 hx9 => hx9.elim) (fun rv Gc_69 H locs hp hI => ?_)
          obtain ⟨rfl, hs1, ha1⟩ := hp
          refine W.eq (g2 := F0 m 72 ls []) rfl ?_
          refine lv_iload hx hb dX4_kind_72 (lv_at hl 0 rfl) ?_
          exact g_iret S hI hr hlocks (Nat.zero_le _) (Nat.zero_le _) dX4_kind_74 (by rw [ho]; exact ⟨rfl, rfl, hy0.stock hs1 ha1 hc40, (ha1).y (by decide)⟩)
        · skip
          have c_40 : 6 ≤ (yKc y) := Nat.not_lt.mp (fun z => c_40 ((nI_ltI (a := (yKc y)) (b := 6) (by omega) (by omega)).mpr z))
          exact absurd hroom (by omega)
      · skip
        have c_18 : (inB (nI q) 1 999) = false := bI_0.mp c_18
        rw [hx3] at c_18; cases c_18
set_option maxHeartbeats 4000000 in
set_option maxRecDepth 100000 in
/-- let -/
theorem c_letC (l : Launch) (K : gK) (G : gW) (L1 L2 : Nat → Nat → Nat) (M : Nat → Nat) (hy : Nat) (y : YV) (i w q : Nat) (hlS : l.stackTraces = false) (hy0 : YardC K L1 L2 M hy G y) (hi : i < yKc y) (hb9 : w ≤ 2 ∧ q ≤ 3) : gM l yX4_let wsX4_let 4 83 0 0 K [.ref hy, .int (nI i), .int (nI w), .int (nI q)] G (oPost K L1 L2 M hy G (oLet y (nI i) (nI w) (nI q))) (oX K L1 L2 M hy G (oLet y (nI i) (nI w) (nI q)) (ex2 eIO eIA)) := by
  refine gM.of (cc := cX4_let) (maxL := 6) (ret := (some .int)) (by decide) rfl (Nat.le_of_ble_eq_true rfl) ?_
  intro p e s m below meth c A S hr hlocks htab hname hE hA hI ls hl
  have hx := S.1
  have hb := S.2.1
  have hml := S.2.2.1
  have hl : lv_has ls 6 [(0, .ref hy), (1, .int (nI i)), (2, .int (nI w)), (3, .int (nI q))] := hl
  have hs := hy0.2.1
  have hy9 := hy0.1
  have h44 := hs.1.2.2.2.1
  have h6 := hs.1.2.2.2.2.1
  have hf2 := hs.1.2.2.2.2.2
  have hc40 := hy0.2.2.2.2
  have hri : inR (nI i) (yKc y) = true := inR_nI hi (by omega)
  have hiN : iN (nI i) = i := iN_nI (by omega)
  obtain ⟨hkd, hkok⟩ := hs.kind hi
  have hkok9 := hkok
  obtain ⟨k1, k2, k3, k4, k5, k6, k7, k8, k9⟩ := hkok9
  have ho : oLet y (nI i) (nI w) (nI q) = (0, nI (kW (yK y i)), ySetK y i (kLet (yK y i) w q)) := by unfold oLet; rw [if_pos hri, hiN, if_pos (by rw [inB_nI (by omega), inB_nI (by omega), decide_eq_true (by omega), decide_eq_true (by omega)]; rfl), iN_nI (by omega), iN_nI (by omega)]
  obtain ⟨H, hHe⟩ : ∃ z, z = s.heap := ⟨_, rfl⟩
  obtain ⟨locs, hLe⟩ : ∃ z : List Loc, z = [] := ⟨_, rfl⟩
  rw [← hHe, ← hLe]
  have hI : gI K A s G H locs := by rw [hHe, hLe]; exact hI
  clear hHe hLe
  refine lv_aload_n hx hb dX4_let_0 rfl (lv_at hl 0 rfl) ?_
  refine lv_iload_n hx hb dX4_let_1 rfl (lv_at hl 1 rfl) ?_
  refine g_callV (As := [.int (nI i)]) (rest := []) (b := hy) (n := 1) S hE hI hA (c_kindOfIn l K _ L1 L2 M hy y i hlS hy0 hi) gX4_let_X4_kindOf rfl (by decide +kernel) ⟨Nat.le_of_ble_eq_true rfl, Nat.le_of_ble_eq_true rfl⟩ (g_hro hE hI hy9 rfl) rfl hl.1 rfl (Nat.le_of_ble_eq_true rfl) dX4_let_2 ⟨Nat.le_of_ble_eq_true rfl, Nat.le_of_ble_eq_true rfl⟩ (fun E ce q9 Gx H locs hx9 hI hce hcv hcl => ?_) (fun rv Gc_2 H locs hp hI => ?_)
  · skip
    exact hx9.elim
  obtain ⟨rfl, hq9⟩ := hp
  rw [hq9] at hI
  refine W.eq (g2 := F0 m 5 ls [.ref (L1 5 i)]) rfl ?_
  refine lv_astore (lv' := [(4, .ref (L1 5 i)), (0, .ref hy), (1, .int (nI i)), (2, .int (nI w)), (3, .int (nI q))]) hx hb dX4_let_5 hl (by decide) rfl (fun ls hl => ?_)
  refine lv_iload_n hx hb dX4_let_7 rfl (lv_at hl 3 rfl) ?_
  refine lv_if_lt (tgt := 25) hx hb dX4_let_8 (by decide) (fun c_8 => ?_) (fun c_8 => ?_)
  · skip
    have c_8 : w < 0 := (nI_ltI (a := w) (b := 0) (by omega) (by omega)).mp c_8
    exact absurd c_8 (by omega)
  · skip
    have c_8 : 0 ≤ w := Nat.not_lt.mp (fun z => c_8 ((nI_ltI (a := w) (b := 0) (by omega) (by omega)).mpr z))
    refine lv_iload_n hx hb dX4_let_11 rfl (lv_at hl 3 rfl) ?_
    refine lv_iconst (v := nI 3) hx hb dX4_let_12 (by decide) ?_
    refine lv_icmp_ge (tgt := 25) hx hb dX4_let_13 (by decide) (fun c_13 => ?_) (fun c_13 => ?_)
    · skip
      have c_13 : 3 ≤ w := (nI_leI (a := 3) (b := w) (by omega) (by omega)).mp c_13
      exact absurd c_13 (by omega)
    · skip
      have c_13 : w < 3 := Nat.not_le.mp (fun z => c_13 ((nI_leI (a := 3) (b := w) (by omega) (by omega)).mpr z))
      refine lv_iload_n hx hb dX4_let_16 rfl (lv_at hl 4 rfl) ?_
      refine lv_if_lt (tgt := 25) hx hb dX4_let_17 (by decide) (fun c_17 => ?_) (fun c_17 => ?_)
      · skip
        have c_17 : q < 0 := (nI_ltI (a := q) (b := 0) (by omega) (by omega)).mp c_17
        exact absurd c_17 (by omega)
      · skip
        have c_17 : 0 ≤ q := Nat.not_lt.mp (fun z => c_17 ((nI_ltI (a := q) (b := 0) (by omega) (by omega)).mpr z))
        refine lv_iload_n hx hb dX4_let_20 rfl (lv_at hl 4 rfl) ?_
        refine lv_iconst (v := nI 3) hx hb dX4_let_21 (by decide) ?_
        refine lv_icmp_le (tgt := 35) hx hb dX4_let_22 (by decide) (fun c_22 => ?_) (fun c_22 => ?_)
        · skip
          have c_22 : q ≤ 3 := (nI_leI (a := q) (b := 3) (by omega) (by omega)).mp c_22
          refine lv_aload hx hb dX4_let_35 (lv_at hl 0 rfl) ?_
          refine g_getN S hE hI (C := RX0) (T := TX0) (N := 8) (ref := "StonecutterYard$Kind") (host := "StonecutterYard") (fun w h => (List.mem_cons_of_mem _ (List.mem_append_left _ (List.mem_append_left _ (List.mem_append_left _ (List.mem_append_left _ (List.mem_append_right _ h))))))) hkd rfl 2 (by decide) (List.mem_of_getElem? (i := 8) rfl) (fun _ h9 => h9) (v := .int (nI (kW (yK y i)))) rfl dX4_let_37 ?_
          refine lv_istore (lv' := [(5, .int (nI (kW (yK y i)))), (4, .ref (L1 5 i)), (0, .ref hy), (1, .int (nI i)), (2, .int (nI w)), (3, .int (nI q))]) hx hb dX4_let_40 hl (by decide) rfl (fun ls hl => ?_)
          refine lv_aload hx hb dX4_let_42 (lv_at hl 1 rfl) ?_
          refine lv_iload_n hx hb dX4_let_44 rfl (lv_at hl 4 rfl) ?_
          refine g_putN S hE hI (C := RX0) (T := TX0) (N := 8) (ref := "StonecutterYard$Kind") (host := "StonecutterYard") (fun w h => (List.mem_cons_of_mem _ (List.mem_append_left _ (List.mem_append_left _ (List.mem_append_left _ (List.mem_append_left _ (List.mem_append_right _ h))))))) tyX0 tyX0_ok nmX0 hkd rfl 2 (by decide) (List.mem_of_getElem? (i := 8) rfl) (fun _ h9 => h9) rfl rfl rfl (Nat.le_of_ble_eq_true rfl) dX4_let_45 (fun H locs hI => ?_)
          have hI : gI K A s (gset G (1, 5, i) (L1 5 i) (.inr (1, [.int (nI (kL (yK y i))), .int (nI (kB (yK y i))), .int (nI w), .int (nI (kF (yK y i))), .int (nI (kP (yK y i))), .int (nI (kN (yK y i))), .int (nI (kT (yK y i))), .int (nI (kD (yK y i)))]))) H locs := hI
          obtain ⟨G_1, hG_1⟩ : ∃ z, z = gset G (1, 5, i) (L1 5 i) (.inr (1, [.int (nI (kL (yK y i))), .int (nI (kB (yK y i))), .int (nI w), .int (nI (kF (yK y i))), .int (nI (kP (yK y i))), .int (nI (kN (yK y i))), .int (nI (kT (yK y i))), .int (nI (kD (yK y i)))])) := ⟨_, rfl⟩
          rw [← hG_1] at hI
          have yd_G_1 : G_1 (4, 20, 0) = some (hy, .inr (5, [.ref (L1 0 0), .ref (L2 0 0), .ref (M 0)])) := by rw [hG_1, gset_ne (g_tne hy9 hkd (by simp))]; exact hy9
          have st_G_1 : G_1 (1, 0, 0) = some ((L1 0 0), .inr (4, [.ref (L1 1 0), .ref (L1 2 0), .int (nI (ySc y)), .int (nI (yKc y)), .int (nI (yF y))])) := by rw [hG_1, gset_ne (g_tne hs.1.1 hkd (by simp))]; exact hs.1.1
          have k_G_1 : G_1 (1, 5, i) = some ((L1 5 i), .inr (1, [.int (nI (kL (yK y i))), .int (nI (kB (yK y i))), .int (nI w), .int (nI (kF (yK y i))), .int (nI (kP (yK y i))), .int (nI (kN (yK y i))), .int (nI (kT (yK y i))), .int (nI (kD (yK y i)))])) := by rw [hG_1]; exact gset_eq _ _ _ _
          refine lv_aload hx hb dX4_let_48 (lv_at hl 1 rfl) ?_
          refine lv_iload_n hx hb dX4_let_50 rfl (lv_at hl 5 rfl) ?_
          refine g_putN S hE hI (C := RX0) (T := TX0) (N := 8) (ref := "StonecutterYard$Kind") (host := "StonecutterYard") (fun w h => (List.mem_cons_of_mem _ (List.mem_append_left _ (List.mem_append_left _ (List.mem_append_left _ (List.mem_append_left _ (List.mem_append_right _ h))))))) tyX0 tyX0_ok nmX0 k_G_1 rfl 3 (by decide) (List.mem_of_getElem? (i := 9) rfl) (fun _ h9 => h9) rfl rfl rfl (Nat.le_of_ble_eq_true rfl) dX4_let_51 (fun H locs hI => ?_)
          have hI : gI K A s (gset G_1 (1, 5, i) (L1 5 i) (.inr (1, [.int (nI (kL (yK y i))), .int (nI (kB (yK y i))), .int (nI w), .int (nI q), .int (nI (kP (yK y i))), .int (nI (kN (yK y i))), .int (nI (kT (yK y i))), .int (nI (kD (yK y i)))]))) H locs := hI
          obtain ⟨G_2, hG_2⟩ : ∃ z, z = gset G_1 (1, 5, i) (L1 5 i) (.inr (1, [.int (nI (kL (yK y i))), .int (nI (kB (yK y i))), .int (nI w), .int (nI q), .int (nI (kP (yK y i))), .int (nI (kN (yK y i))), .int (nI (kT (yK y i))), .int (nI (kD (yK y i)))])) := ⟨_, rfl⟩
          rw [← hG_2] at hI
          have yd_G_2 : G_2 (4, 20, 0) = some (hy, .inr (5, [.ref (L1 0 0), .ref (L2 0 0), .ref (M 0)])) := by rw [hG_2, gset_ne (g_tne yd_G_1 k_G_1 (by simp))]; exact yd_G_1
          have st_G_2 : G_2 (1, 0, 0) = some ((L1 0 0), .inr (4, [.ref (L1 1 0), .ref (L1 2 0), .int (nI (ySc y)), .int (nI (yKc y)), .int (nI (yF y))])) := by rw [hG_2, gset_ne (g_tne st_G_1 k_G_1 (by simp))]; exact st_G_1
          have k_G_2 : G_2 (1, 5, i) = some ((L1 5 i), .inr (1, [.int (nI (kL (yK y i))), .int (nI (kB (yK y i))), .int (nI w), .int (nI q), .int (nI (kP (yK y i))), .int (nI (kN (yK y i))), .int (nI (kT (yK y i))), .int (nI (kD (yK y i)))])) := by rw [hG_2]; exact gset_eq _ _ _ _
          refine lv_iload hx hb dX4_let_54 (lv_at hl 0 rfl) ?_
          have hs1 : StockG K true 1 L1 G_2 (ySetK y i (kLet (yK y i) w q)) := by rw [hG_2, hG_1, gset_gset]; exact hs.setK (k := kLet (yK y i) w q) hi ⟨k1, k2, k3, k4, hb9.1, hb9.2, k7, k8, k9⟩
          have ha1 : Ag 1 G G_2 := by rw [hG_2, hG_1]; exact Ag.rf.st.st
          exact g_iret S hI hr hlocks (Nat.zero_le _) (Nat.zero_le _) dX4_let_56 (by rw [ho]; exact ⟨rfl, rfl, hy0.stock hs1 ha1 hc40, (ha1).y (by decide)⟩)
        · skip
          have c_22 : 3 < q := Nat.not_le.mp (fun z => c_22 ((nI_leI (a := q) (b := 3) (by omega) (by omega)).mpr z))
          exact absurd c_22 (by omega)
set_option maxHeartbeats 4000000 in
set_option maxRecDepth 100000 in
/-- order -/
theorem c_orderC (l : Launch) (K : gK) (G : gW) (L1 L2 : Nat → Nat → Nat) (M : Nat → Nat) (hy : Nat) (y : YV) (i q : Nat) (hlS : l.stackTraces = false) (hy0 : YardC K L1 L2 M hy G y) (hi : i < yKc y) (hb9 : 1 ≤ q ∧ q + kN (yK y i) ≤ 20) : gM l yX4_order wsX4_order 4 83 0 0 K [.ref hy, .int (nI i), .int (nI q)] G (oPost K L1 L2 M hy G (oOrder y (nI i) (nI q))) (oX K L1 L2 M hy G (oOrder y (nI i) (nI q)) (ex2 eIO eIA)) := by
  refine gM.of (cc := cX4_order) (maxL := 4) (ret := (some .int)) (by decide) rfl (Nat.le_of_ble_eq_true rfl) ?_
  intro p e s m below meth c A S hr hlocks htab hname hE hA hI ls hl
  have hx := S.1
  have hb := S.2.1
  have hml := S.2.2.1
  have hl : lv_has ls 4 [(0, .ref hy), (1, .int (nI i)), (2, .int (nI q))] := hl
  have hs := hy0.2.1
  have hy9 := hy0.1
  have h44 := hs.1.2.2.2.1
  have h6 := hs.1.2.2.2.2.1
  have hf2 := hs.1.2.2.2.2.2
  have hc40 := hy0.2.2.2.2
  have hri : inR (nI i) (yKc y) = true := inR_nI hi (by omega)
  have hiN : iN (nI i) = i := iN_nI (by omega)
  obtain ⟨hkd, hkok⟩ := hs.kind hi
  have hkok9 := hkok
  obtain ⟨k1, k2, k3, k4, k5, k6, k7, k8, k9⟩ := hkok9
  have ho : oOrder y (nI i) (nI q) = (0, nI (kN (yK y i) + q), ySetK y i (kOrd (yK y i) q)) := by unfold oOrder; rw [if_pos hri, hiN, if_pos (by rw [inB_nI (by omega)]; exact decide_eq_true (by omega)), iN_nI (by omega)]
  obtain ⟨H, hHe⟩ : ∃ z, z = s.heap := ⟨_, rfl⟩
  obtain ⟨locs, hLe⟩ : ∃ z : List Loc, z = [] := ⟨_, rfl⟩
  rw [← hHe, ← hLe]
  have hI : gI K A s G H locs := by rw [hHe, hLe]; exact hI
  clear hHe hLe
  refine lv_aload_n hx hb dX4_order_0 rfl (lv_at hl 0 rfl) ?_
  refine lv_iload_n hx hb dX4_order_1 rfl (lv_at hl 1 rfl) ?_
  refine g_callV (As := [.int (nI i)]) (rest := []) (b := hy) (n := 1) S hE hI hA (c_kindOfIn l K _ L1 L2 M hy y i hlS hy0 hi) gX4_order_X4_kindOf rfl (by decide +kernel) ⟨Nat.le_of_ble_eq_true rfl, Nat.le_of_ble_eq_true rfl⟩ (g_hro hE hI hy9 rfl) rfl hl.1 rfl (Nat.le_of_ble_eq_true rfl) dX4_order_2 ⟨Nat.le_of_ble_eq_true rfl, Nat.le_of_ble_eq_true rfl⟩ (fun E ce q9 Gx H locs hx9 hI hce hcv hcl => ?_) (fun rv Gc_2 H locs hp hI => ?_)
  · skip
    exact hx9.elim
  obtain ⟨rfl, hq9⟩ := hp
  rw [hq9] at hI
  refine W.eq (g2 := F0 m 5 ls [.ref (L1 5 i)]) rfl ?_
  refine lv_astore_n (lv' := [(3, .ref (L1 5 i)), (0, .ref hy), (1, .int (nI i)), (2, .int (nI q))]) hx hb dX4_order_5 rfl hl (by decide) rfl (fun ls hl => ?_)
  refine lv_iload_n hx hb dX4_order_6 rfl (lv_at hl 3 rfl) ?_
  refine lv_iconst (v := nI 1) hx hb dX4_order_7 (by decide) ?_
  refine lv_icmp_lt (tgt := 22) hx hb dX4_order_8 (by decide) (fun c_8 => ?_) (fun c_8 => ?_)
  · skip
    have c_8 : q < 1 := (nI_ltI (a := q) (b := 1) (by omega) (by omega)).mp c_8
    exact absurd c_8 (by omega)
  · skip
    have c_8 : 1 ≤ q := Nat.not_lt.mp (fun z => c_8 ((nI_ltI (a := q) (b := 1) (by omega) (by omega)).mpr z))
    refine lv_iload_n hx hb dX4_order_11 rfl (lv_at hl 3 rfl) ?_
    refine lv_bipush (v := nI 20) hx hb dX4_order_12 (by decide) ?_
    refine lv_aload_n hx hb dX4_order_14 rfl (lv_at hl 0 rfl) ?_
    refine g_getN S hE hI (C := RX0) (T := TX0) (N := 8) (ref := "StonecutterYard$Kind") (host := "StonecutterYard") (fun w h => (List.mem_cons_of_mem _ (List.mem_append_left _ (List.mem_append_left _ (List.mem_append_left _ (List.mem_append_left _ (List.mem_append_right _ h))))))) hkd rfl 5 (by decide) (List.mem_of_getElem? (i := 10) rfl) (fun _ h9 => h9) (v := .int (nI (kN (yK y i)))) rfl dX4_order_15 ?_
    refine t_isub hx hb dX4_order_18 (v := nI (20 - kN (yK y i))) (pk_sub (by omega)) ?_
    refine lv_icmp_le (tgt := 32) hx hb dX4_order_19 (by decide) (fun c_19 => ?_) (fun c_19 => ?_)
    · skip
      have c_19 : q ≤ (20 - kN (yK y i)) := (nI_leI (a := q) (b := (20 - kN (yK y i))) (by omega) (by omega)).mp c_19
      refine lv_aload_n hx hb dX4_order_32 rfl (lv_at hl 0 rfl) ?_
      refine lv_dup hx hb dX4_order_33 rfl ?_
      refine g_getN S hE hI (C := RX0) (T := TX0) (N := 8) (ref := "StonecutterYard$Kind") (host := "StonecutterYard") (fun w h => (List.mem_cons_of_mem _ (List.mem_append_left _ (List.mem_append_left _ (List.mem_append_left _ (List.mem_append_left _ (List.mem_append_right _ h))))))) hkd rfl 5 (by decide) (List.mem_of_getElem? (i := 10) rfl) (fun _ h9 => h9) (v := .int (nI (kN (yK y i)))) rfl dX4_order_34 ?_
      refine lv_iload_n hx hb dX4_order_37 rfl (lv_at hl 3 rfl) ?_
      refine t_iadd hx hb dX4_order_38 (nI_add _ _) ?_
      refine g_putN S hE hI (C := RX0) (T := TX0) (N := 8) (ref := "StonecutterYard$Kind") (host := "StonecutterYard") (fun w h => (List.mem_cons_of_mem _ (List.mem_append_left _ (List.mem_append_left _ (List.mem_append_left _ (List.mem_append_left _ (List.mem_append_right _ h))))))) tyX0 tyX0_ok nmX0 hkd rfl 5 (by decide) (List.mem_of_getElem? (i := 10) rfl) (fun _ h9 => h9) rfl rfl rfl (Nat.le_of_ble_eq_true rfl) dX4_order_39 (fun H locs hI => ?_)
      have hI : gI K A s (gset G (1, 5, i) (L1 5 i) (.inr (1, [.int (nI (kL (yK y i))), .int (nI (kB (yK y i))), .int (nI (kW (yK y i))), .int (nI (kF (yK y i))), .int (nI (kP (yK y i))), .int (nI ((kN (yK y i)) + q)), .int (nI (kT (yK y i))), .int (nI (kD (yK y i)))]))) H locs := hI
      obtain ⟨G_1, hG_1⟩ : ∃ z, z = gset G (1, 5, i) (L1 5 i) (.inr (1, [.int (nI (kL (yK y i))), .int (nI (kB (yK y i))), .int (nI (kW (yK y i))), .int (nI (kF (yK y i))), .int (nI (kP (yK y i))), .int (nI ((kN (yK y i)) + q)), .int (nI (kT (yK y i))), .int (nI (kD (yK y i)))])) := ⟨_, rfl⟩
      rw [← hG_1] at hI
      have yd_G_1 : G_1 (4, 20, 0) = some (hy, .inr (5, [.ref (L1 0 0), .ref (L2 0 0), .ref (M 0)])) := by rw [hG_1, gset_ne (g_tne hy9 hkd (by simp))]; exact hy9
      have st_G_1 : G_1 (1, 0, 0) = some ((L1 0 0), .inr (4, [.ref (L1 1 0), .ref (L1 2 0), .int (nI (ySc y)), .int (nI (yKc y)), .int (nI (yF y))])) := by rw [hG_1, gset_ne (g_tne hs.1.1 hkd (by simp))]; exact hs.1.1
      have k_G_1 : G_1 (1, 5, i) = some ((L1 5 i), .inr (1, [.int (nI (kL (yK y i))), .int (nI (kB (yK y i))), .int (nI (kW (yK y i))), .int (nI (kF (yK y i))), .int (nI (kP (yK y i))), .int (nI ((kN (yK y i)) + q)), .int (nI (kT (yK y i))), .int (nI (kD (yK y i)))])) := by rw [hG_1]; exact gset_eq _ _ _ _
      refine lv_aload_n hx hb dX4_order_42 rfl (lv_at hl 0 rfl) ?_
      refine g_getN S hE hI (C := RX0) (T := TX0) (N := 8) (ref := "StonecutterYard$Kind") (host := "StonecutterYard") (fun w h => (List.mem_cons_of_mem _ (List.mem_append_left _ (List.mem_append_left _ (List.mem_append_left _ (List.mem_append_left _ (List.mem_append_right _ h))))))) k_G_1 rfl 5 (by decide) (List.mem_of_getElem? (i := 10) rfl) (fun _ h9 => h9) (v := .int (nI ((kN (yK y i)) + q))) rfl dX4_order_43 ?_
      have hs1 : StockG K true 1 L1 G_1 (ySetK y i (kOrd (yK y i) q)) := by rw [hG_1]; exact hs.setK (k := kOrd (yK y i) q) hi ⟨k1, k2, k3, k4, k5, k6, k7, k8, by show kN (yK y i) + q ≤ 20; omega⟩
      have ha1 : Ag 1 G G_1 := by rw [hG_1]; exact Ag.rf.st
      exact g_iret S hI hr hlocks (Nat.zero_le _) (Nat.zero_le _) dX4_order_46 (by rw [ho]; exact ⟨rfl, rfl, hy0.stock hs1 ha1 hc40, (ha1).y (by decide)⟩)
    · skip
      have c_19 : (20 - kN (yK y i)) < q := Nat.not_le.mp (fun z => c_19 ((nI_leI (a := q) (b := (20 - kN (yK y i))) (by omega) (by omega)).mpr z))
      exact absurd c_19 (by omega)
set_option maxHeartbeats 4000000 in
set_option maxRecDepth 100000 in
/-- fits -/
theorem c_fitsC (l : Launch) (K : gK) (G : gW) (L1 L2 : Nat → Nat → Nat) (M : Nat → Nat) (hy : Nat) (y : YV) (i j : Nat) (hlS : l.stackTraces = false) (hy0 : YardC K L1 L2 M hy G y) (hi : i < ySc y) (hj : j < yKc y) : gM l yX4_fits wsX4_fits 4 90 0 0 K [.ref hy, .int (nI i), .int (nI j)] G (oPost K L1 L2 M hy G (oFits y (nI i) (nI j))) (oX K L1 L2 M hy G (oFits y (nI i) (nI j)) (ex1 eIO)) := by
  refine gM.of (cc := cX4_fits) (maxL := 3) (ret := (some .int)) (by decide) rfl (Nat.le_of_ble_eq_true rfl) ?_
  intro p e s m below meth c A S hr hlocks htab hname hE hA hI ls hl
  have hx := S.1
  have hb := S.2.1
  have hml := S.2.2.1
  have hl : lv_has ls 3 [(0, .ref hy), (1, .int (nI i)), (2, .int (nI j))] := hl
  have hs := hy0.2.1
  have hy9 := hy0.1
  have h44 := hs.1.2.2.2.1
  have h6 := hs.1.2.2.2.2.1
  have hf2 := hs.1.2.2.2.2.2
  have hc40 := hy0.2.2.2.2
  have hri : inR (nI i) (ySc y) = true := inR_nI hi (by omega)
  have hiN : iN (nI i) = i := iN_nI (by omega)
  have hrj : inR (nI j) (yKc y) = true := inR_nI hj (by omega)
  have hjN : iN (nI j) = j := iN_nI (by omega)
  obtain ⟨P, hsl, hpt, hpk, hsok⟩ := hs.slab hi
  have hsok9 := hsok
  obtain ⟨s1, s2, s3, s4, s5, s6, s7, s8⟩ := hsok9
  obtain ⟨hkd, hkok⟩ := hs.kind hj
  have hkok9 := hkok
  obtain ⟨k1, k2, k3, k4, k5, k6, k7, k8, k9⟩ := hkok9
  have ho : oFits y (nI i) (nI j) = (0, oI (sFits (yS y i) (yK y j)), y) := by unfold oFits; rw [if_pos (by rw [hri, hrj]; rfl), hiN, hjN]
  obtain ⟨H, hHe⟩ : ∃ z, z = s.heap := ⟨_, rfl⟩
  obtain ⟨locs, hLe⟩ : ∃ z : List Loc, z = [] := ⟨_, rfl⟩
  rw [← hHe, ← hLe]
  have hI : gI K A s G H locs := by rw [hHe, hLe]; exact hI
  clear hHe hLe
  refine lv_aload_n hx hb dX4_fits_0 rfl (lv_at hl 0 rfl) ?_
  refine lv_iload_n hx hb dX4_fits_1 rfl (lv_at hl 1 rfl) ?_
  refine g_callV (As := [.int (nI i)]) (rest := []) (b := hy) (n := 1) S hE hI hA (c_slabOfIn l K _ L1 L2 M hy y i hlS hy0 hi) gX4_fits_X4_slabOf rfl (by decide +kernel) ⟨Nat.le_of_ble_eq_true rfl, Nat.le_of_ble_eq_true rfl⟩ (g_hro hE hI hy9 rfl) rfl hl.1 rfl (Nat.le_of_ble_eq_true rfl) dX4_fits_2 ⟨Nat.le_of_ble_eq_true rfl, Nat.le_of_ble_eq_true rfl⟩ (fun E ce q9 Gx H locs hx9 hI hce hcv hcl => ?_) (fun rv Gc_2 H locs hp hI => ?_)
  · skip
    exact hx9.elim
  obtain ⟨rfl, hq9⟩ := hp
  rw [hq9] at hI
  refine W.eq (g2 := F0 m 5 ls [.ref (L1 3 i)]) rfl ?_
  refine lv_aload_n hx hb dX4_fits_5 rfl (lv_at hl 0 rfl) ?_
  refine lv_iload_n hx hb dX4_fits_6 rfl (lv_at hl 2 rfl) ?_
  refine g_callV (As := [.int (nI j)]) (rest := [.ref (L1 3 i)]) (b := hy) (n := 1) S hE hI hA (c_kindOfIn l K _ L1 L2 M hy y j hlS hy0 hj) gX4_fits_X4_kindOf rfl (by decide +kernel) ⟨Nat.le_of_ble_eq_true rfl, Nat.le_of_ble_eq_true rfl⟩ (g_hro hE hI hy9 rfl) rfl hl.1 rfl (Nat.le_of_ble_eq_true rfl) dX4_fits_7 ⟨Nat.le_of_ble_eq_true rfl, Nat.le_of_ble_eq_true rfl⟩ (fun E ce q9 Gx H locs hx9 hI hce hcv hcl => ?_) (fun rv Gc_7 H locs hp hI => ?_)
  · skip
    exact hx9.elim
  obtain ⟨rfl, hq9⟩ := hp
  rw [hq9] at hI
  refine W.eq (g2 := F0 m 10 ls [.ref (L1 5 j), .ref (L1 3 i)]) rfl ?_
  refine g_callV (As := [.ref (L1 5 j)]) (rest := []) (b := (L1 3 i)) (n := 1) S hE hI hA (c_X2_firstManner l K _ (1, 3, i) (1, 4, i) (1, 5, j) (L1 3 i) (L1 5 j) (yS y i) (L1 4 i) P (yK y j) hsl hpt hkd hsok hkok hpk) gX4_fits_X2_firstManner rfl (by decide +kernel) ⟨Nat.le_of_ble_eq_true rfl, Nat.le_of_ble_eq_true rfl⟩ (g_hro hE hI hsl rfl) rfl hl.1 rfl (Nat.le_of_ble_eq_true rfl) dX4_fits_10 ⟨Nat.le_of_ble_eq_true rfl, Nat.le_of_ble_eq_true rfl⟩ (fun E ce q9 Gx H1 locs1 hx9 => hx9.elim) (fun rv Gc_10 H locs hp hI => ?_)
  obtain ⟨rfl, hq9⟩ := hp
  rw [hq9] at hI
  refine W.eq (g2 := F0 m 13 ls [.int (oI (sFits (yS y i) (yK y j)))]) rfl ?_
  exact g_iret S hI hr hlocks (Nat.zero_le _) (Nat.zero_le _) dX4_fits_13 (by rw [ho]; exact ⟨rfl, rfl, hy0, AgY.rf⟩)
set_option maxHeartbeats 4000000 in
set_option maxRecDepth 100000 in
/-- take -/
theorem c_takeE (l : Launch) (K : gK) (G : gW) (L1 L2 : Nat → Nat → Nat) (M : Nat → Nat) (hy : Nat) (y : YV) (i j mn : Nat) (hlS : l.stackTraces = false) (hy0 : YardC K L1 L2 M hy G y) (hi : i < ySc y) (hj : j < yKc y) (hfit : sFits (yS y i) (yK y j) = some mn) (hroom : ySc y ≤ 36) : gM l yX4_take wsX4_take 6 145 0 0 K [.ref hy, .int (nI i), .int (nI j)] G (oPost K L1 L2 M hy G (oTake y (nI i) (nI j))) (oX K L1 L2 M hy G (oTake y (nI i) (nI j)) (ex2 eIO eIS)) := by
  refine gM.of (cc := cX4_take) (maxL := 4) (ret := (some .int)) (by decide) rfl (Nat.le_of_ble_eq_true rfl) ?_
  intro p e s m below meth c A S hr hlocks htab hname hE hA hI ls hl
  have hx := S.1
  have hb := S.2.1
  have hml := S.2.2.1
  have hl : lv_has ls 4 [(0, .ref hy), (1, .int (nI i)), (2, .int (nI j))] := hl
  have hs := hy0.2.1
  have hy9 := hy0.1
  have h44 := hs.1.2.2.2.1
  have h6 := hs.1.2.2.2.2.1
  have hf2 := hs.1.2.2.2.2.2
  have hc40 := hy0.2.2.2.2
  have hri : inR (nI i) (ySc y) = true := inR_nI hi (by omega)
  have hiN : iN (nI i) = i := iN_nI (by omega)
  have hrj : inR (nI j) (yKc y) = true := inR_nI hj (by omega)
  have hjN : iN (nI j) = j := iN_nI (by omega)
  obtain ⟨P, hsl, hpt, hpk, hsok⟩ := hs.slab hi
  have hsok9 := hsok
  obtain ⟨s1, s2, s3, s4, s5, s6, s7, s8⟩ := hsok9
  obtain ⟨hkd, hkok⟩ := hs.kind hj
  have hkok9 := hkok
  obtain ⟨k1, k2, k3, k4, k5, k6, k7, k8, k9⟩ := hkok9
  have hmn := sFits_lt hfit
  have ho : oTake y (nI i) (nI j) = (0, nI (sellP (yK y j)), yTake y i j mn) := by unfold oTake; rw [if_pos (by rw [hri, hrj]; rfl), hiN, hjN, hfit]; exact if_pos hroom
  obtain ⟨H, hHe⟩ : ∃ z, z = s.heap := ⟨_, rfl⟩
  obtain ⟨locs, hLe⟩ : ∃ z : List Loc, z = [] := ⟨_, rfl⟩
  rw [← hHe, ← hLe]
  have hI : gI K A s G H locs := by rw [hHe, hLe]; exact hI
  clear hHe hLe
  refine lv_aload_n hx hb dX4_take_0 rfl (lv_at hl 0 rfl) ?_
  refine lv_iload_n hx hb dX4_take_1 rfl (lv_at hl 1 rfl) ?_
  refine g_callV (As := [.int (nI i)]) (rest := []) (b := hy) (n := 1) S hE hI hA (c_slabOfIn l K _ L1 L2 M hy y i hlS hy0 hi) gX4_take_X4_slabOf rfl (by decide +kernel) ⟨Nat.le_of_ble_eq_true rfl, Nat.le_of_ble_eq_true rfl⟩ (g_hro hE hI hy9 rfl) rfl hl.1 rfl (Nat.le_of_ble_eq_true rfl) dX4_take_2 ⟨Nat.le_of_ble_eq_true rfl, Nat.le_of_ble_eq_true rfl⟩ (fun E ce q9 Gx H locs hx9 hI hce hcv hcl => ?_) (fun rv Gc_2 H locs hp hI => ?_)
  · skip
    exact hx9.elim
  obtain ⟨rfl, hq9⟩ := hp
  rw [hq9] at hI
  refine W.eq (g2 := F0 m 5 ls [.ref (L1 3 i)]) rfl ?_
  refine lv_aload_n hx hb dX4_take_5 rfl (lv_at hl 0 rfl) ?_
  refine lv_iload_n hx hb dX4_take_6 rfl (lv_at hl 2 rfl) ?_
  refine g_callV (As := [.int (nI j)]) (rest := [.ref (L1 3 i)]) (b := hy) (n := 1) S hE hI hA (c_kindOfIn l K _ L1 L2 M hy y j hlS hy0 hj) gX4_take_X4_kindOf rfl (by decide +kernel) ⟨Nat.le_of_ble_eq_true rfl, Nat.le_of_ble_eq_true rfl⟩ (g_hro hE hI hy9 rfl) rfl hl.1 rfl (Nat.le_of_ble_eq_true rfl) dX4_take_7 ⟨Nat.le_of_ble_eq_true rfl, Nat.le_of_ble_eq_true rfl⟩ (fun E ce q9 Gx H locs hx9 hI hce hcv hcl => ?_) (fun rv Gc_7 H locs hp hI => ?_)
  · skip
    exact hx9.elim
  obtain ⟨rfl, hq9⟩ := hp
  rw [hq9] at hI
  refine W.eq (g2 := F0 m 10 ls [.ref (L1 5 j), .ref (L1 3 i)]) rfl ?_
  refine g_callV (As := [.ref (L1 5 j)]) (rest := []) (b := (L1 3 i)) (n := 1) S hE hI hA (c_X2_firstManner l K _ (1, 3, i) (1, 4, i) (1, 5, j) (L1 3 i) (L1 5 j) (yS y i) (L1 4 i) P (yK y j) hsl hpt hkd hsok hkok hpk) gX4_take_X2_firstManner rfl (by decide +kernel) ⟨Nat.le_of_ble_eq_true rfl, Nat.le_of_ble_eq_true rfl⟩ (g_hro hE hI hsl rfl) rfl hl.1 rfl (Nat.le_of_ble_eq_true rfl) dX4_take_10 ⟨Nat.le_of_ble_eq_true rfl, Nat.le_of_ble_eq_true rfl⟩ (fun E ce q9 Gx H1 locs1 hx9 => hx9.elim) (fun rv Gc_10 H locs hp hI => ?_)
  obtain ⟨rfl, hq9⟩ := hp
  rw [hq9] at hI
  rw [hfit]
  refine W.eq (g2 := F0 m 13 ls [.int (nI mn)]) rfl ?_
  refine lv_istore_n (lv' := [(3, .int (nI mn)), (0, .ref hy), (1, .int (nI i)), (2, .int (nI j))]) hx hb dX4_take_13 rfl hl (by decide) rfl (fun ls hl => ?_)
  refine lv_iload_n hx hb dX4_take_14 rfl (lv_at hl 0 rfl) ?_
  refine lv_iconst (v := (-1)) hx hb dX4_take_15 (by decide) ?_
  refine lv_icmp_eq (tgt := 29) hx hb dX4_take_16 (by decide) (fun c_16 => ?_) (fun c_16 => ?_)
  · skip
    exact absurd c_16 (nI_m1 (by omega))
  · skip
    refine lv_aload_n hx hb dX4_take_19 rfl (lv_at hl 1 rfl) ?_
    refine g_get S hE hI (C := RX4) (T := TX4) (N := 3) (ref := "StonecutterYard") (fun w h => (List.mem_cons_of_mem _ (List.mem_append_left _ (List.mem_append_left _ (List.mem_append_left _ (List.mem_append_left _ (List.mem_append_left _ (List.mem_append_right _ h)))))))) hy9 rfl 0 (by decide) (List.mem_cons_of_mem _ (List.mem_append_left _ (List.mem_append_left _ (List.mem_append_left _ (List.mem_append_left _ (List.mem_append_left _ (List.mem_append_left _ (List.mem_append_left _ (List.mem_of_getElem? (i := 2) rfl))))))))) (fun _ h9 => h9) (v := .ref (L1 0 0)) rfl dX4_take_20 ?_
    refine g_callV (As := []) (rest := []) (b := (L1 0 0)) (n := 0) S hE hI hA (c_X3_hasRoomForStone l K _ true 1 L1 y hs) gX4_take_X3_hasRoomForStone rfl (by decide +kernel) ⟨Nat.le_of_ble_eq_true rfl, Nat.le_of_ble_eq_true rfl⟩ (g_hro hE hI hs.1.1 rfl) rfl hl.1 rfl (Nat.le_of_ble_eq_true rfl) dX4_take_23 ⟨Nat.le_of_ble_eq_true rfl, Nat.le_of_ble_eq_true rfl⟩ (fun E ce q9 Gx H1 locs1 hx9 => hx9.elim) (fun rv Gc_23 H locs hp hI => ?_)
    obtain ⟨rfl, hq9⟩ := hp
    rw [hq9] at hI
    refine W.eq (g2 := F0 m 26 ls [.int (bI (decide (ySc y ≤ 36)))]) rfl ?_
    refine lv_if_ne (tgt := 39) hx hb dX4_take_26 (by decide) (fun c_26 => ?_) (fun c_26 => ?_)
    · skip
      have c_26 : (decide (ySc y ≤ 36)) = true := bI_1.mp c_26
      refine lv_aload_n hx hb dX4_take_39 rfl (lv_at hl 1 rfl) ?_
      refine g_get S hE hI (C := RX4) (T := TX4) (N := 3) (ref := "StonecutterYard") (fun w h => (List.mem_cons_of_mem _ (List.mem_append_left _ (List.mem_append_left _ (List.mem_append_left _ (List.mem_append_left _ (List.mem_append_left _ (List.mem_append_right _ h)))))))) hy9 rfl 0 (by decide) (List.mem_cons_of_mem _ (List.mem_append_left _ (List.mem_append_left _ (List.mem_append_left _ (List.mem_append_left _ (List.mem_append_left _ (List.mem_append_left _ (List.mem_append_left _ (List.mem_of_getElem? (i := 2) rfl))))))))) (fun _ h9 => h9) (v := .ref (L1 0 0)) rfl dX4_take_40 ?_
      refine lv_iload_n hx hb dX4_take_43 rfl (lv_at hl 2 rfl) ?_
      refine lv_iload_n hx hb dX4_take_44 rfl (lv_at hl 3 rfl) ?_
      refine g_callV (As := [.int (nI i), .int (nI j)]) (rest := []) (b := (L1 0 0)) (n := 2) S hE hI hA (c_X3_takeStone l K _ true 1 L1 y i j mn hs hi hj hfit (by omega)) gX4_take_X3_takeStone rfl (by decide +kernel) ⟨Nat.le_of_ble_eq_true rfl, Nat.le_of_ble_eq_true rfl⟩ (g_hro hE hI hs.1.1 rfl) rfl hl.1 rfl (Nat.le_of_ble_eq_true rfl) dX4_take_45 ⟨Nat.le_of_ble_eq_true rfl, Nat.le_of_ble_eq_true rfl⟩ (fun E ce q9 Gx H1 locs1 hx9 => hx9.elim) (fun rv Gc_45 H locs hp hI => ?_)
      obtain ⟨rfl, hs1, ha1⟩ := hp
      have hle := yTake_le (y := y) (i := i) (j := j) (mn := mn)
      refine W.eq (g2 := F0 m 48 ls [.int (nI (sellP (yK y j)))]) rfl ?_
      exact g_iret S hI hr hlocks (Nat.zero_le _) (Nat.zero_le _) dX4_take_48 (by rw [ho]; exact ⟨rfl, rfl, hy0.stock hs1 ha1 (by show ySc (yTake y i j mn) ≤ 40; omega), (ha1).y (by decide)⟩)
    · skip
      have c_26 : (decide (ySc y ≤ 36)) = false := bI_0.mp c_26
      exact absurd hroom (of_decide_eq_false c_26)
theorem yPlan_le {n : Nat} : ∀ {y : YV}, ySc y ≤ 40 → ySc (yPlan n y).2 ≤ 40 := by
  induction n with
  | zero => intro y h; exact h
  | succ n ih =>
    intro y h
    by_cases c : ySc y ≤ 36
    · cases hn : (yNext y (ySc y)).1 with
      | none => rw [yPlan_none hn]; exact h
      | some i =>
        obtain ⟨h1, j, hj⟩ := yNext_some hn
        obtain ⟨h2, h3, ⟨mn, h4⟩, h5⟩ := yDear_p hj
        rw [yPlan_s c hn hj h4]
        exact ih (Nat.le_trans yTake_le (by omega))
    · rw [yPlan_full c]; exact h
set_option maxHeartbeats 4000000 in
set_option maxRecDepth 100000 in
/-- plan -/
theorem c_planB (l : Launch) (K : gK) (G : gW) (L1 L2 : Nat → Nat → Nat) (M : Nat → Nat) (hy : Nat) (y : YV) (n9 : Nat) (hlS : l.stackTraces = false) (hy0 : YardC K L1 L2 M hy G y) (hn9 : 1 ≤ n9 ∧ n9 ≤ 20) : gM l yX4_plan wsX4_plan 7 169 0 0 K [.ref hy, .int (nI n9)] G (oPost K L1 L2 M hy G (oPlan y (nI n9))) (oX K L1 L2 M hy G (oPlan y (nI n9)) (ex1 eIA)) := by
  refine gM.of (cc := cX4_plan) (maxL := 2) (ret := (some .int)) (by decide) rfl (Nat.le_of_ble_eq_true rfl) ?_
  intro p e s m below meth c A S hr hlocks htab hname hE hA hI ls hl
  have hx := S.1
  have hb := S.2.1
  have hml := S.2.2.1
  have hl : lv_has ls 2 [(0, .ref hy), (1, .int (nI n9))] := hl
  have hs := hy0.2.1
  have hy9 := hy0.1
  have h44 := hs.1.2.2.2.1
  have h6 := hs.1.2.2.2.2.1
  have hf2 := hs.1.2.2.2.2.2
  have hc40 := hy0.2.2.2.2
  have ho : oPlan y (nI n9) = (0, nI (yPlan n9 y).1, (yPlan n9 y).2) := by unfold oPlan; rw [if_pos (by rw [inB_nI (by omega)]; exact decide_eq_true (by omega)), iN_nI (by omega)]
  obtain ⟨H, hHe⟩ : ∃ z, z = s.heap := ⟨_, rfl⟩
  obtain ⟨locs, hLe⟩ : ∃ z : List Loc, z = [] := ⟨_, rfl⟩
  rw [← hHe, ← hLe]
  have hI : gI K A s G H locs := by rw [hHe, hLe]; exact hI
  clear hHe hLe
  refine lv_iload_n hx hb dX4_plan_0 rfl (lv_at hl 1 rfl) ?_
  refine g_callS (As := [.int (nI n9)]) (rest := []) (n := 1) S hE hI hA (c_reqMostIn l K _ n9 hlS hn9) gX4_plan_X4_requireMost rfl (by decide +kernel) ⟨Nat.le_of_ble_eq_true rfl, Nat.le_of_ble_eq_true rfl⟩ rfl hl.1 rfl (Nat.le_of_ble_eq_true rfl) dX4_plan_1 ⟨Nat.le_of_ble_eq_true rfl, Nat.le_of_ble_eq_true rfl⟩ (fun E ce q9 Gx H1 locs1 hx9 => hx9.elim) (fun rv Gc_1 H locs hp hI => ?_)
  obtain ⟨rfl, hq9⟩ := hp
  rw [hq9] at hI
  refine W.eq (g2 := F0 m 4 ls []) rfl ?_
  refine lv_aload_n hx hb dX4_plan_4 rfl (lv_at hl 0 rfl) ?_
  refine g_get S hE hI (C := RX4) (T := TX4) (N := 3) (ref := "StonecutterYard") (fun w h => (List.mem_cons_of_mem _ (List.mem_append_left _ (List.mem_append_left _ (List.mem_append_left _ (List.mem_append_left _ (List.mem_append_right _ h))))))) hy9 rfl 0 (by decide) (List.mem_cons_of_mem _ (List.mem_append_left _ (List.mem_append_left _ (List.mem_append_left _ (List.mem_append_left _ (List.mem_append_left _ (List.mem_append_left _ (List.mem_of_getElem? (i := 0) rfl)))))))) (fun _ h9 => h9) (v := .ref (L1 0 0)) rfl dX4_plan_5 ?_
  refine lv_iload_n hx hb dX4_plan_8 rfl (lv_at hl 1 rfl) ?_
  refine g_callV (As := [.int (nI n9)]) (rest := []) (b := (L1 0 0)) (n := 1) S hE hI hA (c_X3_takeByPlan l K _ true 1 L1 y n9 hs hn9.2) gX4_plan_X3_takeByPlan rfl (by decide +kernel) ⟨Nat.le_of_ble_eq_true rfl, Nat.le_of_ble_eq_true rfl⟩ (g_hro hE hI hs.1.1 rfl) rfl hl.1 rfl (Nat.le_of_ble_eq_true rfl) dX4_plan_9 ⟨Nat.le_of_ble_eq_true rfl, Nat.le_of_ble_eq_true rfl⟩ (fun E ce q9 Gx H1 locs1 hx9 => hx9.elim) (fun rv Gc_9 H locs hp hI => ?_)
  obtain ⟨rfl, hs1, ha1⟩ := hp
  refine W.eq (g2 := F0 m 12 ls [.int (nI ((yPlan n9 y).1))]) rfl ?_
  exact g_iret S hI hr hlocks (Nat.zero_le _) (Nat.zero_le _) dX4_plan_12 (by rw [ho]; exact ⟨rfl, rfl, hy0.stock hs1 ha1 (yPlan_le hc40), (ha1).y (by decide)⟩)
set_option maxHeartbeats 4000000 in
set_option maxRecDepth 100000 in
/-- many 0 -/
theorem c_many0 (l : Launch) (K : gK) (G : gW) (L1 L2 : Nat → Nat → Nat) (M : Nat → Nat) (hy : Nat) (y : YV) (hlS : l.stackTraces = false) (hy0 : YardC K L1 L2 M hy G y) : gM l yX4_many wsX4_many 5 107 0 0 K [.ref hy, .int (nI 0)] G (oPost K L1 L2 M hy G (oMany y (nI 0))) (oX K L1 L2 M hy G (oMany y (nI 0)) (ex1 eIA)) := by
  refine gM.of (cc := cX4_many) (maxL := 2) (ret := (some .int)) (by decide) rfl (Nat.le_of_ble_eq_true rfl) ?_
  intro p e s m below meth c A S hr hlocks htab hname hE hA hI ls hl
  have hx := S.1
  have hb := S.2.1
  have hml := S.2.2.1
  have hl : lv_has ls 2 [(0, .ref hy), (1, .int (nI 0))] := hl
  have hs := hy0.2.1
  have hy9 := hy0.1
  have h44 := hs.1.2.2.2.1
  have h6 := hs.1.2.2.2.2.1
  have hf2 := hs.1.2.2.2.2.2
  have hc40 := hy0.2.2.2.2
  have ho : oMany y (nI 0) = (0, yMany y 0, y) := by unfold oMany; rw [if_pos (by decide), iN_nI (by decide)]
  obtain ⟨H, hHe⟩ : ∃ z, z = s.heap := ⟨_, rfl⟩
  obtain ⟨locs, hLe⟩ : ∃ z : List Loc, z = [] := ⟨_, rfl⟩
  rw [← hHe, ← hLe]
  have hI : gI K A s G H locs := by rw [hHe, hLe]; exact hI
  clear hHe hLe
  refine lv_iload_n hx hb dX4_many_0 rfl (lv_at hl 1 rfl) ?_
  refine lv_tableIn (tgt := 48) (off := 47) hx hb dX4_many_1 (by decide +kernel) (by decide +kernel) (by decide +kernel) (by decide) ?_
  refine lv_aload_n hx hb dX4_many_48 rfl (lv_at hl 0 rfl) ?_
  refine g_get S hE hI (C := RX4) (T := TX4) (N := 3) (ref := "StonecutterYard") (fun w h => (List.mem_cons_of_mem _ (List.mem_append_left _ (List.mem_append_left _ (List.mem_append_left _ (List.mem_append_left _ (List.mem_append_right _ h))))))) hy9 rfl 0 (by decide) (List.mem_cons_of_mem _ (List.mem_append_left _ (List.mem_append_left _ (List.mem_append_left _ (List.mem_append_left _ (List.mem_append_left _ (List.mem_append_left _ (List.mem_of_getElem? (i := 2) rfl)))))))) (fun _ h9 => h9) (v := .ref (L1 0 0)) rfl dX4_many_49 ?_
  refine g_getN S hE hI (C := RX3) (T := TX3) (N := 5) (ref := "StonecutterYard$Stock") (host := "StonecutterYard") (fun w h => (List.mem_cons_of_mem _ (List.mem_append_left _ (List.mem_append_left _ (List.mem_append_left _ (List.mem_append_right _ h)))))) hs.1.1 rfl 2 (by decide) (List.mem_of_getElem? (i := 0) rfl) (fun _ h9 => h9) (v := .int (nI (ySc y))) rfl dX4_many_52 ?_
  exact g_iret S hI hr hlocks (Nat.zero_le _) (Nat.zero_le _) dX4_many_55 (by rw [ho]; exact ⟨rfl, rfl, hy0, AgY.rf⟩)
set_option maxHeartbeats 4000000 in
set_option maxRecDepth 100000 in
/-- many 1 -/
theorem c_many1 (l : Launch) (K : gK) (G : gW) (L1 L2 : Nat → Nat → Nat) (M : Nat → Nat) (hy : Nat) (y : YV) (hlS : l.stackTraces = false) (hy0 : YardC K L1 L2 M hy G y) : gM l yX4_many wsX4_many 5 107 0 0 K [.ref hy, .int (nI 1)] G (oPost K L1 L2 M hy G (oMany y (nI 1))) (oX K L1 L2 M hy G (oMany y (nI 1)) (ex1 eIA)) := by
  refine gM.of (cc := cX4_many) (maxL := 2) (ret := (some .int)) (by decide) rfl (Nat.le_of_ble_eq_true rfl) ?_
  intro p e s m below meth c A S hr hlocks htab hname hE hA hI ls hl
  have hx := S.1
  have hb := S.2.1
  have hml := S.2.2.1
  have hl : lv_has ls 2 [(0, .ref hy), (1, .int (nI 1))] := hl
  have hs := hy0.2.1
  have hy9 := hy0.1
  have h44 := hs.1.2.2.2.1
  have h6 := hs.1.2.2.2.2.1
  have hf2 := hs.1.2.2.2.2.2
  have hc40 := hy0.2.2.2.2
  have ho : oMany y (nI 1) = (0, yMany y 1, y) := by unfold oMany; rw [if_pos (by decide), iN_nI (by decide)]
  obtain ⟨H, hHe⟩ : ∃ z, z = s.heap := ⟨_, rfl⟩
  obtain ⟨locs, hLe⟩ : ∃ z : List Loc, z = [] := ⟨_, rfl⟩
  rw [← hHe, ← hLe]
  have hI : gI K A s G H locs := by rw [hHe, hLe]; exact hI
  clear hHe hLe
  refine lv_iload_n hx hb dX4_many_0 rfl (lv_at hl 1 rfl) ?_
  refine lv_tableIn (tgt := 56) (off := 55) hx hb dX4_many_1 (by decide +kernel) (by decide +kernel) (by decide +kernel) (by decide) ?_
  refine lv_aload_n hx hb dX4_many_56 rfl (lv_at hl 0 rfl) ?_
  refine g_get S hE hI (C := RX4) (T := TX4) (N := 3) (ref := "StonecutterYard") (fun w h => (List.mem_cons_of_mem _ (List.mem_append_left _ (List.mem_append_left _ (List.mem_append_left _ (List.mem_append_left _ (List.mem_append_right _ h))))))) hy9 rfl 0 (by decide) (List.mem_cons_of_mem _ (List.mem_append_left _ (List.mem_append_left _ (List.mem_append_left _ (List.mem_append_left _ (List.mem_append_left _ (List.mem_append_left _ (List.mem_of_getElem? (i := 2) rfl)))))))) (fun _ h9 => h9) (v := .ref (L1 0 0)) rfl dX4_many_57 ?_
  refine g_callV (As := []) (rest := []) (b := (L1 0 0)) (n := 0) S hE hI hA (c_X3_countThere l K _ true 1 L1 y hs) gX4_many_X3_countThere rfl (by decide +kernel) ⟨Nat.le_of_ble_eq_true rfl, Nat.le_of_ble_eq_true rfl⟩ (g_hro hE hI hs.1.1 rfl) rfl hl.1 rfl (Nat.le_of_ble_eq_true rfl) dX4_many_60 ⟨Nat.le_of_ble_eq_true rfl, Nat.le_of_ble_eq_true rfl⟩ (fun E ce q9 Gx H1 locs1 hx9 => hx9.elim) (fun rv Gc_60 H locs hp hI => ?_)
  obtain ⟨rfl, hq9⟩ := hp
  rw [hq9] at hI
  refine W.eq (g2 := F0 m 63 ls [.int (nI (yThere y))]) rfl ?_
  exact g_iret S hI hr hlocks (Nat.zero_le _) (Nat.zero_le _) dX4_many_63 (by rw [ho]; exact ⟨rfl, rfl, hy0, AgY.rf⟩)
set_option maxHeartbeats 4000000 in
set_option maxRecDepth 100000 in
/-- many 2 -/
theorem c_many2 (l : Launch) (K : gK) (G : gW) (L1 L2 : Nat → Nat → Nat) (M : Nat → Nat) (hy : Nat) (y : YV) (hlS : l.stackTraces = false) (hy0 : YardC K L1 L2 M hy G y) : gM l yX4_many wsX4_many 5 107 0 0 K [.ref hy, .int (nI 2)] G (oPost K L1 L2 M hy G (oMany y (nI 2))) (oX K L1 L2 M hy G (oMany y (nI 2)) (ex1 eIA)) := by
  refine gM.of (cc := cX4_many) (maxL := 2) (ret := (some .int)) (by decide) rfl (Nat.le_of_ble_eq_true rfl) ?_
  intro p e s m below meth c A S hr hlocks htab hname hE hA hI ls hl
  have hx := S.1
  have hb := S.2.1
  have hml := S.2.2.1
  have hl : lv_has ls 2 [(0, .ref hy), (1, .int (nI 2))] := hl
  have hs := hy0.2.1
  have hy9 := hy0.1
  have h44 := hs.1.2.2.2.1
  have h6 := hs.1.2.2.2.2.1
  have hf2 := hs.1.2.2.2.2.2
  have hc40 := hy0.2.2.2.2
  have ho : oMany y (nI 2) = (0, yMany y 2, y) := by unfold oMany; rw [if_pos (by decide), iN_nI (by decide)]
  obtain ⟨H, hHe⟩ : ∃ z, z = s.heap := ⟨_, rfl⟩
  obtain ⟨locs, hLe⟩ : ∃ z : List Loc, z = [] := ⟨_, rfl⟩
  rw [← hHe, ← hLe]
  have hI : gI K A s G H locs := by rw [hHe, hLe]; exact hI
  clear hHe hLe
  refine lv_iload_n hx hb dX4_many_0 rfl (lv_at hl 1 rfl) ?_
  refine lv_tableIn (tgt := 64) (off := 63) hx hb dX4_many_1 (by decide +kernel) (by decide +kernel) (by decide +kernel) (by decide) ?_
  refine lv_aload_n hx hb dX4_many_64 rfl (lv_at hl 0 rfl) ?_
  refine g_get S hE hI (C := RX4) (T := TX4) (N := 3) (ref := "StonecutterYard") (fun w h => (List.mem_cons_of_mem _ (List.mem_append_left _ (List.mem_append_left _ (List.mem_append_left _ (List.mem_append_left _ (List.mem_append_right _ h))))))) hy9 rfl 0 (by decide) (List.mem_cons_of_mem _ (List.mem_append_left _ (List.mem_append_left _ (List.mem_append_left _ (List.mem_append_left _ (List.mem_append_left _ (List.mem_append_left _ (List.mem_of_getElem? (i := 2) rfl)))))))) (fun _ h9 => h9) (v := .ref (L1 0 0)) rfl dX4_many_65 ?_
  refine g_getN S hE hI (C := RX3) (T := TX3) (N := 5) (ref := "StonecutterYard$Stock") (host := "StonecutterYard") (fun w h => (List.mem_cons_of_mem _ (List.mem_append_left _ (List.mem_append_left _ (List.mem_append_left _ (List.mem_append_right _ h)))))) hs.1.1 rfl 3 (by decide) (List.mem_of_getElem? (i := 7) rfl) (fun _ h9 => h9) (v := .int (nI (yKc y))) rfl dX4_many_68 ?_
  exact g_iret S hI hr hlocks (Nat.zero_le _) (Nat.zero_le _) dX4_many_71 (by rw [ho]; exact ⟨rfl, rfl, hy0, AgY.rf⟩)
set_option maxHeartbeats 4000000 in
set_option maxRecDepth 100000 in
/-- many 3 -/
theorem c_many3 (l : Launch) (K : gK) (G : gW) (L1 L2 : Nat → Nat → Nat) (M : Nat → Nat) (hy : Nat) (y : YV) (hlS : l.stackTraces = false) (hy0 : YardC K L1 L2 M hy G y) : gM l yX4_many wsX4_many 5 107 0 0 K [.ref hy, .int (nI 3)] G (oPost K L1 L2 M hy G (oMany y (nI 3))) (oX K L1 L2 M hy G (oMany y (nI 3)) (ex1 eIA)) := by
  refine gM.of (cc := cX4_many) (maxL := 2) (ret := (some .int)) (by decide) rfl (Nat.le_of_ble_eq_true rfl) ?_
  intro p e s m below meth c A S hr hlocks htab hname hE hA hI ls hl
  have hx := S.1
  have hb := S.2.1
  have hml := S.2.2.1
  have hl : lv_has ls 2 [(0, .ref hy), (1, .int (nI 3))] := hl
  have hs := hy0.2.1
  have hy9 := hy0.1
  have h44 := hs.1.2.2.2.1
  have h6 := hs.1.2.2.2.2.1
  have hf2 := hs.1.2.2.2.2.2
  have hc40 := hy0.2.2.2.2
  have ho : oMany y (nI 3) = (0, yMany y 3, y) := by unfold oMany; rw [if_pos (by decide), iN_nI (by decide)]
  obtain ⟨H, hHe⟩ : ∃ z, z = s.heap := ⟨_, rfl⟩
  obtain ⟨locs, hLe⟩ : ∃ z : List Loc, z = [] := ⟨_, rfl⟩
  rw [← hHe, ← hLe]
  have hI : gI K A s G H locs := by rw [hHe, hLe]; exact hI
  clear hHe hLe
  refine lv_iload_n hx hb dX4_many_0 rfl (lv_at hl 1 rfl) ?_
  refine lv_tableIn (tgt := 72) (off := 71) hx hb dX4_many_1 (by decide +kernel) (by decide +kernel) (by decide +kernel) (by decide) ?_
  refine lv_aload_n hx hb dX4_many_72 rfl (lv_at hl 0 rfl) ?_
  refine g_get S hE hI (C := RX4) (T := TX4) (N := 3) (ref := "StonecutterYard") (fun w h => (List.mem_cons_of_mem _ (List.mem_append_left _ (List.mem_append_left _ (List.mem_append_left _ (List.mem_append_left _ (List.mem_append_right _ h))))))) hy9 rfl 0 (by decide) (List.mem_cons_of_mem _ (List.mem_append_left _ (List.mem_append_left _ (List.mem_append_left _ (List.mem_append_left _ (List.mem_append_left _ (List.mem_append_left _ (List.mem_of_getElem? (i := 2) rfl)))))))) (fun _ h9 => h9) (v := .ref (L1 0 0)) rfl dX4_many_73 ?_
  refine g_callV (As := []) (rest := []) (b := (L1 0 0)) (n := 0) S hE hI hA (c_X3_countTaken l K _ true 1 L1 y hs) gX4_many_X3_countTaken rfl (by decide +kernel) ⟨Nat.le_of_ble_eq_true rfl, Nat.le_of_ble_eq_true rfl⟩ (g_hro hE hI hs.1.1 rfl) rfl hl.1 rfl (Nat.le_of_ble_eq_true rfl) dX4_many_76 ⟨Nat.le_of_ble_eq_true rfl, Nat.le_of_ble_eq_true rfl⟩ (fun E ce q9 Gx H1 locs1 hx9 => hx9.elim) (fun rv Gc_76 H locs hp hI => ?_)
  obtain ⟨rfl, hq9⟩ := hp
  rw [hq9] at hI
  refine W.eq (g2 := F0 m 79 ls [.int (nI (yTaken y))]) rfl ?_
  exact g_iret S hI hr hlocks (Nat.zero_le _) (Nat.zero_le _) dX4_many_79 (by rw [ho]; exact ⟨rfl, rfl, hy0, AgY.rf⟩)
set_option maxHeartbeats 4000000 in
set_option maxRecDepth 100000 in
/-- many 4 -/
theorem c_many4 (l : Launch) (K : gK) (G : gW) (L1 L2 : Nat → Nat → Nat) (M : Nat → Nat) (hy : Nat) (y : YV) (hlS : l.stackTraces = false) (hy0 : YardC K L1 L2 M hy G y) : gM l yX4_many wsX4_many 5 107 0 0 K [.ref hy, .int (nI 4)] G (oPost K L1 L2 M hy G (oMany y (nI 4))) (oX K L1 L2 M hy G (oMany y (nI 4)) (ex1 eIA)) := by
  refine gM.of (cc := cX4_many) (maxL := 2) (ret := (some .int)) (by decide) rfl (Nat.le_of_ble_eq_true rfl) ?_
  intro p e s m below meth c A S hr hlocks htab hname hE hA hI ls hl
  have hx := S.1
  have hb := S.2.1
  have hml := S.2.2.1
  have hl : lv_has ls 2 [(0, .ref hy), (1, .int (nI 4))] := hl
  have hs := hy0.2.1
  have hy9 := hy0.1
  have h44 := hs.1.2.2.2.1
  have h6 := hs.1.2.2.2.2.1
  have hf2 := hs.1.2.2.2.2.2
  have hc40 := hy0.2.2.2.2
  have ho : oMany y (nI 4) = (0, yMany y 4, y) := by unfold oMany; rw [if_pos (by decide), iN_nI (by decide)]
  obtain ⟨H, hHe⟩ : ∃ z, z = s.heap := ⟨_, rfl⟩
  obtain ⟨locs, hLe⟩ : ∃ z : List Loc, z = [] := ⟨_, rfl⟩
  rw [← hHe, ← hLe]
  have hI : gI K A s G H locs := by rw [hHe, hLe]; exact hI
  clear hHe hLe
  refine lv_iload_n hx hb dX4_many_0 rfl (lv_at hl 1 rfl) ?_
  refine lv_tableIn (tgt := 80) (off := 79) hx hb dX4_many_1 (by decide +kernel) (by decide +kernel) (by decide +kernel) (by decide) ?_
  refine lv_aload_n hx hb dX4_many_80 rfl (lv_at hl 0 rfl) ?_
  refine g_get S hE hI (C := RX4) (T := TX4) (N := 3) (ref := "StonecutterYard") (fun w h => (List.mem_cons_of_mem _ (List.mem_append_left _ (List.mem_append_left _ (List.mem_append_left _ (List.mem_append_left _ (List.mem_append_right _ h))))))) hy9 rfl 0 (by decide) (List.mem_cons_of_mem _ (List.mem_append_left _ (List.mem_append_left _ (List.mem_append_left _ (List.mem_append_left _ (List.mem_append_left _ (List.mem_append_left _ (List.mem_of_getElem? (i := 2) rfl)))))))) (fun _ h9 => h9) (v := .ref (L1 0 0)) rfl dX4_many_81 ?_
  refine g_callV (As := []) (rest := []) (b := (L1 0 0)) (n := 0) S hE hI hA (c_X3_sumPaid l K _ true 1 L1 y hs) gX4_many_X3_sumPaid rfl (by decide +kernel) ⟨Nat.le_of_ble_eq_true rfl, Nat.le_of_ble_eq_true rfl⟩ (g_hro hE hI hs.1.1 rfl) rfl hl.1 rfl (Nat.le_of_ble_eq_true rfl) dX4_many_84 ⟨Nat.le_of_ble_eq_true rfl, Nat.le_of_ble_eq_true rfl⟩ (fun E ce q9 Gx H1 locs1 hx9 => hx9.elim) (fun rv Gc_84 H locs hp hI => ?_)
  obtain ⟨rfl, hq9⟩ := hp
  rw [hq9] at hI
  refine W.eq (g2 := F0 m 87 ls [.int (nI (yPaid y))]) rfl ?_
  exact g_iret S hI hr hlocks (Nat.zero_le _) (Nat.zero_le _) dX4_many_87 (by rw [ho]; exact ⟨rfl, rfl, hy0, AgY.rf⟩)
set_option maxHeartbeats 4000000 in
set_option maxRecDepth 100000 in
/-- many 5 -/
theorem c_many5 (l : Launch) (K : gK) (G : gW) (L1 L2 : Nat → Nat → Nat) (M : Nat → Nat) (hy : Nat) (y : YV) (hlS : l.stackTraces = false) (hy0 : YardC K L1 L2 M hy G y) : gM l yX4_many wsX4_many 5 107 0 0 K [.ref hy, .int (nI 5)] G (oPost K L1 L2 M hy G (oMany y (nI 5))) (oX K L1 L2 M hy G (oMany y (nI 5)) (ex1 eIA)) := by
  refine gM.of (cc := cX4_many) (maxL := 2) (ret := (some .int)) (by decide) rfl (Nat.le_of_ble_eq_true rfl) ?_
  intro p e s m below meth c A S hr hlocks htab hname hE hA hI ls hl
  have hx := S.1
  have hb := S.2.1
  have hml := S.2.2.1
  have hl : lv_has ls 2 [(0, .ref hy), (1, .int (nI 5))] := hl
  have hs := hy0.2.1
  have hy9 := hy0.1
  have h44 := hs.1.2.2.2.1
  have h6 := hs.1.2.2.2.2.1
  have hf2 := hs.1.2.2.2.2.2
  have hc40 := hy0.2.2.2.2
  have ho : oMany y (nI 5) = (0, yMany y 5, y) := by unfold oMany; rw [if_pos (by decide), iN_nI (by decide)]
  obtain ⟨H, hHe⟩ : ∃ z, z = s.heap := ⟨_, rfl⟩
  obtain ⟨locs, hLe⟩ : ∃ z : List Loc, z = [] := ⟨_, rfl⟩
  rw [← hHe, ← hLe]
  have hI : gI K A s G H locs := by rw [hHe, hLe]; exact hI
  clear hHe hLe
  refine lv_iload_n hx hb dX4_many_0 rfl (lv_at hl 1 rfl) ?_
  refine lv_tableIn (tgt := 88) (off := 87) hx hb dX4_many_1 (by decide +kernel) (by decide +kernel) (by decide +kernel) (by decide) ?_
  refine lv_aload_n hx hb dX4_many_88 rfl (lv_at hl 0 rfl) ?_
  refine g_get S hE hI (C := RX4) (T := TX4) (N := 3) (ref := "StonecutterYard") (fun w h => (List.mem_cons_of_mem _ (List.mem_append_left _ (List.mem_append_left _ (List.mem_append_left _ (List.mem_append_left _ (List.mem_append_right _ h))))))) hy9 rfl 0 (by decide) (List.mem_cons_of_mem _ (List.mem_append_left _ (List.mem_append_left _ (List.mem_append_left _ (List.mem_append_left _ (List.mem_append_left _ (List.mem_append_left _ (List.mem_of_getElem? (i := 2) rfl)))))))) (fun _ h9 => h9) (v := .ref (L1 0 0)) rfl dX4_many_89 ?_
  refine g_callV (As := []) (rest := []) (b := (L1 0 0)) (n := 0) S hE hI hA (c_X3_waste l K _ true 1 L1 y hs) gX4_many_X3_waste rfl (by decide +kernel) ⟨Nat.le_of_ble_eq_true rfl, Nat.le_of_ble_eq_true rfl⟩ (g_hro hE hI hs.1.1 rfl) rfl hl.1 rfl (Nat.le_of_ble_eq_true rfl) dX4_many_92 ⟨Nat.le_of_ble_eq_true rfl, Nat.le_of_ble_eq_true rfl⟩ (fun E ce q9 Gx H1 locs1 hx9 => hx9.elim) (fun rv Gc_92 H locs hp hI => ?_)
  obtain ⟨rfl, hq9⟩ := hp
  rw [hq9] at hI
  refine W.eq (g2 := F0 m 95 ls [.int (yWaste y)]) rfl ?_
  exact g_iret S hI hr hlocks (Nat.zero_le _) (Nat.zero_le _) dX4_many_95 (by rw [ho]; exact ⟨rfl, rfl, hy0, AgY.rf⟩)
set_option maxHeartbeats 4000000 in
set_option maxRecDepth 100000 in
/-- many 6 -/
theorem c_many6 (l : Launch) (K : gK) (G : gW) (L1 L2 : Nat → Nat → Nat) (M : Nat → Nat) (hy : Nat) (y : YV) (hlS : l.stackTraces = false) (hy0 : YardC K L1 L2 M hy G y) : gM l yX4_many wsX4_many 5 107 0 0 K [.ref hy, .int (nI 6)] G (oPost K L1 L2 M hy G (oMany y (nI 6))) (oX K L1 L2 M hy G (oMany y (nI 6)) (ex1 eIA)) := by
  refine gM.of (cc := cX4_many) (maxL := 2) (ret := (some .int)) (by decide) rfl (Nat.le_of_ble_eq_true rfl) ?_
  intro p e s m below meth c A S hr hlocks htab hname hE hA hI ls hl
  have hx := S.1
  have hb := S.2.1
  have hml := S.2.2.1
  have hl : lv_has ls 2 [(0, .ref hy), (1, .int (nI 6))] := hl
  have hs := hy0.2.1
  have hy9 := hy0.1
  have h44 := hs.1.2.2.2.1
  have h6 := hs.1.2.2.2.2.1
  have hf2 := hs.1.2.2.2.2.2
  have hc40 := hy0.2.2.2.2
  have ho : oMany y (nI 6) = (0, yMany y 6, y) := by unfold oMany; rw [if_pos (by decide), iN_nI (by decide)]
  obtain ⟨H, hHe⟩ : ∃ z, z = s.heap := ⟨_, rfl⟩
  obtain ⟨locs, hLe⟩ : ∃ z : List Loc, z = [] := ⟨_, rfl⟩
  rw [← hHe, ← hLe]
  have hI : gI K A s G H locs := by rw [hHe, hLe]; exact hI
  clear hHe hLe
  refine lv_iload_n hx hb dX4_many_0 rfl (lv_at hl 1 rfl) ?_
  refine lv_tableIn (tgt := 96) (off := 95) hx hb dX4_many_1 (by decide +kernel) (by decide +kernel) (by decide +kernel) (by decide) ?_
  refine lv_aload_n hx hb dX4_many_96 rfl (lv_at hl 0 rfl) ?_
  refine g_get S hE hI (C := RX4) (T := TX4) (N := 3) (ref := "StonecutterYard") (fun w h => (List.mem_cons_of_mem _ (List.mem_append_left _ (List.mem_append_left _ (List.mem_append_left _ (List.mem_append_left _ (List.mem_append_right _ h))))))) hy9 rfl 0 (by decide) (List.mem_cons_of_mem _ (List.mem_append_left _ (List.mem_append_left _ (List.mem_append_left _ (List.mem_append_left _ (List.mem_append_left _ (List.mem_append_left _ (List.mem_of_getElem? (i := 2) rfl)))))))) (fun _ h9 => h9) (v := .ref (L1 0 0)) rfl dX4_many_97 ?_
  refine g_callV (As := []) (rest := []) (b := (L1 0 0)) (n := 0) S hE hI hA (c_X3_countWanted l K _ true 1 L1 y hs) gX4_many_X3_countWanted rfl (by decide +kernel) ⟨Nat.le_of_ble_eq_true rfl, Nat.le_of_ble_eq_true rfl⟩ (g_hro hE hI hs.1.1 rfl) rfl hl.1 rfl (Nat.le_of_ble_eq_true rfl) dX4_many_100 ⟨Nat.le_of_ble_eq_true rfl, Nat.le_of_ble_eq_true rfl⟩ (fun E ce q9 Gx H1 locs1 hx9 => hx9.elim) (fun rv Gc_100 H locs hp hI => ?_)
  obtain ⟨rfl, hq9⟩ := hp
  rw [hq9] at hI
  refine W.eq (g2 := F0 m 103 ls [.int (nI (yWanted y))]) rfl ?_
  exact g_iret S hI hr hlocks (Nat.zero_le _) (Nat.zero_le _) dX4_many_103 (by rw [ho]; exact ⟨rfl, rfl, hy0, AgY.rf⟩)
set_option maxHeartbeats 4000000 in
set_option maxRecDepth 100000 in
/-- many 7 -/
theorem c_many7 (l : Launch) (K : gK) (G : gW) (L1 L2 : Nat → Nat → Nat) (M : Nat → Nat) (hy : Nat) (y : YV) (hlS : l.stackTraces = false) (hy0 : YardC K L1 L2 M hy G y) : gM l yX4_many wsX4_many 5 107 0 0 K [.ref hy, .int (nI 7)] G (oPost K L1 L2 M hy G (oMany y (nI 7))) (oX K L1 L2 M hy G (oMany y (nI 7)) (ex1 eIA)) := by
  refine gM.of (cc := cX4_many) (maxL := 2) (ret := (some .int)) (by decide) rfl (Nat.le_of_ble_eq_true rfl) ?_
  intro p e s m below meth c A S hr hlocks htab hname hE hA hI ls hl
  have hx := S.1
  have hb := S.2.1
  have hml := S.2.2.1
  have hl : lv_has ls 2 [(0, .ref hy), (1, .int (nI 7))] := hl
  have hs := hy0.2.1
  have hy9 := hy0.1
  have h44 := hs.1.2.2.2.1
  have h6 := hs.1.2.2.2.2.1
  have hf2 := hs.1.2.2.2.2.2
  have hc40 := hy0.2.2.2.2
  have ho : oMany y (nI 7) = (0, yMany y 7, y) := by unfold oMany; rw [if_pos (by decide), iN_nI (by decide)]
  obtain ⟨H, hHe⟩ : ∃ z, z = s.heap := ⟨_, rfl⟩
  obtain ⟨locs, hLe⟩ : ∃ z : List Loc, z = [] := ⟨_, rfl⟩
  rw [← hHe, ← hLe]
  have hI : gI K A s G H locs := by rw [hHe, hLe]; exact hI
  clear hHe hLe
  refine lv_iload_n hx hb dX4_many_0 rfl (lv_at hl 1 rfl) ?_
  refine lv_tableIn (tgt := 104) (off := 103) hx hb dX4_many_1 (by decide +kernel) (by decide +kernel) (by decide +kernel) (by decide) ?_
  refine lv_aload_n hx hb dX4_many_104 rfl (lv_at hl 0 rfl) ?_
  refine g_get S hE hI (C := RX4) (T := TX4) (N := 3) (ref := "StonecutterYard") (fun w h => (List.mem_cons_of_mem _ (List.mem_append_left _ (List.mem_append_left _ (List.mem_append_left _ (List.mem_append_left _ (List.mem_append_right _ h))))))) hy9 rfl 0 (by decide) (List.mem_cons_of_mem _ (List.mem_append_left _ (List.mem_append_left _ (List.mem_append_left _ (List.mem_append_left _ (List.mem_append_left _ (List.mem_append_left _ (List.mem_of_getElem? (i := 2) rfl)))))))) (fun _ h9 => h9) (v := .ref (L1 0 0)) rfl dX4_many_105 ?_
  refine g_callV (As := []) (rest := []) (b := (L1 0 0)) (n := 0) S hE hI hA (c_X3_areaThere l K _ true 1 L1 y hs) gX4_many_X3_areaThere rfl (by decide +kernel) ⟨Nat.le_of_ble_eq_true rfl, Nat.le_of_ble_eq_true rfl⟩ (g_hro hE hI hs.1.1 rfl) rfl hl.1 rfl (Nat.le_of_ble_eq_true rfl) dX4_many_108 ⟨Nat.le_of_ble_eq_true rfl, Nat.le_of_ble_eq_true rfl⟩ (fun E ce q9 Gx H1 locs1 hx9 => hx9.elim) (fun rv Gc_108 H locs hp hI => ?_)
  obtain ⟨rfl, hq9⟩ := hp
  rw [hq9] at hI
  refine W.eq (g2 := F0 m 111 ls [.int (nI (yAreaT y))]) rfl ?_
  exact g_iret S hI hr hlocks (Nat.zero_le _) (Nat.zero_le _) dX4_many_111 (by rw [ho]; exact ⟨rfl, rfl, hy0, AgY.rf⟩)
