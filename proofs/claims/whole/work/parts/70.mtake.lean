/-! the reference takes a stone -/
theorem yCut_ge {y : YV} {i : Nat} {dn : Bool} {x : Nat} : ySc y ≤ ySc (yCut y i dn x) := by
  unfold yCut
  split
  · show ySc y ≤ ySc y + 2; omega
  · exact Nat.le_refl _
theorem yCut_F {y : YV} {i : Nat} {dn : Bool} {x : Nat} : yF (yCut y i dn x) = yF y := by unfold yCut; split <;> rfl
theorem kw_ge {k : KV} (h : kOK k) (mn : Nat) : 1 ≤ kw k mn := by
  obtain ⟨k1, k2, k3, k4, -⟩ := h
  show 1 ≤ if mn = 0 then kL k else kB k
  split <;> omega
theorem kh_ge {k : KV} (h : kOK k) (mn : Nat) : 1 ≤ kh k mn := by
  obtain ⟨k1, k2, k3, k4, -⟩ := h
  show 1 ≤ if mn = 0 then kB k else kL k
  split <;> omega
def frO (r N : Nat) (G G1 : gW) : Prop := (∀ v : gTag, v.1 ≠ r → v.1 ≠ 50 → G1 v = G v) ∧ ∀ m, m < N → G1 (50, 0, m) = G (50, 0, m)
theorem frO.rf {r N : Nat} {G : gW} : frO r N G G := ⟨fun _ _ _ => rfl, fun _ _ => rfl⟩
theorem frO.tr {r N N1 : Nat} {G G1 G2 : gW} (h : frO r N G G1) (h2 : frO r N1 G1 G2) (hN : N ≤ N1) : frO r N G G2 := ⟨fun v a b => (h2.1 v a b).trans (h.1 v a b), fun m hm => (h2.2 m (by omega)).trans (h.2 m hm)⟩
theorem frO.st {r N : Nat} {G G1 : gW} (h : frO r N G G1) (hr : r ≠ 50) (i j a : Nat) (e : va_E) : frO r N G (gset G1 (r, i, j) a e) := ⟨fun v a b => (gset_ne (fun z => a (by rw [z]))).trans (h.1 v a b), fun m hm => (gset_ne (fun z => hr (congrArg Prod.fst z).symm)).trans (h.2 m hm)⟩
def lOff (sc : Nat) (L L2 : Nat → Nat → Nat) : Prop := ∀ k j, (k ≠ 35 ∧ k ≠ 36) ∨ j < sc → L2 k j = L k j
theorem lOff.rf {sc : Nat} {L : Nat → Nat → Nat} : lOff sc L L := fun _ _ _ => rfl
theorem lOff.tr {sc sc1 : Nat} {L L1 L2 : Nat → Nat → Nat} (h : lOff sc L L1) (h2 : lOff sc1 L1 L2) (hs : sc ≤ sc1) : lOff sc L L2 := fun k j a => (h2 k j (a.elim Or.inl (fun b => Or.inr (Nat.lt_of_lt_of_le b hs)))).trans (h k j a)
set_option maxHeartbeats 4000000 in
set_option maxRecDepth 100000 in
/-- Yard.take(slab, kind) -/
theorem c_X7_take (l : Launch) (K : gK) (G : gW) (r : Nat) (L : Nat → Nat → Nat) (y : YV) (N : Nat) (i j mn d9 : Nat) (hm : MY K r L G y N) (hi : i < ySc y) (hj : j < yKc y) (hfit : sFits (yS y i) (yK y j) = some mn) (hsc : ySc y ≤ 40) (hr50 : r ≠ 50) (hd9 : ySc (yTake y i j mn) = ySc y + d9) : gM l yX7_take wsX7_take 9 201 (12 * d9) (135 * d9) K [.ref (L 30 0), .int (nI i), .int (nI j)] G (fun r9 G1 => ∃ L2 N2, r9 = some (.int (nI (sellP (yK y j)))) ∧ MY K r L2 G1 (yTake y i j mn) N2 ∧ N ≤ N2 ∧ lOff (ySc y) L L2 ∧ frO r N G G1) (gNo) := by
  refine gM.of (cc := cX7_take) (maxL := 8) (ret := (some .int)) (by decide) rfl (Nat.le_of_ble_eq_true rfl) ?_
  intro p e s m below meth c A S hr hlocks htab hname hE hA hI ls hl
  have hx := S.1
  have hb := S.2.1
  have hml := S.2.2.1
  have hl : lv_has ls 8 [(0, .ref (L 30 0)), (1, .int (nI i)), (2, .int (nI j))] := hl
  have h44 := hm.1.2.2.1
  have h6 := hm.1.2.2.2
  have hf2 := hm.1.2.1
  obtain ⟨m1, ar1, hl1⟩ := hm.2.1.obj
  obtain ⟨m2, ar2, hl2⟩ := hm.2.2.1.obj
  have hmn := sFits_lt hfit
  obtain ⟨hkd, hkok⟩ := hm.2.2.2.2 j hj
  obtain ⟨hsl, hfl, hsok⟩ := hm.2.2.2.1 i hi
  obtain ⟨k1, k2, k3, k4, k5, k6, k7, k8, k9⟩ := id hkok
  obtain ⟨s1, s2, s3, s4, s5, s6, s7, s8⟩ := id hsok
  have hkw9 := kw_le hkok mn
  have hkh9 := kh_le hkok mn
  have hkw1 := kw_ge hkok mn
  have hkh1 := kh_ge hkok mn
  have hT0 : ySc (yT1 y i mn (yK y j)) ≤ ySc (yTake y i j mn) := yCut_ge
  obtain ⟨H, hHe⟩ : ∃ z, z = s.heap := ⟨_, rfl⟩
  obtain ⟨locs, hLe⟩ : ∃ z : List Loc, z = [] := ⟨_, rfl⟩
  rw [← hHe, ← hLe]
  have hI : gI K A s G H locs := by rw [hHe, hLe]; exact hI
  clear hHe hLe
  have L120 : ∀ (L2 : Nat → Nat → Nat) (y2 : YV) (N2 i2 : Nat) (G2 : gW) (H : Heap) (locs : List Loc) (ls : Array Slot) (hy2 : y2 = yT2 y i mn (yK y j)) (hi2 : i2 = nT2 y i mn (yK y j)) (hii2 : i2 < ySc y2) (hj2 : j < yKc y2) (hk2 : yK y2 j = yK y j) (hm2 : MY K r L2 G2 y2 N2) (hN2 : N ≤ N2) (hL2 : lOff (ySc y) L L2) (ho2 : frO r N G G2), gI K A s G2 H locs → lv_has ls 8 [(0, .ref (L2 30 0)), (2, .int (nI j)), (3, .ref (L2 38 j)), (5, .int (nI i2))] → W p l e (gRoom 9 201 (12 * d9) (135 * d9)) s m ([.ref (L 30 0), .int (nI i), .int (nI j)] : List Value).toArray below meth c H locs (12 * d9) (135 * d9) (gEnd K below (fun r9 G1 => ∃ L2 N2, r9 = some (.int (nI (sellP (yK y j)))) ∧ MY K r L2 G1 (yTake y i j mn) N2 ∧ N ≤ N2 ∧ lOff (ySc y) L L2 ∧ frO r N G G1) (gNo) A ([.ref (L 30 0), .int (nI i), .int (nI j)] : List Value).toArray s (12 * d9) (135 * d9)) (F0 m 120 ls []) := by
    clear hI hl
    intro L2 y2 N2 i2 G2 H locs ls hy2 hi2 hii2 hj2 hk2 hm2 hN2 hL2 ho2 hI hl
    have h44 := hm2.1.2.2.1
    have h6 := hm2.1.2.2.2
    have hf2 := hm2.1.2.1
    obtain ⟨m1, ar1, hl1⟩ := hm2.2.1.obj
    obtain ⟨m2, ar2, hl2⟩ := hm2.2.2.1.obj
    obtain ⟨hkd2, -⟩ := hm2.2.2.2.2 j hj2
    rw [hk2] at hkd2
    obtain ⟨hsl2, hfl2, hsok2⟩ := hm2.2.2.2.1 i2 hii2
    refine lv_aload_n hx hb dX7_take_120 rfl (lv_at hl 0 rfl) ?_
    refine g_get S hE hI (C := RX7) (T := TX7) (N := 3) (ref := "StonecutterYardModel$Yard") (fun w h => (List.mem_cons_of_mem _ (List.mem_append_left _ (List.mem_append_left _ (List.mem_append_left _ (List.mem_append_right _ h)))))) hm2.1.1 rfl 0 (by decide) (List.mem_cons_of_mem _ (List.mem_append_left _ (List.mem_append_left _ (List.mem_append_left _ (List.mem_append_left _ (List.mem_append_left _ (List.mem_of_getElem? (i := 2) rfl))))))) (fun _ h9 => h9) (v := .ref (L2 31 0)) rfl dX7_take_121 ?_
    refine lv_iload hx hb dX7_take_124 (lv_at hl 3 rfl) ?_
    refine g_callV (As := [.int (nI i2)]) (rest := []) (b := (L2 31 0)) (n := 1) S hE hI hA (l_get l K _ (r, 31, 0) (tbL r 32) (L2 31 0) (ySc y2) (L2 35) i2 hm2.2.1 hii2) gX7_take_Jx4a65c_get_915e3 rfl (by decide +kernel) ⟨Nat.le_of_ble_eq_true rfl, Nat.le_of_ble_eq_true rfl⟩ (g_hro hE hI hl1 rfl) rfl hl.1 rfl (Nat.le_of_ble_eq_true rfl) dX7_take_126 ⟨by show _ ≤ 12 * d9; omega, by show _ ≤ 135 * d9; omega⟩ (fun E ce q9 Gx H1 locs1 hx9 => hx9.elim) (fun rv Gc_126 H locs hp hI => ?_)
    obtain ⟨rfl, hq9⟩ := hp
    rw [hq9] at hI
    refine W.eq (g2 := F0 m 129 ls [.ref (L2 35 i2)]) rfl ?_
    refine g_cast S (List.mem_cons_of_mem _ (List.mem_append_left _ (List.mem_append_left _ (List.mem_append_left _ (List.mem_append_left _ (List.mem_append_left _ (List.mem_of_getElem? (i := 3) rfl))))))) (g_hro hE hI hsl2 rfl) dX7_take_129 ?_
    refine lv_iconst (v := nI 2) hx hb dX7_take_132 (by decide) ?_
    refine g_put S hE hI (C := RX6) (T := TX6) (N := 6) (ref := "StonecutterYardModel$Slab") (fun w h => (List.mem_cons_of_mem _ (List.mem_append_left _ (List.mem_append_left _ (List.mem_append_right _ h))))) tyX6 tyX6_ok nmX6 hsl2 rfl 5 (by decide) (List.mem_cons_of_mem _ (List.mem_append_left _ (List.mem_append_left _ (List.mem_append_left _ (List.mem_append_left _ (List.mem_append_left _ (List.mem_of_getElem? (i := 7) rfl))))))) (fun _ h9 => h9) rfl rfl rfl (Nat.le_of_ble_eq_true rfl) dX7_take_133 (fun H locs hI => ?_)
    have hI : gI K A s (gset G2 (r, 35, i2) (L2 35 i2) (.inr (7, [.int (nI (sW (yS y2 i2))), .int (nI (sH (yS y2 i2))), .int (nI (sG (yS y2 i2))), .int (sF (yS y2 i2)), .ref (L2 36 i2), .int (nI 2)]))) H locs := hI
    obtain ⟨G_1, hG_1⟩ : ∃ z, z = gset G2 (r, 35, i2) (L2 35 i2) (.inr (7, [.int (nI (sW (yS y2 i2))), .int (nI (sH (yS y2 i2))), .int (nI (sG (yS y2 i2))), .int (sF (yS y2 i2)), .ref (L2 36 i2), .int (nI 2)])) := ⟨_, rfl⟩
    rw [← hG_1] at hI
    have yd_G_1 : G_1 (r, 30, 0) = some ((L2 30 0), .inr (8, [.ref (L2 31 0), .ref (L2 33 0), .int (nI (yF y2))])) := by rw [hG_1, gset_ne (by simp)]; exact hm2.1.1
    have ls_G_1 : G_1 (r, 31, 0) = some ((L2 31 0), .inr (0, [.int m1, .ref ar1, .int (nI (ySc y2))])) := by rw [hG_1, gset_ne (by simp)]; exact hl1
    have lk_G_1 : G_1 (r, 33, 0) = some ((L2 33 0), .inr (0, [.int m2, .ref ar2, .int (nI (yKc y2))])) := by rw [hG_1, gset_ne (by simp)]; exact hl2
    have k_G_1 : G_1 (r, 38, j) = some ((L2 38 j), .inr (6, [.int (nI (kL (yK y j))), .int (nI (kB (yK y j))), .int (nI (kW (yK y j))), .int (nI (kF (yK y j))), .int (nI (kP (yK y j))), .int (nI (kN (yK y j))), .int (nI (kT (yK y j))), .int (nI (kD (yK y j)))])) := by rw [hG_1, gset_ne (by simp)]; exact hkd2
    have u_G_1 : G_1 (r, 35, i2) = some ((L2 35 i2), .inr (7, [.int (nI (sW (yS y2 i2))), .int (nI (sH (yS y2 i2))), .int (nI (sG (yS y2 i2))), .int (sF (yS y2 i2)), .ref (L2 36 i2), .int (nI 2)])) := by rw [hG_1]; exact gset_eq _ _ _ _
    have hm3 : MY K r L2 G_1 (ySetS y2 i2 (sState (yS y2 i2) 2)) N2 := by rw [hG_1]; exact hm2.setT (t := 2) hr50 hii2 (by decide)
    have ho3 : frO r N G G_1 := by rw [hG_1]; exact ho2.st hr50 _ _ _ _
    refine lv_aload_n hx hb dX7_take_136 rfl (lv_at hl 2 rfl) ?_
    have L156 : ∀ (H : Heap) (locs : List Loc) (ls : Array Slot), gI K A s G_1 H locs → lv_has ls 8 [(0, .ref (L2 30 0)), (2, .int (nI j)), (3, .ref (L2 38 j))] → W p l e (gRoom 9 201 (12 * d9) (135 * d9)) s m ([.ref (L 30 0), .int (nI i), .int (nI j)] : List Value).toArray below meth c H locs (12 * d9 + 0) (135 * d9 + 0) (gEnd K below (fun r9 G1 => ∃ L2 N2, r9 = some (.int (nI (sellP (yK y j)))) ∧ MY K r L2 G1 (yTake y i j mn) N2 ∧ N ≤ N2 ∧ lOff (ySc y) L L2 ∧ frO r N G G1) (gNo) A ([.ref (L 30 0), .int (nI i), .int (nI j)] : List Value).toArray s (12 * d9) (135 * d9)) (F0 m 156 ls [.int (nI (sellP (yK y j)))]) := by
      clear hI hl
      intro H locs ls hI hl
      refine lv_istore (lv' := [(6, .int (nI (sellP (yK y j)))), (0, .ref (L2 30 0)), (2, .int (nI j)), (3, .ref (L2 38 j))]) hx hb dX7_take_156 hl (by decide) rfl (fun ls hl => ?_)
      refine lv_aload_n hx hb dX7_take_158 rfl (lv_at hl 3 rfl) ?_
      refine lv_iconst (v := nI 0) hx hb dX7_take_159 (by decide) ?_
      refine lv_aload_n hx hb dX7_take_160 rfl (lv_at hl 3 rfl) ?_
      refine g_get S hE hI (C := RX5) (T := TX5) (N := 8) (ref := "StonecutterYardModel$Kind") (fun w h => (List.mem_cons_of_mem _ (List.mem_append_left _ (List.mem_append_right _ h)))) k_G_1 rfl 5 (by decide) (List.mem_cons_of_mem _ (List.mem_append_left _ (List.mem_append_left _ (List.mem_append_left _ (List.mem_append_left _ (List.mem_append_left _ (List.mem_of_getElem? (i := 8) rfl))))))) (fun _ h9 => h9) (v := .int (nI (kN (yK y j)))) rfl dX7_take_161 ?_
      refine lv_iconst (v := nI 1) hx hb dX7_take_164 (by decide) ?_
      refine lv_isub hx hb dX7_take_165 ?_
      refine g_mmax S hl.1 (S.2.2.2.2 _ (List.mem_cons_of_mem _ (List.mem_append_left _ (List.mem_append_left _ (List.mem_append_left _ (List.mem_append_left _ (List.mem_append_left _ (List.mem_of_getElem? (i := 10) rfl)))))))) (S.2.2.2.2 _ (List.mem_cons_of_mem _ (List.mem_append_left _ (List.mem_append_left _ (List.mem_append_left _ (List.mem_append_left _ (List.mem_append_left _ (List.mem_of_getElem? (i := 11) rfl)))))))) (S.2.2.2.2 _ (List.mem_cons_of_mem _ (List.mem_append_left _ (List.mem_append_left _ (List.mem_append_left _ (List.mem_append_left _ (List.mem_append_left _ (List.mem_of_getElem? (i := 12) rfl)))))))) (S.2.2.2.2 _ (List.mem_cons_of_mem _ (List.mem_append_left _ (List.mem_append_left _ (List.mem_append_left _ (List.mem_append_left _ (List.mem_append_left _ (List.mem_of_getElem? (i := 13) rfl)))))))) (Nat.le_of_ble_eq_true rfl) (Nat.le_of_ble_eq_true rfl) (by show _ ≤ 12 * d9; omega) (by show _ ≤ 135 * d9; omega) dX7_take_166 (v := nI (kN (yK y j) - 1)) (max_dec (by omega)) ?_
      refine g_put S hE hI (C := RX5) (T := TX5) (N := 8) (ref := "StonecutterYardModel$Kind") (fun w h => (List.mem_cons_of_mem _ (List.mem_append_left _ (List.mem_append_right _ h)))) tyX5 tyX5_ok nmX5 k_G_1 rfl 5 (by decide) (List.mem_cons_of_mem _ (List.mem_append_left _ (List.mem_append_left _ (List.mem_append_left _ (List.mem_append_left _ (List.mem_append_left _ (List.mem_of_getElem? (i := 8) rfl))))))) (fun _ h9 => h9) rfl rfl rfl (Nat.le_of_ble_eq_true rfl) dX7_take_169 (fun H locs hI => ?_)
      have hI : gI K A s (gset G_1 (r, 38, j) (L2 38 j) (.inr (6, [.int (nI (kL (yK y j))), .int (nI (kB (yK y j))), .int (nI (kW (yK y j))), .int (nI (kF (yK y j))), .int (nI (kP (yK y j))), .int (nI (kN (yK y j) - 1)), .int (nI (kT (yK y j))), .int (nI (kD (yK y j)))]))) H locs := hI
      obtain ⟨G_2, hG_2⟩ : ∃ z, z = gset G_1 (r, 38, j) (L2 38 j) (.inr (6, [.int (nI (kL (yK y j))), .int (nI (kB (yK y j))), .int (nI (kW (yK y j))), .int (nI (kF (yK y j))), .int (nI (kP (yK y j))), .int (nI (kN (yK y j) - 1)), .int (nI (kT (yK y j))), .int (nI (kD (yK y j)))])) := ⟨_, rfl⟩
      rw [← hG_2] at hI
      have yd_G_2 : G_2 (r, 30, 0) = some ((L2 30 0), .inr (8, [.ref (L2 31 0), .ref (L2 33 0), .int (nI (yF y2))])) := by rw [hG_2, gset_ne (by simp)]; exact yd_G_1
      have ls_G_2 : G_2 (r, 31, 0) = some ((L2 31 0), .inr (0, [.int m1, .ref ar1, .int (nI (ySc y2))])) := by rw [hG_2, gset_ne (by simp)]; exact ls_G_1
      have lk_G_2 : G_2 (r, 33, 0) = some ((L2 33 0), .inr (0, [.int m2, .ref ar2, .int (nI (yKc y2))])) := by rw [hG_2, gset_ne (by simp)]; exact lk_G_1
      have u_G_2 : G_2 (r, 35, i2) = some ((L2 35 i2), .inr (7, [.int (nI (sW (yS y2 i2))), .int (nI (sH (yS y2 i2))), .int (nI (sG (yS y2 i2))), .int (sF (yS y2 i2)), .ref (L2 36 i2), .int (nI 2)])) := by rw [hG_2, gset_ne (by simp)]; exact u_G_1
      have k_G_2 : G_2 (r, 38, j) = some ((L2 38 j), .inr (6, [.int (nI (kL (yK y j))), .int (nI (kB (yK y j))), .int (nI (kW (yK y j))), .int (nI (kF (yK y j))), .int (nI (kP (yK y j))), .int (nI (kN (yK y j) - 1)), .int (nI (kT (yK y j))), .int (nI (kD (yK y j)))])) := by rw [hG_2]; exact gset_eq _ _ _ _
      refine lv_aload_n hx hb dX7_take_172 rfl (lv_at hl 3 rfl) ?_
      refine lv_dup hx hb dX7_take_173 rfl ?_
      refine g_get S hE hI (C := RX5) (T := TX5) (N := 8) (ref := "StonecutterYardModel$Kind") (fun w h => (List.mem_cons_of_mem _ (List.mem_append_left _ (List.mem_append_right _ h)))) k_G_2 rfl 6 (by decide) (List.mem_cons_of_mem _ (List.mem_append_left _ (List.mem_append_left _ (List.mem_append_left _ (List.mem_append_left _ (List.mem_append_left _ (List.mem_of_getElem? (i := 14) rfl))))))) (fun _ h9 => h9) (v := .int (nI (kT (yK y j)))) rfl dX7_take_174 ?_
      refine lv_iconst (v := nI 1) hx hb dX7_take_177 (by decide) ?_
      refine t_iadd hx hb dX7_take_178 (nI_add _ _) ?_
      refine g_put S hE hI (C := RX5) (T := TX5) (N := 8) (ref := "StonecutterYardModel$Kind") (fun w h => (List.mem_cons_of_mem _ (List.mem_append_left _ (List.mem_append_right _ h)))) tyX5 tyX5_ok nmX5 k_G_2 rfl 6 (by decide) (List.mem_cons_of_mem _ (List.mem_append_left _ (List.mem_append_left _ (List.mem_append_left _ (List.mem_append_left _ (List.mem_append_left _ (List.mem_of_getElem? (i := 14) rfl))))))) (fun _ h9 => h9) rfl rfl rfl (Nat.le_of_ble_eq_true rfl) dX7_take_179 (fun H locs hI => ?_)
      have hI : gI K A s (gset G_2 (r, 38, j) (L2 38 j) (.inr (6, [.int (nI (kL (yK y j))), .int (nI (kB (yK y j))), .int (nI (kW (yK y j))), .int (nI (kF (yK y j))), .int (nI (kP (yK y j))), .int (nI (kN (yK y j) - 1)), .int (nI ((kT (yK y j)) + 1)), .int (nI (kD (yK y j)))]))) H locs := hI
      obtain ⟨G_3, hG_3⟩ : ∃ z, z = gset G_2 (r, 38, j) (L2 38 j) (.inr (6, [.int (nI (kL (yK y j))), .int (nI (kB (yK y j))), .int (nI (kW (yK y j))), .int (nI (kF (yK y j))), .int (nI (kP (yK y j))), .int (nI (kN (yK y j) - 1)), .int (nI ((kT (yK y j)) + 1)), .int (nI (kD (yK y j)))])) := ⟨_, rfl⟩
      rw [← hG_3] at hI
      have yd_G_3 : G_3 (r, 30, 0) = some ((L2 30 0), .inr (8, [.ref (L2 31 0), .ref (L2 33 0), .int (nI (yF y2))])) := by rw [hG_3, gset_ne (by simp)]; exact yd_G_2
      have ls_G_3 : G_3 (r, 31, 0) = some ((L2 31 0), .inr (0, [.int m1, .ref ar1, .int (nI (ySc y2))])) := by rw [hG_3, gset_ne (by simp)]; exact ls_G_2
      have lk_G_3 : G_3 (r, 33, 0) = some ((L2 33 0), .inr (0, [.int m2, .ref ar2, .int (nI (yKc y2))])) := by rw [hG_3, gset_ne (by simp)]; exact lk_G_2
      have u_G_3 : G_3 (r, 35, i2) = some ((L2 35 i2), .inr (7, [.int (nI (sW (yS y2 i2))), .int (nI (sH (yS y2 i2))), .int (nI (sG (yS y2 i2))), .int (sF (yS y2 i2)), .ref (L2 36 i2), .int (nI 2)])) := by rw [hG_3, gset_ne (by simp)]; exact u_G_2
      have k_G_3 : G_3 (r, 38, j) = some ((L2 38 j), .inr (6, [.int (nI (kL (yK y j))), .int (nI (kB (yK y j))), .int (nI (kW (yK y j))), .int (nI (kF (yK y j))), .int (nI (kP (yK y j))), .int (nI (kN (yK y j) - 1)), .int (nI ((kT (yK y j)) + 1)), .int (nI (kD (yK y j)))])) := by rw [hG_3]; exact gset_eq _ _ _ _
      refine lv_aload_n hx hb dX7_take_182 rfl (lv_at hl 3 rfl) ?_
      refine lv_dup hx hb dX7_take_183 rfl ?_
      refine g_get S hE hI (C := RX5) (T := TX5) (N := 8) (ref := "StonecutterYardModel$Kind") (fun w h => (List.mem_cons_of_mem _ (List.mem_append_left _ (List.mem_append_right _ h)))) k_G_3 rfl 7 (by decide) (List.mem_cons_of_mem _ (List.mem_append_left _ (List.mem_append_left _ (List.mem_append_left _ (List.mem_append_left _ (List.mem_append_left _ (List.mem_of_getElem? (i := 15) rfl))))))) (fun _ h9 => h9) (v := .int (nI (kD (yK y j)))) rfl dX7_take_184 ?_
      refine lv_iload hx hb dX7_take_187 (lv_at hl 0 rfl) ?_
      refine t_iadd hx hb dX7_take_189 (nI_add _ _) ?_
      refine g_put S hE hI (C := RX5) (T := TX5) (N := 8) (ref := "StonecutterYardModel$Kind") (fun w h => (List.mem_cons_of_mem _ (List.mem_append_left _ (List.mem_append_right _ h)))) tyX5 tyX5_ok nmX5 k_G_3 rfl 7 (by decide) (List.mem_cons_of_mem _ (List.mem_append_left _ (List.mem_append_left _ (List.mem_append_left _ (List.mem_append_left _ (List.mem_append_left _ (List.mem_of_getElem? (i := 15) rfl))))))) (fun _ h9 => h9) rfl rfl rfl (Nat.le_of_ble_eq_true rfl) dX7_take_190 (fun H locs hI => ?_)
      have hI : gI K A s (gset G_3 (r, 38, j) (L2 38 j) (.inr (6, [.int (nI (kL (yK y j))), .int (nI (kB (yK y j))), .int (nI (kW (yK y j))), .int (nI (kF (yK y j))), .int (nI (kP (yK y j))), .int (nI (kN (yK y j) - 1)), .int (nI ((kT (yK y j)) + 1)), .int (nI ((kD (yK y j)) + (sellP (yK y j))))]))) H locs := hI
      obtain ⟨G_4, hG_4⟩ : ∃ z, z = gset G_3 (r, 38, j) (L2 38 j) (.inr (6, [.int (nI (kL (yK y j))), .int (nI (kB (yK y j))), .int (nI (kW (yK y j))), .int (nI (kF (yK y j))), .int (nI (kP (yK y j))), .int (nI (kN (yK y j) - 1)), .int (nI ((kT (yK y j)) + 1)), .int (nI ((kD (yK y j)) + (sellP (yK y j))))])) := ⟨_, rfl⟩
      rw [← hG_4] at hI
      have yd_G_4 : G_4 (r, 30, 0) = some ((L2 30 0), .inr (8, [.ref (L2 31 0), .ref (L2 33 0), .int (nI (yF y2))])) := by rw [hG_4, gset_ne (by simp)]; exact yd_G_3
      have ls_G_4 : G_4 (r, 31, 0) = some ((L2 31 0), .inr (0, [.int m1, .ref ar1, .int (nI (ySc y2))])) := by rw [hG_4, gset_ne (by simp)]; exact ls_G_3
      have lk_G_4 : G_4 (r, 33, 0) = some ((L2 33 0), .inr (0, [.int m2, .ref ar2, .int (nI (yKc y2))])) := by rw [hG_4, gset_ne (by simp)]; exact lk_G_3
      have u_G_4 : G_4 (r, 35, i2) = some ((L2 35 i2), .inr (7, [.int (nI (sW (yS y2 i2))), .int (nI (sH (yS y2 i2))), .int (nI (sG (yS y2 i2))), .int (sF (yS y2 i2)), .ref (L2 36 i2), .int (nI 2)])) := by rw [hG_4, gset_ne (by simp)]; exact u_G_3
      have k_G_4 : G_4 (r, 38, j) = some ((L2 38 j), .inr (6, [.int (nI (kL (yK y j))), .int (nI (kB (yK y j))), .int (nI (kW (yK y j))), .int (nI (kF (yK y j))), .int (nI (kP (yK y j))), .int (nI (kN (yK y j) - 1)), .int (nI ((kT (yK y j)) + 1)), .int (nI ((kD (yK y j)) + (sellP (yK y j))))])) := by rw [hG_4]; exact gset_eq _ _ _ _
      refine lv_aload_n hx hb dX7_take_193 rfl (lv_at hl 3 rfl) ?_
      refine lv_iconst (v := nI 1) hx hb dX7_take_194 (by decide) ?_
      refine lv_aload_n hx hb dX7_take_195 rfl (lv_at hl 3 rfl) ?_
      refine g_get S hE hI (C := RX5) (T := TX5) (N := 8) (ref := "StonecutterYardModel$Kind") (fun w h => (List.mem_cons_of_mem _ (List.mem_append_left _ (List.mem_append_right _ h)))) k_G_4 rfl 4 (by decide) (List.mem_cons_of_mem _ (List.mem_append_left _ (List.mem_append_left _ (List.mem_append_left _ (List.mem_append_left _ (List.mem_append_left _ (List.mem_of_getElem? (i := 9) rfl))))))) (fun _ h9 => h9) (v := .int (nI (kP (yK y j)))) rfl dX7_take_196 ?_
      refine lv_bipush (v := nI 9) hx hb dX7_take_199 (by decide) ?_
      refine t_imul hx hb dX7_take_201 (pk_mul _ _) ?_
      refine lv_bipush (v := nI 10) hx hb dX7_take_202 (by decide) ?_
      refine g_idiv hx hb dX7_take_204 (by decide) (v := nI (kP (yK y j) * 9 / 10)) (pk_div (by omega) (by decide) (by decide)) ?_
      refine g_mmax S hl.1 (S.2.2.2.2 _ (List.mem_cons_of_mem _ (List.mem_append_left _ (List.mem_append_left _ (List.mem_append_left _ (List.mem_append_left _ (List.mem_append_left _ (List.mem_of_getElem? (i := 10) rfl)))))))) (S.2.2.2.2 _ (List.mem_cons_of_mem _ (List.mem_append_left _ (List.mem_append_left _ (List.mem_append_left _ (List.mem_append_left _ (List.mem_append_left _ (List.mem_of_getElem? (i := 11) rfl)))))))) (S.2.2.2.2 _ (List.mem_cons_of_mem _ (List.mem_append_left _ (List.mem_append_left _ (List.mem_append_left _ (List.mem_append_left _ (List.mem_append_left _ (List.mem_of_getElem? (i := 12) rfl)))))))) (S.2.2.2.2 _ (List.mem_cons_of_mem _ (List.mem_append_left _ (List.mem_append_left _ (List.mem_append_left _ (List.mem_append_left _ (List.mem_append_left _ (List.mem_of_getElem? (i := 13) rfl)))))))) (Nat.le_of_ble_eq_true rfl) (Nat.le_of_ble_eq_true rfl) (by show _ ≤ 12 * d9; omega) (by show _ ≤ 135 * d9; omega) dX7_take_205 (v := nI (max 1 (kP (yK y j) * 9 / 10))) (max_nI (by decide) (by omega)) ?_
      refine g_put S hE hI (C := RX5) (T := TX5) (N := 8) (ref := "StonecutterYardModel$Kind") (fun w h => (List.mem_cons_of_mem _ (List.mem_append_left _ (List.mem_append_right _ h)))) tyX5 tyX5_ok nmX5 k_G_4 rfl 4 (by decide) (List.mem_cons_of_mem _ (List.mem_append_left _ (List.mem_append_left _ (List.mem_append_left _ (List.mem_append_left _ (List.mem_append_left _ (List.mem_of_getElem? (i := 9) rfl))))))) (fun _ h9 => h9) rfl rfl rfl (Nat.le_of_ble_eq_true rfl) dX7_take_208 (fun H locs hI => ?_)
      have hI : gI K A s (gset G_4 (r, 38, j) (L2 38 j) (.inr (6, [.int (nI (kL (yK y j))), .int (nI (kB (yK y j))), .int (nI (kW (yK y j))), .int (nI (kF (yK y j))), .int (nI (max 1 (kP (yK y j) * 9 / 10))), .int (nI (kN (yK y j) - 1)), .int (nI ((kT (yK y j)) + 1)), .int (nI ((kD (yK y j)) + (sellP (yK y j))))]))) H locs := hI
      obtain ⟨G_5, hG_5⟩ : ∃ z, z = gset G_4 (r, 38, j) (L2 38 j) (.inr (6, [.int (nI (kL (yK y j))), .int (nI (kB (yK y j))), .int (nI (kW (yK y j))), .int (nI (kF (yK y j))), .int (nI (max 1 (kP (yK y j) * 9 / 10))), .int (nI (kN (yK y j) - 1)), .int (nI ((kT (yK y j)) + 1)), .int (nI ((kD (yK y j)) + (sellP (yK y j))))])) := ⟨_, rfl⟩
      rw [← hG_5] at hI
      have yd_G_5 : G_5 (r, 30, 0) = some ((L2 30 0), .inr (8, [.ref (L2 31 0), .ref (L2 33 0), .int (nI (yF y2))])) := by rw [hG_5, gset_ne (by simp)]; exact yd_G_4
      have ls_G_5 : G_5 (r, 31, 0) = some ((L2 31 0), .inr (0, [.int m1, .ref ar1, .int (nI (ySc y2))])) := by rw [hG_5, gset_ne (by simp)]; exact ls_G_4
      have lk_G_5 : G_5 (r, 33, 0) = some ((L2 33 0), .inr (0, [.int m2, .ref ar2, .int (nI (yKc y2))])) := by rw [hG_5, gset_ne (by simp)]; exact lk_G_4
      have u_G_5 : G_5 (r, 35, i2) = some ((L2 35 i2), .inr (7, [.int (nI (sW (yS y2 i2))), .int (nI (sH (yS y2 i2))), .int (nI (sG (yS y2 i2))), .int (sF (yS y2 i2)), .ref (L2 36 i2), .int (nI 2)])) := by rw [hG_5, gset_ne (by simp)]; exact u_G_4
      have k_G_5 : G_5 (r, 38, j) = some ((L2 38 j), .inr (6, [.int (nI (kL (yK y j))), .int (nI (kB (yK y j))), .int (nI (kW (yK y j))), .int (nI (kF (yK y j))), .int (nI (max 1 (kP (yK y j) * 9 / 10))), .int (nI (kN (yK y j) - 1)), .int (nI ((kT (yK y j)) + 1)), .int (nI ((kD (yK y j)) + (sellP (yK y j))))])) := by rw [hG_5]; exact gset_eq _ _ _ _
      obtain ⟨ya, hya⟩ : ∃ z, z = (ySetK (ySetS y2 i2 (sState (yS y2 i2) 2)) j (sellK (yK y j))) := ⟨_, rfl⟩
      have hgw : G_5 = gset G_1 (r, 38, j) (L2 38 j) (cMK (sellK (yK y j))) := by rw [hG_5, hG_4, hG_3, hG_2, gset_gset, gset_gset, gset_gset]
      have hm4 : MY K r L2 G_5 ya N2 := by rw [hya, hgw]; exact hm3.setK hr50 (sellK_ok hkok)
      have ho4 : frO r N G G_5 := by rw [hgw]; exact ho3.st hr50 _ _ _ _
      have hyc : yKc ya = yKc y2 := by rw [hya]
      refine lv_iconst (v := nI 0) hx hb dX7_take_211 (by decide) ?_
      refine lv_istore (lv' := [(7, .int (nI 0)), (6, .int (nI (sellP (yK y j)))), (0, .ref (L2 30 0)), (2, .int (nI j)), (3, .ref (L2 38 j))]) hx hb dX7_take_212 hl (by decide) rfl (fun ls hl => ?_)
      have L214 : ∀ (n : Nat) (q : Nat) (G3 : gW) (H : Heap) (locs : List Loc) (ls : Array Slot) (hn : yKc ya - q < n) (hq : q ≤ yKc ya) (hm5 : MY K r L2 G3 (yRz ya j q) N2) (ho5 : frO r N G G3), gI K A s G3 H locs → lv_has ls 8 [(0, .ref (L2 30 0)), (2, .int (nI j)), (6, .int (nI (sellP (yK y j)))), (7, .int (nI q))] → W p l e (gRoom 9 201 (12 * d9) (135 * d9)) s m ([.ref (L 30 0), .int (nI i), .int (nI j)] : List Value).toArray below meth c H locs (12 * d9) (135 * d9) (gEnd K below (fun r9 G1 => ∃ L2 N2, r9 = some (.int (nI (sellP (yK y j)))) ∧ MY K r L2 G1 (yTake y i j mn) N2 ∧ N ≤ N2 ∧ lOff (ySc y) L L2 ∧ frO r N G G1) (gNo) A ([.ref (L 30 0), .int (nI i), .int (nI j)] : List Value).toArray s (12 * d9) (135 * d9)) (F0 m 214 ls []) := by
        clear hI hl
        intro n
        induction n with
        | zero =>
          intro q G3 H locs ls hn hq hm5 ho5 hI hl
          exact absurd hn (Nat.not_lt_zero _)
        | succ n ih =>
          intro q G3 H locs ls hn hq hm5 ho5 hI hl
          have h6 : yKc ya ≤ 6 := hm5.1.2.2.2
          obtain ⟨m5, ar5, hl5⟩ : ∃ m5 ar5, G3 (r, 33, 0) = some (L2 33 0, cL m5 ar5 (yKc ya)) := hm5.2.2.1.obj
          refine lv_iload hx hb dX7_take_214 (lv_at hl 3 rfl) ?_
          refine lv_aload_n hx hb dX7_take_216 rfl (lv_at hl 0 rfl) ?_
          refine g_get S hE hI (C := RX7) (T := TX7) (N := 3) (ref := "StonecutterYardModel$Yard") (fun w h => (List.mem_cons_of_mem _ (List.mem_append_left _ (List.mem_append_left _ (List.mem_append_left _ (List.mem_append_right _ h)))))) hm5.1.1 rfl 1 (by decide) (List.mem_cons_of_mem _ (List.mem_append_left _ (List.mem_append_left _ (List.mem_append_left _ (List.mem_append_left _ (List.mem_append_left _ (List.mem_of_getElem? (i := 0) rfl))))))) (fun _ h9 => h9) (v := .ref (L2 33 0)) rfl dX7_take_217 ?_
          refine g_callV (As := []) (rest := [.int (nI q)]) (b := (L2 33 0)) (n := 0) S hE hI hA (l_size l K _ (r, 33, 0) (tbL r 34) (L2 33 0) (yKc ya) (L2 38) hm5.2.2.1) gX7_take_Jx4a65c_size_8abf5 rfl (by decide +kernel) ⟨Nat.le_of_ble_eq_true rfl, Nat.le_of_ble_eq_true rfl⟩ (g_hro hE hI hl5 rfl) rfl hl.1 rfl (Nat.le_of_ble_eq_true rfl) dX7_take_220 ⟨by show _ ≤ 12 * d9; omega, by show _ ≤ 135 * d9; omega⟩ (fun E ce q9 Gx H1 locs1 hx9 => hx9.elim) (fun rv Gc_220 H locs hp hI => ?_)
          obtain ⟨rfl, hq9⟩ := hp
          rw [hq9] at hI
          refine W.eq (g2 := F0 m 223 ls [.int (nI (yKc ya)), .int (nI q)]) rfl ?_
          refine lv_icmp_ge (tgt := 294) hx hb dX7_take_223 (by decide) (fun c_223 => ?_) (fun c_223 => ?_)
          · skip
            have c_223 : (yKc ya) ≤ q := (nI_leI (a := (yKc ya)) (b := q) (by omega) (by omega)).mp c_223
            have hfin : MY K r L2 G3 (yTake y i j mn) N2 := by
              have h9 : yTake y i j mn = yRaise ya j := by rw [hya, hy2, hi2]; rfl
              rw [h9]
              exact hm5.cg rfl rfl rfl (fun _ _ => rfl) (fun m hm => by have hm : m < yKc ya := hm; show (if _ then _ else _) = (if _ then _ else _); simp only [show m < q from by omega, true_and])
            refine lv_iload hx hb dX7_take_294 (lv_at hl 2 rfl) ?_
            exact g_iret S hI hr hlocks (by omega) (by omega) dX7_take_296 ⟨L2, N2, rfl, hfin, hN2, hL2, ho5⟩
          · skip
            have c_223 : q < (yKc ya) := Nat.not_le.mp (fun z => c_223 ((nI_leI (a := (yKc ya)) (b := q) (by omega) (by omega)).mpr z))
            refine lv_iload hx hb dX7_take_226 (lv_at hl 3 rfl) ?_
            refine lv_iload_n hx hb dX7_take_228 rfl (lv_at hl 1 rfl) ?_
            refine lv_icmp_eq (tgt := 288) hx hb dX7_take_229 (by decide) (fun c_229 => ?_) (fun c_229 => ?_)
            · skip
              have c_229 : q = j := (nI_eq (a := q) (b := j) (by omega) (by omega)).mp c_229
              have hno : ¬ (q ≠ j ∧ 0 < kN (yK ya q)) := fun z9 => z9.1 c_229
              refine lv_iinc (v := nI (q + 1)) (lv' := [(7, .int (nI (q + 1))), (0, .ref (L2 30 0)), (2, .int (nI j)), (6, .int (nI (sellP (yK y j))))]) hx hb dX7_take_288 hl (k := 3) rfl (nI_add _ 1) (by decide) rfl (fun ls hl => ?_)
              refine lv_goto (tgt := 214) hx hb dX7_take_291 (by decide) ?_
              exact W.widen (by omega) (by omega) (ih (q + 1) G3 H locs ls (by omega) (by omega) (hm5.cg rfl rfl rfl (fun _ _ => rfl) (fun m _ => yRz_no hno m)) ho5 hI (lv_sub hl [1,2,3,0] rfl))
            · skip
              have c_229 : q ≠ j := fun z => c_229 ((nI_eq (a := q) (b := j) (by omega) (by omega)).mpr z)
              refine lv_aload_n hx hb dX7_take_232 rfl (lv_at hl 0 rfl) ?_
              refine g_get S hE hI (C := RX7) (T := TX7) (N := 3) (ref := "StonecutterYardModel$Yard") (fun w h => (List.mem_cons_of_mem _ (List.mem_append_left _ (List.mem_append_left _ (List.mem_append_left _ (List.mem_append_right _ h)))))) hm5.1.1 rfl 1 (by decide) (List.mem_cons_of_mem _ (List.mem_append_left _ (List.mem_append_left _ (List.mem_append_left _ (List.mem_append_left _ (List.mem_append_left _ (List.mem_of_getElem? (i := 0) rfl))))))) (fun _ h9 => h9) (v := .ref (L2 33 0)) rfl dX7_take_233 ?_
              refine lv_iload hx hb dX7_take_236 (lv_at hl 3 rfl) ?_
              refine g_callV (As := [.int (nI q)]) (rest := []) (b := (L2 33 0)) (n := 1) S hE hI hA (l_get l K _ (r, 33, 0) (tbL r 34) (L2 33 0) (yKc ya) (L2 38) q hm5.2.2.1 c_223) gX7_take_Jx4a65c_get_915e3 rfl (by decide +kernel) ⟨Nat.le_of_ble_eq_true rfl, Nat.le_of_ble_eq_true rfl⟩ (g_hro hE hI hl5 rfl) rfl hl.1 rfl (Nat.le_of_ble_eq_true rfl) dX7_take_238 ⟨by show _ ≤ 12 * d9; omega, by show _ ≤ 135 * d9; omega⟩ (fun E ce q9 Gx H1 locs1 hx9 => hx9.elim) (fun rv Gc_238 H locs hp hI => ?_)
              obtain ⟨rfl, hq9⟩ := hp
              rw [hq9] at hI
              obtain ⟨hkq, hkqo⟩ := hm5.2.2.2.2 q c_223
              rw [yRz_at] at hkq hkqo
              obtain ⟨u1, u2, u3, u4, u5, u6, u7, u8, u9⟩ := id hkqo
              refine W.eq (g2 := F0 m 241 ls [.ref (L2 38 q)]) rfl ?_
              refine g_cast S (List.mem_cons_of_mem _ (List.mem_append_left _ (List.mem_append_left _ (List.mem_append_left _ (List.mem_append_left _ (List.mem_append_left _ (List.mem_of_getElem? (i := 1) rfl))))))) (g_hro hE hI hkq rfl) dX7_take_241 ?_
              refine g_get S hE hI (C := RX5) (T := TX5) (N := 8) (ref := "StonecutterYardModel$Kind") (fun w h => (List.mem_cons_of_mem _ (List.mem_append_left _ (List.mem_append_right _ h)))) hkq rfl 5 (by decide) (List.mem_cons_of_mem _ (List.mem_append_left _ (List.mem_append_left _ (List.mem_append_left _ (List.mem_append_left _ (List.mem_append_left _ (List.mem_of_getElem? (i := 8) rfl))))))) (fun _ h9 => h9) (v := .int (nI (kN (yK ya q)))) rfl dX7_take_244 ?_
              refine lv_if_le (tgt := 288) hx hb dX7_take_247 (by decide) (fun c_247 => ?_) (fun c_247 => ?_)
              · skip
                have c_247 : (kN (yK ya q)) ≤ 0 := (nI_leI (a := (kN (yK ya q))) (b := 0) (by omega) (by omega)).mp c_247
                have hno : ¬ (q ≠ j ∧ 0 < kN (yK ya q)) := fun z9 => absurd z9.2 (by omega)
                refine lv_iinc (v := nI (q + 1)) (lv' := [(7, .int (nI (q + 1))), (0, .ref (L2 30 0)), (2, .int (nI j)), (6, .int (nI (sellP (yK y j))))]) hx hb dX7_take_288 hl (k := 3) rfl (nI_add _ 1) (by decide) rfl (fun ls hl => ?_)
                refine lv_goto (tgt := 214) hx hb dX7_take_291 (by decide) ?_
                exact W.widen (by omega) (by omega) (ih (q + 1) G3 H locs ls (by omega) (by omega) (hm5.cg rfl rfl rfl (fun _ _ => rfl) (fun m _ => yRz_no hno m)) ho5 hI (lv_sub hl [1,2,3,0] rfl))
              · skip
                have c_247 : 0 < (kN (yK ya q)) := Nat.not_le.mp (fun z => c_247 ((nI_leI (a := (kN (yK ya q))) (b := 0) (by omega) (by omega)).mpr z))
                refine lv_aload_n hx hb dX7_take_250 rfl (lv_at hl 0 rfl) ?_
                refine g_get S hE hI (C := RX7) (T := TX7) (N := 3) (ref := "StonecutterYardModel$Yard") (fun w h => (List.mem_cons_of_mem _ (List.mem_append_left _ (List.mem_append_left _ (List.mem_append_left _ (List.mem_append_right _ h)))))) hm5.1.1 rfl 1 (by decide) (List.mem_cons_of_mem _ (List.mem_append_left _ (List.mem_append_left _ (List.mem_append_left _ (List.mem_append_left _ (List.mem_append_left _ (List.mem_of_getElem? (i := 0) rfl))))))) (fun _ h9 => h9) (v := .ref (L2 33 0)) rfl dX7_take_251 ?_
                refine lv_iload hx hb dX7_take_254 (lv_at hl 3 rfl) ?_
                refine g_callV (As := [.int (nI q)]) (rest := []) (b := (L2 33 0)) (n := 1) S hE hI hA (l_get l K _ (r, 33, 0) (tbL r 34) (L2 33 0) (yKc ya) (L2 38) q hm5.2.2.1 c_223) gX7_take_Jx4a65c_get_915e3 rfl (by decide +kernel) ⟨Nat.le_of_ble_eq_true rfl, Nat.le_of_ble_eq_true rfl⟩ (g_hro hE hI hl5 rfl) rfl hl.1 rfl (Nat.le_of_ble_eq_true rfl) dX7_take_256 ⟨by show _ ≤ 12 * d9; omega, by show _ ≤ 135 * d9; omega⟩ (fun E ce q9 Gx H1 locs1 hx9 => hx9.elim) (fun rv Gc_256 H locs hp hI => ?_)
                obtain ⟨rfl, hq9⟩ := hp
                rw [hq9] at hI
                obtain ⟨hkq, hkqo⟩ := hm5.2.2.2.2 q c_223
                rw [yRz_at] at hkq hkqo
                obtain ⟨u1, u2, u3, u4, u5, u6, u7, u8, u9⟩ := id hkqo
                refine W.eq (g2 := F0 m 259 ls [.ref (L2 38 q)]) rfl ?_
                refine g_cast S (List.mem_cons_of_mem _ (List.mem_append_left _ (List.mem_append_left _ (List.mem_append_left _ (List.mem_append_left _ (List.mem_append_left _ (List.mem_of_getElem? (i := 1) rfl))))))) (g_hro hE hI hkq rfl) dX7_take_259 ?_
                refine lv_sipush (v := nI 999) hx hb dX7_take_262 (by decide) ?_
                refine lv_aload_n hx hb dX7_take_265 rfl (lv_at hl 0 rfl) ?_
                refine g_get S hE hI (C := RX7) (T := TX7) (N := 3) (ref := "StonecutterYardModel$Yard") (fun w h => (List.mem_cons_of_mem _ (List.mem_append_left _ (List.mem_append_left _ (List.mem_append_left _ (List.mem_append_right _ h)))))) hm5.1.1 rfl 1 (by decide) (List.mem_cons_of_mem _ (List.mem_append_left _ (List.mem_append_left _ (List.mem_append_left _ (List.mem_append_left _ (List.mem_append_left _ (List.mem_of_getElem? (i := 0) rfl))))))) (fun _ h9 => h9) (v := .ref (L2 33 0)) rfl dX7_take_266 ?_
                refine lv_iload hx hb dX7_take_269 (lv_at hl 3 rfl) ?_
                refine g_callV (As := [.int (nI q)]) (rest := [.int (nI 999), .ref (L2 38 q)]) (b := (L2 33 0)) (n := 1) S hE hI hA (l_get l K _ (r, 33, 0) (tbL r 34) (L2 33 0) (yKc ya) (L2 38) q hm5.2.2.1 c_223) gX7_take_Jx4a65c_get_915e3 rfl (by decide +kernel) ⟨Nat.le_of_ble_eq_true rfl, Nat.le_of_ble_eq_true rfl⟩ (g_hro hE hI hl5 rfl) rfl hl.1 rfl (Nat.le_of_ble_eq_true rfl) dX7_take_271 ⟨by show _ ≤ 12 * d9; omega, by show _ ≤ 135 * d9; omega⟩ (fun E ce q9 Gx H1 locs1 hx9 => hx9.elim) (fun rv Gc_271 H locs hp hI => ?_)
                obtain ⟨rfl, hq9⟩ := hp
                rw [hq9] at hI
                obtain ⟨hkq, hkqo⟩ := hm5.2.2.2.2 q c_223
                rw [yRz_at] at hkq hkqo
                obtain ⟨u1, u2, u3, u4, u5, u6, u7, u8, u9⟩ := id hkqo
                refine W.eq (g2 := F0 m 274 ls [.ref (L2 38 q), .int (nI 999), .ref (L2 38 q)]) rfl ?_
                refine g_cast S (List.mem_cons_of_mem _ (List.mem_append_left _ (List.mem_append_left _ (List.mem_append_left _ (List.mem_append_left _ (List.mem_append_left _ (List.mem_of_getElem? (i := 1) rfl))))))) (g_hro hE hI hkq rfl) dX7_take_274 ?_
                refine g_get S hE hI (C := RX5) (T := TX5) (N := 8) (ref := "StonecutterYardModel$Kind") (fun w h => (List.mem_cons_of_mem _ (List.mem_append_left _ (List.mem_append_right _ h)))) hkq rfl 4 (by decide) (List.mem_cons_of_mem _ (List.mem_append_left _ (List.mem_append_left _ (List.mem_append_left _ (List.mem_append_left _ (List.mem_append_left _ (List.mem_of_getElem? (i := 9) rfl))))))) (fun _ h9 => h9) (v := .int (nI (kP (yK ya q)))) rfl dX7_take_277 ?_
                refine lv_iconst (v := nI 1) hx hb dX7_take_280 (by decide) ?_
                refine t_iadd hx hb dX7_take_281 (nI_add _ _) ?_
                refine g_mmin S hl.1 (S.2.2.2.2 _ (List.mem_cons_of_mem _ (List.mem_append_left _ (List.mem_append_left _ (List.mem_append_left _ (List.mem_append_left _ (List.mem_append_left _ (List.mem_of_getElem? (i := 16) rfl)))))))) (S.2.2.2.2 _ (List.mem_cons_of_mem _ (List.mem_append_left _ (List.mem_append_left _ (List.mem_append_left _ (List.mem_append_left _ (List.mem_append_left _ (List.mem_of_getElem? (i := 17) rfl)))))))) (S.2.2.2.2 _ (List.mem_cons_of_mem _ (List.mem_append_left _ (List.mem_append_left _ (List.mem_append_left _ (List.mem_append_left _ (List.mem_append_left _ (List.mem_of_getElem? (i := 12) rfl)))))))) (S.2.2.2.2 _ (List.mem_cons_of_mem _ (List.mem_append_left _ (List.mem_append_left _ (List.mem_append_left _ (List.mem_append_left _ (List.mem_append_left _ (List.mem_of_getElem? (i := 18) rfl)))))))) (Nat.le_of_ble_eq_true rfl) (Nat.le_of_ble_eq_true rfl) (by show _ ≤ 12 * d9; omega) (by show _ ≤ 135 * d9; omega) dX7_take_282 (v := nI (min 999 (kP (yK ya q) + 1))) (min_nI (by decide) (by omega)) ?_
                refine g_put S hE hI (C := RX5) (T := TX5) (N := 8) (ref := "StonecutterYardModel$Kind") (fun w h => (List.mem_cons_of_mem _ (List.mem_append_left _ (List.mem_append_right _ h)))) tyX5 tyX5_ok nmX5 hkq rfl 4 (by decide) (List.mem_cons_of_mem _ (List.mem_append_left _ (List.mem_append_left _ (List.mem_append_left _ (List.mem_append_left _ (List.mem_append_left _ (List.mem_of_getElem? (i := 9) rfl))))))) (fun _ h9 => h9) rfl rfl rfl (Nat.le_of_ble_eq_true rfl) dX7_take_285 (fun H locs hI => ?_)
                have hI : gI K A s (gset G3 (r, 38, q) (L2 38 q) (.inr (6, [.int (nI (kL (yK ya q))), .int (nI (kB (yK ya q))), .int (nI (kW (yK ya q))), .int (nI (kF (yK ya q))), .int (nI (min 999 (kP (yK ya q) + 1))), .int (nI (kN (yK ya q))), .int (nI (kT (yK ya q))), .int (nI (kD (yK ya q)))]))) H locs := hI
                obtain ⟨G_6, hG_6⟩ : ∃ z, z = gset G3 (r, 38, q) (L2 38 q) (.inr (6, [.int (nI (kL (yK ya q))), .int (nI (kB (yK ya q))), .int (nI (kW (yK ya q))), .int (nI (kF (yK ya q))), .int (nI (min 999 (kP (yK ya q) + 1))), .int (nI (kN (yK ya q))), .int (nI (kT (yK ya q))), .int (nI (kD (yK ya q)))])) := ⟨_, rfl⟩
                rw [← hG_6] at hI
                have yd_G_6 : G_6 (r, 30, 0) = some ((L2 30 0), .inr (8, [.ref (L2 31 0), .ref (L2 33 0), .int (nI (yF (yRz ya j q)))])) := by rw [hG_6, gset_ne (by simp)]; exact hm5.1.1
                have lk_G_6 : G_6 (r, 33, 0) = some ((L2 33 0), .inr (0, [.int m5, .ref ar5, .int (nI (yKc ya))])) := by rw [hG_6, gset_ne (by simp)]; exact hl5
                have kq_G_6 : G_6 (r, 38, q) = some ((L2 38 q), .inr (6, [.int (nI (kL (yK ya q))), .int (nI (kB (yK ya q))), .int (nI (kW (yK ya q))), .int (nI (kF (yK ya q))), .int (nI (min 999 (kP (yK ya q) + 1))), .int (nI (kN (yK ya q))), .int (nI (kT (yK ya q))), .int (nI (kD (yK ya q)))])) := by rw [hG_6]; exact gset_eq _ _ _ _
                have hm6 : MY K r L2 G_6 (yRz ya j (q + 1)) N2 := by rw [hG_6]; exact (hm5.setK hr50 (dearK_ok hkqo)).cg rfl rfl rfl (fun _ _ => rfl) (fun m _ => yRz_yes c_229 c_247 m)
                have ho6 : frO r N G G_6 := by rw [hG_6]; exact ho5.st hr50 _ _ _ _
                refine lv_iinc (v := nI (q + 1)) (lv' := [(7, .int (nI (q + 1))), (0, .ref (L2 30 0)), (2, .int (nI j)), (6, .int (nI (sellP (yK y j))))]) hx hb dX7_take_288 hl (k := 3) rfl (nI_add _ 1) (by decide) rfl (fun ls hl => ?_)
                refine lv_goto (tgt := 214) hx hb dX7_take_291 (by decide) ?_
                exact W.widen (by omega) (by omega) (ih (q + 1) G_6 H locs ls (by omega) (by omega) hm6 ho6 hI (lv_sub hl [1,2,3,0] rfl))
      exact W.widen (by omega) (by omega) (L214 _ 0 G_5 H locs ls (Nat.lt_succ_self _) (Nat.zero_le _) (hm4.cg rfl rfl rfl (fun _ _ => rfl) (fun m _ => yRz_0)) ho4 hI (lv_sub hl [2,3,1,0] rfl))
    refine g_get S hE hI (C := RX5) (T := TX5) (N := 8) (ref := "StonecutterYardModel$Kind") (fun w h => (List.mem_cons_of_mem _ (List.mem_append_left _ (List.mem_append_right _ h)))) k_G_1 rfl 5 (by decide) (List.mem_cons_of_mem _ (List.mem_append_left _ (List.mem_append_left _ (List.mem_append_left _ (List.mem_append_left _ (List.mem_append_left _ (List.mem_of_getElem? (i := 8) rfl))))))) (fun _ h9 => h9) (v := .int (nI (kN (yK y j)))) rfl dX7_take_137 ?_
    refine lv_if_le (tgt := 150) hx hb dX7_take_140 (by decide) (fun c_140 => ?_) (fun c_140 => ?_)
    · skip
      have c_140 : (kN (yK y j)) ≤ 0 := (nI_leI (a := (kN (yK y j))) (b := 0) (by omega) (by omega)).mp c_140
      refine lv_aload_n hx hb dX7_take_150 rfl (lv_at hl 2 rfl) ?_
      refine g_get S hE hI (C := RX5) (T := TX5) (N := 8) (ref := "StonecutterYardModel$Kind") (fun w h => (List.mem_cons_of_mem _ (List.mem_append_left _ (List.mem_append_right _ h)))) k_G_1 rfl 4 (by decide) (List.mem_cons_of_mem _ (List.mem_append_left _ (List.mem_append_left _ (List.mem_append_left _ (List.mem_append_left _ (List.mem_append_left _ (List.mem_of_getElem? (i := 9) rfl))))))) (fun _ h9 => h9) (v := .int (nI (kP (yK y j)))) rfl dX7_take_151 ?_
      refine lv_iconst (v := nI 4) hx hb dX7_take_154 (by decide) ?_
      refine g_idiv hx hb dX7_take_155 (by decide) (v := nI (kP (yK y j) / 4)) (pk_div (by omega) (by decide) (by decide)) ?_
      refine W.eq (g2 := F0 m 156 ls [.int (nI (sellP (yK y j)))]) (by rw [show sellP (yK y j) = (kP (yK y j) / 4) from if_neg (by omega)]) ?_
      exact L156  H locs ls  hI (lv_sub hl [0,1,2] rfl)
    · skip
      have c_140 : 0 < (kN (yK y j)) := Nat.not_le.mp (fun z => c_140 ((nI_leI (a := (kN (yK y j))) (b := 0) (by omega) (by omega)).mpr z))
      refine lv_aload_n hx hb dX7_take_143 rfl (lv_at hl 2 rfl) ?_
      refine g_get S hE hI (C := RX5) (T := TX5) (N := 8) (ref := "StonecutterYardModel$Kind") (fun w h => (List.mem_cons_of_mem _ (List.mem_append_left _ (List.mem_append_right _ h)))) k_G_1 rfl 4 (by decide) (List.mem_cons_of_mem _ (List.mem_append_left _ (List.mem_append_left _ (List.mem_append_left _ (List.mem_append_left _ (List.mem_append_left _ (List.mem_of_getElem? (i := 9) rfl))))))) (fun _ h9 => h9) (v := .int (nI (kP (yK y j)))) rfl dX7_take_144 ?_
      refine lv_goto (tgt := 156) hx hb dX7_take_147 (by decide) ?_
      refine W.eq (g2 := F0 m 156 ls [.int (nI (sellP (yK y j)))]) (by rw [show sellP (yK y j) = (kP (yK y j)) from if_pos c_140]) ?_
      exact L156  H locs ls  hI (lv_sub hl [0,1,2] rfl)
  have L76 : ∀ (L1 : Nat → Nat → Nat) (y1 : YV) (N1 i1 d1 : Nat) (G1 : gW) (H : Heap) (locs : List Loc) (ls : Array Slot) (hy1 : y1 = yT1 y i mn (yK y j)) (hi1 : i1 = nT1 y i mn (yK y j)) (hd1 : ySc y1 = ySc y + d1) (hd12 : d1 ≤ 2) (hm1 : MY K r L1 G1 y1 N1) (hN1 : N ≤ N1) (hL1 : lOff (ySc y) L L1) (ho1 : frO r N G G1), gI K A s G1 H locs → lv_has ls 8 [(0, .ref (L1 30 0)), (2, .int (nI j)), (3, .ref (L1 38 j)), (4, .int (nI mn)), (5, .int (nI i1))] → W p l e (gRoom 9 201 (12 * d9) (135 * d9)) s m ([.ref (L 30 0), .int (nI i), .int (nI j)] : List Value).toArray below meth c H locs (12 * d1) (135 * d1) (gEnd K below (fun r9 G1 => ∃ L2 N2, r9 = some (.int (nI (sellP (yK y j)))) ∧ MY K r L2 G1 (yTake y i j mn) N2 ∧ N ≤ N2 ∧ lOff (ySc y) L L2 ∧ frO r N G G1) (gNo) A ([.ref (L 30 0), .int (nI i), .int (nI j)] : List Value).toArray s (12 * d9) (135 * d9)) (F0 m 76 ls []) := by
    clear hI hl
    intro L1 y1 N1 i1 d1 G1 H locs ls hy1 hi1 hd1 hd12 hm1 hN1 hL1 ho1 hI hl
    have h44 := hm1.1.2.2.1
    have h6 := hm1.1.2.2.2
    have hf2 := hm1.1.2.1
    obtain ⟨m1, ar1, hl1⟩ := hm1.2.1.obj
    obtain ⟨m2, ar2, hl2⟩ := hm1.2.2.1.obj
    have hj1 : j < yKc y1 := by rw [hy1, yCut_Kc]; exact hj
    obtain ⟨hkd1, -⟩ := hm1.2.2.2.2 j hj1
    rw [show yK y1 j = yK y j from by rw [hy1, yCut_K]] at hkd1
    have hii1 : i1 < ySc y1 := by rw [hi1, hy1]; exact yCutR_lt hi
    obtain ⟨hsl1, hfl1, hsok1⟩ := hm1.2.2.2.1 i1 hii1
    obtain ⟨t1, t2, t3, t4, t5, t6, t7, t8⟩ := id hsok1
    have hT2 : yT2 y i mn (yK y j) = yCut y1 i1 false (kh (yK y j) mn) := by show yCut (yT1 y i mn (yK y j)) (nT1 y i mn (yK y j)) false (kh (yK y j) mn) = _; rw [← hy1, ← hi1]
    have hnT2 : nT2 y i mn (yK y j) = yCutR y1 i1 false (kh (yK y j) mn) := by show yCutR (yT1 y i mn (yK y j)) (nT1 y i mn (yK y j)) false (kh (yK y j) mn) = _; rw [← hy1, ← hi1]
    have hTk : ySc (yTake y i j mn) = ySc (yT2 y i mn (yK y j)) := rfl
    have hge1 : ySc y1 ≤ ySc (yT2 y i mn (yK y j)) := by rw [hT2]; exact yCut_ge
    have hd19 : d1 ≤ d9 := by omega
    refine lv_aload_n hx hb dX7_take_76 rfl (lv_at hl 0 rfl) ?_
    refine g_get S hE hI (C := RX7) (T := TX7) (N := 3) (ref := "StonecutterYardModel$Yard") (fun w h => (List.mem_cons_of_mem _ (List.mem_append_left _ (List.mem_append_left _ (List.mem_append_left _ (List.mem_append_right _ h)))))) hm1.1.1 rfl 0 (by decide) (List.mem_cons_of_mem _ (List.mem_append_left _ (List.mem_append_left _ (List.mem_append_left _ (List.mem_append_left _ (List.mem_append_left _ (List.mem_of_getElem? (i := 2) rfl))))))) (fun _ h9 => h9) (v := .ref (L1 31 0)) rfl dX7_take_77 ?_
    refine lv_iload hx hb dX7_take_80 (lv_at hl 4 rfl) ?_
    refine g_callV (As := [.int (nI i1)]) (rest := []) (b := (L1 31 0)) (n := 1) S hE hI hA (l_get l K _ (r, 31, 0) (tbL r 32) (L1 31 0) (ySc y1) (L1 35) i1 hm1.2.1 hii1) gX7_take_Jx4a65c_get_915e3 rfl (by decide +kernel) ⟨Nat.le_of_ble_eq_true rfl, Nat.le_of_ble_eq_true rfl⟩ (g_hro hE hI hl1 rfl) rfl hl.1 rfl (Nat.le_of_ble_eq_true rfl) dX7_take_82 ⟨by show _ ≤ 12 * d9; omega, by show _ ≤ 135 * d9; omega⟩ (fun E ce q9 Gx H1 locs1 hx9 => hx9.elim) (fun rv Gc_82 H locs hp hI => ?_)
    obtain ⟨rfl, hq9⟩ := hp
    rw [hq9] at hI
    refine W.eq (g2 := F0 m 85 ls [.ref (L1 35 i1)]) rfl ?_
    refine g_cast S (List.mem_cons_of_mem _ (List.mem_append_left _ (List.mem_append_left _ (List.mem_append_left _ (List.mem_append_left _ (List.mem_append_left _ (List.mem_of_getElem? (i := 3) rfl))))))) (g_hro hE hI hsl1 rfl) dX7_take_85 ?_
    refine g_get S hE hI (C := RX6) (T := TX6) (N := 6) (ref := "StonecutterYardModel$Slab") (fun w h => (List.mem_cons_of_mem _ (List.mem_append_left _ (List.mem_append_left _ (List.mem_append_right _ h))))) hsl1 rfl 1 (by decide) (List.mem_cons_of_mem _ (List.mem_append_left _ (List.mem_append_left _ (List.mem_append_left _ (List.mem_append_left _ (List.mem_append_left _ (List.mem_of_getElem? (i := 6) rfl))))))) (fun _ h9 => h9) (v := .int (nI (sH (yS y1 i1)))) rfl dX7_take_88 ?_
    refine lv_aload_n hx hb dX7_take_91 rfl (lv_at hl 2 rfl) ?_
    refine lv_iload hx hb dX7_take_92 (lv_at hl 3 rfl) ?_
    refine g_callV (As := [.int (nI mn)]) (rest := [.int (nI (sH (yS y1 i1)))]) (b := (L1 38 j)) (n := 1) S hE hI hA (c_X5_high l K _ (r, 38, j) (L1 38 j) (yK y j) mn hkd1 hmn) gX7_take_X5_high rfl (by decide +kernel) ⟨Nat.le_of_ble_eq_true rfl, Nat.le_of_ble_eq_true rfl⟩ (g_hro hE hI hkd1 rfl) rfl hl.1 rfl (Nat.le_of_ble_eq_true rfl) dX7_take_94 ⟨by show _ ≤ 12 * d9; omega, by show _ ≤ 135 * d9; omega⟩ (fun E ce q9 Gx H1 locs1 hx9 => hx9.elim) (fun rv Gc_94 H locs hp hI => ?_)
    obtain ⟨rfl, hq9⟩ := hp
    rw [hq9] at hI
    refine W.eq (g2 := F0 m 97 ls [.int (nI (kh (yK y j) mn)), .int (nI (sH (yS y1 i1)))]) rfl ?_
    refine lv_aload_n hx hb dX7_take_97 rfl (lv_at hl 0 rfl) ?_
    refine g_get S hE hI (C := RX7) (T := TX7) (N := 3) (ref := "StonecutterYardModel$Yard") (fun w h => (List.mem_cons_of_mem _ (List.mem_append_left _ (List.mem_append_left _ (List.mem_append_left _ (List.mem_append_right _ h)))))) hm1.1.1 rfl 2 (by decide) (List.mem_cons_of_mem _ (List.mem_append_left _ (List.mem_append_left _ (List.mem_append_left _ (List.mem_append_left _ (List.mem_append_left _ (List.mem_of_getElem? (i := 5) rfl))))))) (fun _ h9 => h9) (v := .int (nI (yF y1))) rfl dX7_take_98 ?_
    refine t_iadd hx hb dX7_take_101 (nI_add _ _) ?_
    refine lv_icmp_le (tgt := 120) hx hb dX7_take_102 (by decide) (fun c_102 => ?_) (fun c_102 => ?_)
    · skip
      have c_102 : (sH (yS y1 i1)) ≤ ((kh (yK y j) mn) + (yF y1)) := (nI_leI (a := (sH (yS y1 i1))) (b := ((kh (yK y j) mn) + (yF y1))) (by omega) (by omega)).mp c_102
      have hcan1 : canC (yLen (yS y1 i1) false) (yF y1) (kh (yK y j) mn) = false := decide_eq_false (by show ¬ (1 ≤ kh (yK y j) mn ∧ kh (yK y j) mn + yF y1 < sH (yS y1 i1)); omega)
      exact W.widen (by omega) (by omega) (L120 L1 y1 N1 i1 G1 H locs ls (by rw [hT2]; exact (yCut_no hcan1).symm) (by rw [hnT2]; exact (yCutR_no hcan1).symm) hii1 hj1 (by rw [hy1, yCut_K]) hm1 hN1 hL1 ho1 hI (lv_sub hl [0,1,2,4] rfl))
    · skip
      have c_102 : ((kh (yK y j) mn) + (yF y1)) < (sH (yS y1 i1)) := Nat.not_le.mp (fun z => c_102 ((nI_leI (a := (sH (yS y1 i1))) (b := ((kh (yK y j) mn) + (yF y1))) (by omega) (by omega)).mpr z))
      have hcan1 : canC (yLen (yS y1 i1) false) (yF y1) (kh (yK y j) mn) = true := decide_eq_true (by show 1 ≤ kh (yK y j) mn ∧ kh (yK y j) mn + yF y1 < sH (yS y1 i1); omega)
      have hd29 : d1 + 2 = d9 := by
        have h9 : ySc (yT2 y i mn (yK y j)) = ySc y1 + 2 := by rw [hT2, yCut_yes hcan1]
        omega
      refine lv_aload_n hx hb dX7_take_105 rfl (lv_at hl 0 rfl) ?_
      refine lv_iload hx hb dX7_take_106 (lv_at hl 4 rfl) ?_
      refine lv_iconst (v := nI 0) hx hb dX7_take_108 (by decide) ?_
      refine lv_aload_n hx hb dX7_take_109 rfl (lv_at hl 2 rfl) ?_
      refine lv_iload hx hb dX7_take_110 (lv_at hl 3 rfl) ?_
      refine g_callV (As := [.int (nI mn)]) (rest := [.int (nI 0), .int (nI i1), .ref (L1 30 0)]) (b := (L1 38 j)) (n := 1) S hE hI hA (c_X5_high l K _ (r, 38, j) (L1 38 j) (yK y j) mn hkd1 hmn) gX7_take_X5_high rfl (by decide +kernel) ⟨Nat.le_of_ble_eq_true rfl, Nat.le_of_ble_eq_true rfl⟩ (g_hro hE hI hkd1 rfl) rfl hl.1 rfl (Nat.le_of_ble_eq_true rfl) dX7_take_112 ⟨by show _ ≤ 12 * d9; omega, by show _ ≤ 135 * d9; omega⟩ (fun E ce q9 Gx H1 locs1 hx9 => hx9.elim) (fun rv Gc_112 H locs hp hI => ?_)
      obtain ⟨rfl, hq9⟩ := hp
      rw [hq9] at hI
      refine W.eq (g2 := F0 m 115 ls [.int (nI (kh (yK y j) mn)), .int (nI 0), .int (nI i1), .ref (L1 30 0)]) rfl ?_
      refine g_callV (As := [.int (nI i1), .int (nI 0), .int (nI (kh (yK y j) mn))]) (rest := []) (b := (L1 30 0)) (n := 3) S hE hI hA (c_mcutA l K _ r L1 y1 N1 i1 (kh (yK y j) mn) hm1 hii1 hcan1 (by omega) hr50) gX7_take_X7_cut rfl (by decide +kernel) ⟨Nat.le_of_ble_eq_true rfl, Nat.le_of_ble_eq_true rfl⟩ (g_hro hE hI hm1.1.1 rfl) rfl hl.1 rfl (Nat.le_of_ble_eq_true rfl) dX7_take_115 ⟨by show _ ≤ 12 * d9; omega, by show _ ≤ 135 * d9; omega⟩ (fun E ce q9 Gx H1 locs1 hx9 => hx9.elim) (fun rv Gc_115 H locs hp hI => ?_)
      obtain ⟨L8, N8, rfl, hm8, hN8, hL8, ho8, h58⟩ := hp
      rw [show L1 30 0 = L8 30 0 from (hL8 30 0 (Or.inl (by decide))).symm] at hl
      rw [show L1 38 j = L8 38 j from (hL8 38 j (Or.inl (by decide))).symm] at hl
      refine W.eq (g2 := F0 m 118 ls [.int (nI (ySc y1))]) rfl ?_
      refine lv_istore (lv' := [(5, .int (nI (ySc y1))), (0, .ref (L8 30 0)), (2, .int (nI j)), (3, .ref (L8 38 j)), (4, .int (nI mn))]) hx hb dX7_take_118 hl (by decide) rfl (fun ls hl => ?_)
      exact W.widen (by omega) (by omega) (L120 L8 (yCut y1 i1 false (kh (yK y j) mn)) N8 (ySc y1) Gc_115 H locs ls hT2.symm (by rw [hnT2]; exact (yCutR_yes hcan1).symm) (by rw [yCut_yes hcan1]; show ySc y1 < ySc y1 + 2; omega) (by rw [yCut_Kc]; exact hj1) (by rw [yCut_K, hy1, yCut_K]) hm8 (Nat.le_trans hN1 hN8) (hL1.tr hL8 (by omega)) (ho1.tr ⟨ho8, h58⟩ hN1) hI (lv_sub hl [1,2,3,0] rfl))
  refine lv_aload_n hx hb dX7_take_0 rfl (lv_at hl 0 rfl) ?_
  refine g_get S hE hI (C := RX7) (T := TX7) (N := 3) (ref := "StonecutterYardModel$Yard") (fun w h => (List.mem_cons_of_mem _ (List.mem_append_left _ (List.mem_append_left _ (List.mem_append_left _ (List.mem_append_right _ h)))))) hm.1.1 rfl 1 (by decide) (List.mem_cons_of_mem _ (List.mem_append_left _ (List.mem_append_left _ (List.mem_append_left _ (List.mem_append_left _ (List.mem_append_left _ (List.mem_of_getElem? (i := 0) rfl))))))) (fun _ h9 => h9) (v := .ref (L 33 0)) rfl dX7_take_1 ?_
  refine lv_iload_n hx hb dX7_take_4 rfl (lv_at hl 2 rfl) ?_
  refine g_callV (As := [.int (nI j)]) (rest := []) (b := (L 33 0)) (n := 1) S hE hI hA (l_get l K _ (r, 33, 0) (tbL r 34) (L 33 0) (yKc y) (L 38) j hm.2.2.1 hj) gX7_take_Jx4a65c_get_915e3 rfl (by decide +kernel) ⟨Nat.le_of_ble_eq_true rfl, Nat.le_of_ble_eq_true rfl⟩ (g_hro hE hI hl2 rfl) rfl hl.1 rfl (Nat.le_of_ble_eq_true rfl) dX7_take_5 ⟨by show _ ≤ 12 * d9; omega, by show _ ≤ 135 * d9; omega⟩ (fun E ce q9 Gx H1 locs1 hx9 => hx9.elim) (fun rv Gc_5 H locs hp hI => ?_)
  obtain ⟨rfl, hq9⟩ := hp
  rw [hq9] at hI
  refine W.eq (g2 := F0 m 8 ls [.ref (L 38 j)]) rfl ?_
  refine g_cast S (List.mem_cons_of_mem _ (List.mem_append_left _ (List.mem_append_left _ (List.mem_append_left _ (List.mem_append_left _ (List.mem_append_left _ (List.mem_of_getElem? (i := 1) rfl))))))) (g_hro hE hI hkd rfl) dX7_take_8 ?_
  refine lv_astore_n (lv' := [(3, .ref (L 38 j)), (0, .ref (L 30 0)), (1, .int (nI i)), (2, .int (nI j))]) hx hb dX7_take_11 rfl hl (by decide) rfl (fun ls hl => ?_)
  refine lv_aload_n hx hb dX7_take_12 rfl (lv_at hl 0 rfl) ?_
  refine lv_aload_n hx hb dX7_take_13 rfl (lv_at hl 1 rfl) ?_
  refine g_get S hE hI (C := RX7) (T := TX7) (N := 3) (ref := "StonecutterYardModel$Yard") (fun w h => (List.mem_cons_of_mem _ (List.mem_append_left _ (List.mem_append_left _ (List.mem_append_left _ (List.mem_append_right _ h)))))) hm.1.1 rfl 0 (by decide) (List.mem_cons_of_mem _ (List.mem_append_left _ (List.mem_append_left _ (List.mem_append_left _ (List.mem_append_left _ (List.mem_append_left _ (List.mem_of_getElem? (i := 2) rfl))))))) (fun _ h9 => h9) (v := .ref (L 31 0)) rfl dX7_take_14 ?_
  refine lv_iload_n hx hb dX7_take_17 rfl (lv_at hl 2 rfl) ?_
  refine g_callV (As := [.int (nI i)]) (rest := [.ref (L 38 j)]) (b := (L 31 0)) (n := 1) S hE hI hA (l_get l K _ (r, 31, 0) (tbL r 32) (L 31 0) (ySc y) (L 35) i hm.2.1 hi) gX7_take_Jx4a65c_get_915e3 rfl (by decide +kernel) ⟨Nat.le_of_ble_eq_true rfl, Nat.le_of_ble_eq_true rfl⟩ (g_hro hE hI hl1 rfl) rfl hl.1 rfl (Nat.le_of_ble_eq_true rfl) dX7_take_18 ⟨by show _ ≤ 12 * d9; omega, by show _ ≤ 135 * d9; omega⟩ (fun E ce q9 Gx H1 locs1 hx9 => hx9.elim) (fun rv Gc_18 H locs hp hI => ?_)
  obtain ⟨rfl, hq9⟩ := hp
  rw [hq9] at hI
  refine W.eq (g2 := F0 m 21 ls [.ref (L 35 i), .ref (L 38 j)]) rfl ?_
  refine g_cast S (List.mem_cons_of_mem _ (List.mem_append_left _ (List.mem_append_left _ (List.mem_append_left _ (List.mem_append_left _ (List.mem_append_left _ (List.mem_of_getElem? (i := 3) rfl))))))) (g_hro hE hI hsl rfl) dX7_take_21 ?_
  refine g_callV (As := [.ref (L 35 i)]) (rest := []) (b := (L 38 j)) (n := 1) S hE hI hA (c_X5_fits l K _ (r, 38, j) (r, 35, i) (r, 36, i) (tbF r i) (L 38 j) (L 35 i) (yS y i) (yK y j) (L 36 i) N hkd hsl hfl hsok hkok) gX7_take_X5_fits rfl (by decide +kernel) ⟨Nat.le_of_ble_eq_true rfl, Nat.le_of_ble_eq_true rfl⟩ (g_hro hE hI hkd rfl) rfl hl.1 rfl (Nat.le_of_ble_eq_true rfl) dX7_take_24 ⟨by show _ ≤ 12 * d9; omega, by show _ ≤ 135 * d9; omega⟩ (fun E ce q9 Gx H1 locs1 hx9 => hx9.elim) (fun rv Gc_24 H locs hp hI => ?_)
  obtain ⟨rfl, hq9⟩ := hp
  rw [hq9] at hI
  rw [hfit]
  refine W.eq (g2 := F0 m 27 ls [.int (nI mn)]) rfl ?_
  refine lv_istore (lv' := [(4, .int (nI mn)), (3, .ref (L 38 j)), (0, .ref (L 30 0)), (1, .int (nI i)), (2, .int (nI j))]) hx hb dX7_take_27 hl (by decide) rfl (fun ls hl => ?_)
  refine lv_iload_n hx hb dX7_take_29 rfl (lv_at hl 3 rfl) ?_
  refine lv_istore (lv' := [(5, .int (nI i)), (4, .int (nI mn)), (3, .ref (L 38 j)), (0, .ref (L 30 0)), (1, .int (nI i)), (2, .int (nI j))]) hx hb dX7_take_30 hl (by decide) rfl (fun ls hl => ?_)
  refine lv_aload_n hx hb dX7_take_32 rfl (lv_at hl 3 rfl) ?_
  refine g_get S hE hI (C := RX7) (T := TX7) (N := 3) (ref := "StonecutterYardModel$Yard") (fun w h => (List.mem_cons_of_mem _ (List.mem_append_left _ (List.mem_append_left _ (List.mem_append_left _ (List.mem_append_right _ h)))))) hm.1.1 rfl 0 (by decide) (List.mem_cons_of_mem _ (List.mem_append_left _ (List.mem_append_left _ (List.mem_append_left _ (List.mem_append_left _ (List.mem_append_left _ (List.mem_of_getElem? (i := 2) rfl))))))) (fun _ h9 => h9) (v := .ref (L 31 0)) rfl dX7_take_33 ?_
  refine lv_iload hx hb dX7_take_36 (lv_at hl 0 rfl) ?_
  refine g_callV (As := [.int (nI i)]) (rest := []) (b := (L 31 0)) (n := 1) S hE hI hA (l_get l K _ (r, 31, 0) (tbL r 32) (L 31 0) (ySc y) (L 35) i hm.2.1 hi) gX7_take_Jx4a65c_get_915e3 rfl (by decide +kernel) ⟨Nat.le_of_ble_eq_true rfl, Nat.le_of_ble_eq_true rfl⟩ (g_hro hE hI hl1 rfl) rfl hl.1 rfl (Nat.le_of_ble_eq_true rfl) dX7_take_38 ⟨by show _ ≤ 12 * d9; omega, by show _ ≤ 135 * d9; omega⟩ (fun E ce q9 Gx H1 locs1 hx9 => hx9.elim) (fun rv Gc_38 H locs hp hI => ?_)
  obtain ⟨rfl, hq9⟩ := hp
  rw [hq9] at hI
  refine W.eq (g2 := F0 m 41 ls [.ref (L 35 i)]) rfl ?_
  refine g_cast S (List.mem_cons_of_mem _ (List.mem_append_left _ (List.mem_append_left _ (List.mem_append_left _ (List.mem_append_left _ (List.mem_append_left _ (List.mem_of_getElem? (i := 3) rfl))))))) (g_hro hE hI hsl rfl) dX7_take_41 ?_
  refine g_get S hE hI (C := RX6) (T := TX6) (N := 6) (ref := "StonecutterYardModel$Slab") (fun w h => (List.mem_cons_of_mem _ (List.mem_append_left _ (List.mem_append_left _ (List.mem_append_right _ h))))) hsl rfl 0 (by decide) (List.mem_cons_of_mem _ (List.mem_append_left _ (List.mem_append_left _ (List.mem_append_left _ (List.mem_append_left _ (List.mem_append_left _ (List.mem_of_getElem? (i := 4) rfl))))))) (fun _ h9 => h9) (v := .int (nI (sW (yS y i)))) rfl dX7_take_44 ?_
  refine lv_aload_n hx hb dX7_take_47 rfl (lv_at hl 2 rfl) ?_
  refine lv_iload hx hb dX7_take_48 (lv_at hl 1 rfl) ?_
  refine g_callV (As := [.int (nI mn)]) (rest := [.int (nI (sW (yS y i)))]) (b := (L 38 j)) (n := 1) S hE hI hA (c_X5_wide l K _ (r, 38, j) (L 38 j) (yK y j) mn hkd hmn) gX7_take_X5_wide rfl (by decide +kernel) ⟨Nat.le_of_ble_eq_true rfl, Nat.le_of_ble_eq_true rfl⟩ (g_hro hE hI hkd rfl) rfl hl.1 rfl (Nat.le_of_ble_eq_true rfl) dX7_take_50 ⟨by show _ ≤ 12 * d9; omega, by show _ ≤ 135 * d9; omega⟩ (fun E ce q9 Gx H1 locs1 hx9 => hx9.elim) (fun rv Gc_50 H locs hp hI => ?_)
  obtain ⟨rfl, hq9⟩ := hp
  rw [hq9] at hI
  refine W.eq (g2 := F0 m 53 ls [.int (nI (kw (yK y j) mn)), .int (nI (sW (yS y i)))]) rfl ?_
  refine lv_aload_n hx hb dX7_take_53 rfl (lv_at hl 3 rfl) ?_
  refine g_get S hE hI (C := RX7) (T := TX7) (N := 3) (ref := "StonecutterYardModel$Yard") (fun w h => (List.mem_cons_of_mem _ (List.mem_append_left _ (List.mem_append_left _ (List.mem_append_left _ (List.mem_append_right _ h)))))) hm.1.1 rfl 2 (by decide) (List.mem_cons_of_mem _ (List.mem_append_left _ (List.mem_append_left _ (List.mem_append_left _ (List.mem_append_left _ (List.mem_append_left _ (List.mem_of_getElem? (i := 5) rfl))))))) (fun _ h9 => h9) (v := .int (nI (yF y))) rfl dX7_take_54 ?_
  refine t_iadd hx hb dX7_take_57 (nI_add _ _) ?_
  refine lv_icmp_le (tgt := 76) hx hb dX7_take_58 (by decide) (fun c_58 => ?_) (fun c_58 => ?_)
  · skip
    have c_58 : (sW (yS y i)) ≤ ((kw (yK y j) mn) + (yF y)) := (nI_leI (a := (sW (yS y i))) (b := ((kw (yK y j) mn) + (yF y))) (by omega) (by omega)).mp c_58
    have hcan : canC (yLen (yS y i) true) (yF y) (kw (yK y j) mn) = false := decide_eq_false (by show ¬ (1 ≤ kw (yK y j) mn ∧ kw (yK y j) mn + yF y < sW (yS y i)); omega)
    exact W.widen (by omega) (by omega) (L76 L y N i 0 G H locs ls (yCut_no hcan).symm (yCutR_no hcan).symm rfl (by decide) hm (Nat.le_refl _) lOff.rf frO.rf hI (lv_sub hl [3,5,2,1,0] rfl))
  · skip
    have c_58 : ((kw (yK y j) mn) + (yF y)) < (sW (yS y i)) := Nat.not_le.mp (fun z => c_58 ((nI_leI (a := (sW (yS y i))) (b := ((kw (yK y j) mn) + (yF y))) (by omega) (by omega)).mpr z))
    have hcan : canC (yLen (yS y i) true) (yF y) (kw (yK y j) mn) = true := decide_eq_true (by show 1 ≤ kw (yK y j) mn ∧ kw (yK y j) mn + yF y < sW (yS y i); omega)
    have hd29 : 2 ≤ d9 := by
      have h9 : ySc (yT1 y i mn (yK y j)) = ySc y + 2 := by rw [show yT1 y i mn (yK y j) = _ from yCut_yes hcan]
      omega
    refine lv_aload_n hx hb dX7_take_61 rfl (lv_at hl 3 rfl) ?_
    refine lv_iload hx hb dX7_take_62 (lv_at hl 0 rfl) ?_
    refine lv_iconst (v := nI 1) hx hb dX7_take_64 (by decide) ?_
    refine lv_aload_n hx hb dX7_take_65 rfl (lv_at hl 2 rfl) ?_
    refine lv_iload hx hb dX7_take_66 (lv_at hl 1 rfl) ?_
    refine g_callV (As := [.int (nI mn)]) (rest := [.int (nI 1), .int (nI i), .ref (L 30 0)]) (b := (L 38 j)) (n := 1) S hE hI hA (c_X5_wide l K _ (r, 38, j) (L 38 j) (yK y j) mn hkd hmn) gX7_take_X5_wide rfl (by decide +kernel) ⟨Nat.le_of_ble_eq_true rfl, Nat.le_of_ble_eq_true rfl⟩ (g_hro hE hI hkd rfl) rfl hl.1 rfl (Nat.le_of_ble_eq_true rfl) dX7_take_68 ⟨by show _ ≤ 12 * d9; omega, by show _ ≤ 135 * d9; omega⟩ (fun E ce q9 Gx H1 locs1 hx9 => hx9.elim) (fun rv Gc_68 H locs hp hI => ?_)
    obtain ⟨rfl, hq9⟩ := hp
    rw [hq9] at hI
    refine W.eq (g2 := F0 m 71 ls [.int (nI (kw (yK y j) mn)), .int (nI 1), .int (nI i), .ref (L 30 0)]) rfl ?_
    refine g_callV (As := [.int (nI i), .int (nI 1), .int (nI (kw (yK y j) mn))]) (rest := []) (b := (L 30 0)) (n := 3) S hE hI hA (c_mcutD l K _ r L y N i (kw (yK y j) mn) hm hi hcan (by omega) hr50) gX7_take_X7_cut rfl (by decide +kernel) ⟨Nat.le_of_ble_eq_true rfl, Nat.le_of_ble_eq_true rfl⟩ (g_hro hE hI hm.1.1 rfl) rfl hl.1 rfl (Nat.le_of_ble_eq_true rfl) dX7_take_71 ⟨by show _ ≤ 12 * d9; omega, by show _ ≤ 135 * d9; omega⟩ (fun E ce q9 Gx H1 locs1 hx9 => hx9.elim) (fun rv Gc_71 H locs hp hI => ?_)
    obtain ⟨L7, N7, rfl, hm7, hN7, hL7, ho7, h57⟩ := hp
    rw [show L 30 0 = L7 30 0 from (hL7 30 0 (Or.inl (by decide))).symm] at hl
    rw [show L 38 j = L7 38 j from (hL7 38 j (Or.inl (by decide))).symm] at hl
    refine W.eq (g2 := F0 m 74 ls [.int (nI (ySc y))]) rfl ?_
    refine lv_istore (lv' := [(5, .int (nI (ySc y))), (4, .int (nI mn)), (3, .ref (L7 38 j)), (0, .ref (L7 30 0)), (1, .int (nI i)), (2, .int (nI j))]) hx hb dX7_take_74 hl (by decide) rfl (fun ls hl => ?_)
    exact W.widen (by omega) (by omega) (L76 L7 _ N7 (ySc y) 2 Gc_71 H locs ls rfl (yCutR_yes hcan).symm (by rw [show yT1 y i mn (yK y j) = _ from yCut_yes hcan]) (Nat.le_refl _) hm7 hN7 hL7 ⟨ho7, h57⟩ hI (lv_sub hl [3,5,2,1,0] rfl))
