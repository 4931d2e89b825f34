/-! a Stock copied from another -/
def StockP (K : gK) (r : Nat) (L : Nat → Nat → Nat) (G : gW) (y : YV) (i j : Nat) : Prop :=
  StockH K r L G (ySc y) (yKc y) (yF y) ∧
  (∃ (S : Nat → SV) (P : Nat → Nat → Int32), (∀ n, n < 44 → G (r, 3, n) = some (L 3 n, cS (S n) (L 4 n)) ∧ G (r, 4, n) = some (L 4 n, cI K 6 (P n))) ∧ ∀ n, n < i → S n = yS y n ∧ ptsOK (P n) (sL (yS y n)) ∧ sOK (yS y n)) ∧
  (∃ Kd : Nat → KV, (∀ n, n < 6 → G (r, 5, n) = some (L 5 n, cK (Kd n))) ∧ ∀ n, n < j → Kd n = yK y n ∧ kOK (yK y n))
theorem StockP.fin {K : gK} {r : Nat} {L : Nat → Nat → Nat} {G : gW} {y : YV} (h : StockP K r L G y (ySc y) (yKc y)) : StockG K false r L G y := by
  obtain ⟨h1, ⟨S, P, h2, h3⟩, Kd, h4, h5⟩ := h
  exact ⟨h1, ⟨S, P, h2, h3⟩, Kd, h4, h5, fun z => by cases z⟩
theorem StockP.raw {K : gK} {r : Nat} {L : Nat → Nat → Nat} {G : gW} {y : YV} {i j : Nat} (h : StockP K r L G y i j) {n : Nat} (hn : n < 44) : ∃ u P, G (r, 3, n) = some (L 3 n, cS u (L 4 n)) ∧ G (r, 4, n) = some (L 4 n, cI K 6 P) := by
  obtain ⟨-, ⟨S, P, h2, h3⟩, -⟩ := h
  exact ⟨S n, P n, (h2 n hn).1, (h2 n hn).2⟩
theorem StockP.rawk {K : gK} {r : Nat} {L : Nat → Nat → Nat} {G : gW} {y : YV} {i j : Nat} (h : StockP K r L G y i j) {n : Nat} (hn : n < 6) : ∃ k, G (r, 5, n) = some (L 5 n, cK k) := by
  obtain ⟨-, -, Kd, h4, -⟩ := h
  exact ⟨Kd n, h4 n hn⟩
theorem StockP.start {K : gK} {z : Bool} {r : Nat} {L : Nat → Nat → Nat} {G : gW} {y y2 : YV} (h : StockG K z r L G y) (h2 : ySc y2 ≤ 44 ∧ yKc y2 ≤ 6 ∧ yF y2 ≤ 2) : StockP K r L (gset G (r, 0, 0) (L 0 0) (cSt (ySc y2) (yKc y2) (yF y2) (L 1 0) (L 2 0))) y2 0 0 := by
  obtain ⟨h1, ⟨S, P, h3, -⟩, Kd, h4, -⟩ := h
  exact ⟨⟨gset_eq _ _ _ _, (gset_ne (by simp)).trans h1.2.1, (gset_ne (by simp)).trans h1.2.2.1, h2⟩, ⟨S, P, fun n hn => ⟨(gset_ne (by simp)).trans (h3 n hn).1, (gset_ne (by simp)).trans (h3 n hn).2⟩, fun n hn => absurd hn (Nat.not_lt_zero n)⟩, Kd, fun n hn => (gset_ne (by simp)).trans (h4 n hn), fun n hn => absurd hn (Nat.not_lt_zero n)⟩
theorem StockP.setS {K : gK} {r : Nat} {L : Nat → Nat → Nat} {G : gW} {y : YV} {i : Nat} (h : StockP K r L G y i 0) (hi : i < 44) {P' : Nat → Int32} (hu : sOK (yS y i) ∧ ptsOK P' (sL (yS y i))) : StockP K r L (gset (gset G (r, 3, i) (L 3 i) (cS (yS y i) (L 4 i))) (r, 4, i) (L 4 i) (cI K 6 P')) y (i + 1) 0 := by
  obtain ⟨h1, ⟨S, P, h2, h3⟩, Kd, h4, h5⟩ := h
  refine ⟨h1.moved (fun a b ha => (gset_ne (by simp; omega)).trans (gset_ne (by simp; omega))), ⟨fU S i (yS y i), fU P i P', fun n hn => ?_, fun n hn => ?_⟩, Kd, fun n hn => (gset_ne (by simp)).trans ((gset_ne (by simp)).trans (h4 n hn)), h5⟩
  · by_cases e : n = i
    · subst e
      rw [fU_eq, fU_eq]
      exact ⟨(gset_ne (by simp)).trans (gset_eq _ _ _ _), gset_eq _ _ _ _⟩
    · rw [fU_ne e, fU_ne e]
      exact ⟨(gset_ne (by simp)).trans ((gset_ne (by simp [e])).trans (h2 n hn).1), (gset_ne (by simp [e])).trans ((gset_ne (by simp)).trans (h2 n hn).2)⟩
  · by_cases e : n = i
    · subst e
      rw [fU_eq, fU_eq]
      exact ⟨rfl, hu.2, hu.1⟩
    · rw [fU_ne e, fU_ne e]
      exact h3 n (by omega)
theorem StockP.setK {K : gK} {r : Nat} {L : Nat → Nat → Nat} {G : gW} {y : YV} {i j : Nat} (h : StockP K r L G y i j) (hj : j < 6) (hk : kOK (yK y j)) : StockP K r L (gset G (r, 5, j) (L 5 j) (cK (yK y j))) y i (j + 1) := by
  obtain ⟨h1, ⟨S, P, h2, h3⟩, Kd, h4, h5⟩ := h
  refine ⟨h1.moved (fun a b ha => gset_ne (by simp; omega)), ⟨S, P, fun n hn => ⟨(gset_ne (by simp)).trans (h2 n hn).1, (gset_ne (by simp)).trans (h2 n hn).2⟩, h3⟩, fU Kd j (yK y j), fun n hn => ?_, fun n hn => ?_⟩
  · by_cases e : n = j
    · subst e
      rw [fU_eq]
      exact gset_eq _ _ _ _
    · rw [fU_ne e]
      exact (gset_ne (by simp [e])).trans (h4 n hn)
  · by_cases e : n = j
    · subst e
      rw [fU_eq]
      exact ⟨rfl, hk⟩
    · rw [fU_ne e]
      exact h5 n (by omega)
set_option maxHeartbeats 4000000 in
set_option maxRecDepth 100000 in
/-- Stock.copyFrom(other) -/
theorem c_X3_copyFrom (l : Launch) (K : gK) (G : gW) (z : Bool) (r : Nat) (L : Nat → Nat → Nat) (y : YV) (z2 : Bool) (r2 : Nat) (L2 : Nat → Nat → Nat) (y2 : YV) (hs : StockG K z r L G y) (hs2 : StockG K z2 r2 L2 G y2) (hne : r ≠ r2) : gM l yX3_copyFrom wsX3_copyFrom 5 109 0 0 K [.ref (L 0 0), .ref (L2 0 0)] G (fun v G1 => v = none ∧ StockG K false r L G1 y2 ∧ Ag r G G1) (gNo) := by
  refine gM.of (cc := cX3_copyFrom) (maxL := 5) (ret := none) (by decide) rfl (Nat.le_of_ble_eq_true rfl) ?_
  intro p e s m below meth c A S hr hlocks htab hname hE hA hI ls hl
  have hx := S.1
  have hb := S.2.1
  have hml := S.2.2.1
  have hl : lv_has ls 5 [(0, .ref (L 0 0)), (1, .ref (L2 0 0))] := hl
  have g44 := hs2.1.2.2.2.1
  have g6 := hs2.1.2.2.2.2.1
  obtain ⟨H, hHe⟩ : ∃ z, z = s.heap := ⟨_, rfl⟩
  obtain ⟨locs, hLe⟩ : ∃ z : List Loc, z = [] := ⟨_, rfl⟩
  rw [← hHe, ← hLe]
  have hI : gI K A s G H locs := by rw [hHe, hLe]; exact hI
  clear hHe hLe
  have L70 : ∀ (n : Nat) (j : Nat) (G1 : gW) (H : Heap) (locs : List Loc) (ls : Array Slot) (hn : yKc y2 - j < n) (hj : j ≤ yKc y2) (hpi : StockP K r L G1 y2 (ySc y2) j) (hai : Ag r G G1), gI K A s G1 H locs → lv_has ls 5 [(0, .ref (L 0 0)), (1, .ref (L2 0 0)), (2, .int (nI j))] → W p l e (gRoom 5 109 0 0) s m ([.ref (L 0 0), .ref (L2 0 0)] : List Value).toArray below meth c H locs 0 0 (gEnd K below (fun v G1 => v = none ∧ StockG K false r L G1 y2 ∧ Ag r G G1) (gNo) A ([.ref (L 0 0), .ref (L2 0 0)] : List Value).toArray s 0 0) (F0 m 70 ls []) := by
    clear hI hl
    intro n
    induction n with
    | zero =>
      intro j G1 H locs ls hn hj hpi hai hI hl
      exact absurd hn (Nat.not_lt_zero _)
    | succ n ih =>
      intro j G1 H locs ls hn hj hpi hai hI hl
      have hs2m : StockG K z2 r2 L2 G1 y2 := hs2.moved (fun t ht => hai t (by rw [ht]; exact Ne.symm hne))
      have g44 := hs2.1.2.2.2.1
      have g6 := hs2.1.2.2.2.2.1
      refine lv_iload_n hx hb dX3_copyFrom_70 rfl (lv_at hl 2 rfl) ?_
      refine lv_aload_n hx hb dX3_copyFrom_71 rfl (lv_at hl 0 rfl) ?_
      refine g_get S hE hI (C := RX3) (T := TX3) (N := 5) (ref := "StonecutterYard$Stock") (fun w h => (List.mem_cons_of_mem _ (List.mem_append_left _ (List.mem_append_left _ (List.mem_append_right _ h))))) hpi.1.1 rfl 3 (by decide) (List.mem_cons_of_mem _ (List.mem_append_left _ (List.mem_append_left _ (List.mem_append_left _ (List.mem_append_left _ (List.mem_of_getElem? (i := 2) rfl)))))) (fun _ h9 => h9) (v := .int (nI (yKc y2))) rfl dX3_copyFrom_72 ?_
      refine lv_icmp_ge (tgt := 112) hx hb dX3_copyFrom_75 (by decide) (fun c_75 => ?_) (fun c_75 => ?_)
      · skip
        have c_75 : (yKc y2) ≤ j := (nI_leI (a := (yKc y2)) (b := j) (by omega) (by omega)).mp c_75
        exact g_vret S hI hr hlocks (Nat.zero_le _) (Nat.zero_le _) dX3_copyFrom_112 ⟨rfl, (by rw [show j = yKc y2 by omega] at hpi; exact hpi.fin), hai⟩
      · skip
        have c_75 : j < (yKc y2) := Nat.not_le.mp (fun z => c_75 ((nI_leI (a := (yKc y2)) (b := j) (by omega) (by omega)).mpr z))
        refine lv_aload_n hx hb dX3_copyFrom_78 rfl (lv_at hl 1 rfl) ?_
        refine lv_iload_n hx hb dX3_copyFrom_79 rfl (lv_at hl 2 rfl) ?_
        refine g_callV (As := [.int (nI j)]) (rest := []) (b := (L2 0 0)) (n := 1) S hE hI hA (c_kindIn l K _ r2 L2 (ySc y2) (yKc y2) (yF y2) j hs2m.1 c_75) gX3_copyFrom_X3_kindOrNull rfl (by decide +kernel) ⟨Nat.le_of_ble_eq_true rfl, Nat.le_of_ble_eq_true rfl⟩ (g_hro hE hI hs2m.1.1 rfl) rfl hl.1 rfl (Nat.le_of_ble_eq_true rfl) dX3_copyFrom_80 ⟨Nat.le_of_ble_eq_true rfl, Nat.le_of_ble_eq_true rfl⟩ (fun E ce q9 Gx H1 locs1 hx9 => hx9.elim) (fun rv Gc_80 H locs hp hI => ?_)
        obtain ⟨rfl, hq9⟩ := hp
        rw [hq9] at hI
        obtain ⟨hv, hvok⟩ := hs2m.kind c_75
        refine W.eq (g2 := F0 m 83 ls [.ref (L2 5 j)]) rfl ?_
        refine lv_astore_n (lv' := [(3, .ref (L2 5 j)), (0, .ref (L 0 0)), (1, .ref (L2 0 0)), (2, .int (nI j))]) hx hb dX3_copyFrom_83 rfl hl (by decide) rfl (fun ls hl => ?_)
        refine lv_aload_n hx hb dX3_copyFrom_84 rfl (lv_at hl 1 rfl) ?_
        refine lv_iload_n hx hb dX3_copyFrom_85 rfl (lv_at hl 3 rfl) ?_
        refine g_callV (As := [.int (nI j)]) (rest := []) (b := (L 0 0)) (n := 1) S hE hI hA (c_kindIn l K _ r L (ySc y2) (yKc y2) (yF y2) j hpi.1 c_75) gX3_copyFrom_X3_kindOrNull rfl (by decide +kernel) ⟨Nat.le_of_ble_eq_true rfl, Nat.le_of_ble_eq_true rfl⟩ (g_hro hE hI hpi.1.1 rfl) rfl hl.1 rfl (Nat.le_of_ble_eq_true rfl) dX3_copyFrom_86 ⟨Nat.le_of_ble_eq_true rfl, Nat.le_of_ble_eq_true rfl⟩ (fun E ce q9 Gx H1 locs1 hx9 => hx9.elim) (fun rv Gc_86 H locs hp hI => ?_)
        obtain ⟨rfl, hq9⟩ := hp
        rw [hq9] at hI
        obtain ⟨k9, hu⟩ := hpi.rawk (show j < 6 by omega)
        refine W.eq (g2 := F0 m 89 ls [.ref (L 5 j)]) rfl ?_
        refine lv_astore (lv' := [(4, .ref (L 5 j)), (3, .ref (L2 5 j)), (0, .ref (L 0 0)), (1, .ref (L2 0 0)), (2, .int (nI j))]) hx hb dX3_copyFrom_89 hl (by decide) rfl (fun ls hl => ?_)
        refine lv_aload_n hx hb dX3_copyFrom_91 rfl (lv_at hl 1 rfl) ?_
        refine lv_ifnull hx hb dX3_copyFrom_92 ?_
        refine lv_aload hx hb dX3_copyFrom_95 (lv_at hl 0 rfl) ?_
        refine lv_ifnull hx hb dX3_copyFrom_97 ?_
        refine lv_aload hx hb dX3_copyFrom_100 (lv_at hl 0 rfl) ?_
        refine lv_aload_n hx hb dX3_copyFrom_102 rfl (lv_at hl 1 rfl) ?_
        refine g_callV (As := [.ref (L2 5 j)]) (rest := []) (b := (L 5 j)) (n := 1) S hE hI hA (c_X0_copyFrom l K _ (r, 5, j) (L 5 j) k9 (r2, 5, j) (L2 5 j) (yK y2 j) hu hv (fun z9 => hne (congrArg Prod.fst z9))) gX3_copyFrom_X0_copyFrom rfl (by decide +kernel) ⟨Nat.le_of_ble_eq_true rfl, Nat.le_of_ble_eq_true rfl⟩ (g_hro hE hI hu rfl) rfl hl.1 rfl (Nat.le_of_ble_eq_true rfl) dX3_copyFrom_103 ⟨Nat.le_of_ble_eq_true rfl, Nat.le_of_ble_eq_true rfl⟩ (fun E ce q9 Gx H1 locs1 hx9 => hx9.elim) (fun rv Gc_103 H locs hp hI => ?_)
        obtain ⟨rfl, hGc⟩ := hp
        have hpn : StockP K r L Gc_103 y2 (ySc y2) (j + 1) := by rw [hGc]; exact hpi.setK (by omega) hvok
        have han : Ag r G Gc_103 := by rw [hGc]; exact hai.st
        refine W.eq (g2 := F0 m 106 ls []) rfl ?_
        refine lv_iinc (v := nI (j + 1)) (lv' := [(2, .int (nI (j + 1))), (4, .ref (L 5 j)), (3, .ref (L2 5 j)), (0, .ref (L 0 0)), (1, .ref (L2 0 0))]) hx hb dX3_copyFrom_106 hl (k := 4) rfl (nI_add _ 1) (by decide) rfl (fun ls hl => ?_)
        refine lv_goto (tgt := 70) hx hb dX3_copyFrom_109 (by decide) ?_
        exact ih (j + 1) Gc_103 H locs ls (by omega) (by omega) hpn han hI (lv_sub hl [3,4,0] rfl)
  refine lv_aload_n hx hb dX3_copyFrom_0 rfl (lv_at hl 0 rfl) ?_
  refine lv_aload_n hx hb dX3_copyFrom_1 rfl (lv_at hl 1 rfl) ?_
  refine g_get S hE hI (C := RX3) (T := TX3) (N := 5) (ref := "StonecutterYard$Stock") (fun w h => (List.mem_cons_of_mem _ (List.mem_append_left _ (List.mem_append_left _ (List.mem_append_right _ h))))) hs2.1.1 rfl 4 (by decide) (List.mem_cons_of_mem _ (List.mem_append_left _ (List.mem_append_left _ (List.mem_append_left _ (List.mem_append_left _ (List.mem_of_getElem? (i := 0) rfl)))))) (fun _ h9 => h9) (v := .int (nI (yF y2))) rfl dX3_copyFrom_2 ?_
  refine g_put S hE hI (C := RX3) (T := TX3) (N := 5) (ref := "StonecutterYard$Stock") (fun w h => (List.mem_cons_of_mem _ (List.mem_append_left _ (List.mem_append_left _ (List.mem_append_right _ h))))) tyX3 tyX3_ok nmX3 hs.1.1 rfl 4 (by decide) (List.mem_cons_of_mem _ (List.mem_append_left _ (List.mem_append_left _ (List.mem_append_left _ (List.mem_append_left _ (List.mem_of_getElem? (i := 0) rfl)))))) (fun _ h9 => h9) rfl rfl rfl (Nat.le_of_ble_eq_true rfl) dX3_copyFrom_5 (fun H locs hI => ?_)
  have hI : gI K A s (gset G (r, 0, 0) (L 0 0) (.inr (4, [.ref (L 1 0), .ref (L 2 0), .int (nI (ySc y)), .int (nI (yKc y)), .int (nI (yF y2))]))) H locs := hI
  obtain ⟨G_1, hG_1⟩ : ∃ z, z = gset G (r, 0, 0) (L 0 0) (.inr (4, [.ref (L 1 0), .ref (L 2 0), .int (nI (ySc y)), .int (nI (yKc y)), .int (nI (yF y2))])) := ⟨_, rfl⟩
  rw [← hG_1] at hI
  have aS_G_1 : G_1 (r, 1, 0) = some ((L 1 0), cR (K.2.1 2) 44 (fRef 44 (L 3))) := by rw [hG_1, gset_ne (g_tne hs.1.2.1 hs.1.1 (by simp))]; exact hs.1.2.1
  have aK_G_1 : G_1 (r, 2, 0) = some ((L 2 0), cR (K.2.1 3) 6 (fRef 6 (L 5))) := by rw [hG_1, gset_ne (g_tne hs.1.2.2.1 hs.1.1 (by simp))]; exact hs.1.2.2.1
  have st2_G_1 : G_1 (r2, 0, 0) = some ((L2 0 0), .inr (4, [.ref (L2 1 0), .ref (L2 2 0), .int (nI (ySc y2)), .int (nI (yKc y2)), .int (nI (yF y2))])) := by rw [hG_1, gset_ne (fun z9 => hne (congrArg Prod.fst z9).symm)]; exact hs2.1.1
  have aS2_G_1 : G_1 (r2, 1, 0) = some ((L2 1 0), cR (K.2.1 2) 44 (fRef 44 (L2 3))) := by rw [hG_1, gset_ne (fun z9 => hne (congrArg Prod.fst z9).symm)]; exact hs2.1.2.1
  have aK2_G_1 : G_1 (r2, 2, 0) = some ((L2 2 0), cR (K.2.1 3) 6 (fRef 6 (L2 5))) := by rw [hG_1, gset_ne (fun z9 => hne (congrArg Prod.fst z9).symm)]; exact hs2.1.2.2.1
  have st_G_1 : G_1 (r, 0, 0) = some ((L 0 0), .inr (4, [.ref (L 1 0), .ref (L 2 0), .int (nI (ySc y)), .int (nI (yKc y)), .int (nI (yF y2))])) := by rw [hG_1]; exact gset_eq _ _ _ _
  refine lv_aload_n hx hb dX3_copyFrom_8 rfl (lv_at hl 0 rfl) ?_
  refine lv_aload_n hx hb dX3_copyFrom_9 rfl (lv_at hl 1 rfl) ?_
  refine g_get S hE hI (C := RX3) (T := TX3) (N := 5) (ref := "StonecutterYard$Stock") (fun w h => (List.mem_cons_of_mem _ (List.mem_append_left _ (List.mem_append_left _ (List.mem_append_right _ h))))) st2_G_1 rfl 2 (by decide) (List.mem_cons_of_mem _ (List.mem_append_left _ (List.mem_append_left _ (List.mem_append_left _ (List.mem_append_left _ (List.mem_of_getElem? (i := 1) rfl)))))) (fun _ h9 => h9) (v := .int (nI (ySc y2))) rfl dX3_copyFrom_10 ?_
  refine g_put S hE hI (C := RX3) (T := TX3) (N := 5) (ref := "StonecutterYard$Stock") (fun w h => (List.mem_cons_of_mem _ (List.mem_append_left _ (List.mem_append_left _ (List.mem_append_right _ h))))) tyX3 tyX3_ok nmX3 st_G_1 rfl 2 (by decide) (List.mem_cons_of_mem _ (List.mem_append_left _ (List.mem_append_left _ (List.mem_append_left _ (List.mem_append_left _ (List.mem_of_getElem? (i := 1) rfl)))))) (fun _ h9 => h9) rfl rfl rfl (Nat.le_of_ble_eq_true rfl) dX3_copyFrom_13 (fun H locs hI => ?_)
  have hI : gI K A s (gset G_1 (r, 0, 0) (L 0 0) (.inr (4, [.ref (L 1 0), .ref (L 2 0), .int (nI (ySc y2)), .int (nI (yKc y)), .int (nI (yF y2))]))) H locs := hI
  obtain ⟨G_2, hG_2⟩ : ∃ z, z = gset G_1 (r, 0, 0) (L 0 0) (.inr (4, [.ref (L 1 0), .ref (L 2 0), .int (nI (ySc y2)), .int (nI (yKc y)), .int (nI (yF y2))])) := ⟨_, rfl⟩
  rw [← hG_2] at hI
  have aS_G_2 : G_2 (r, 1, 0) = some ((L 1 0), cR (K.2.1 2) 44 (fRef 44 (L 3))) := by rw [hG_2, gset_ne (g_tne aS_G_1 st_G_1 (by simp))]; exact aS_G_1
  have aK_G_2 : G_2 (r, 2, 0) = some ((L 2 0), cR (K.2.1 3) 6 (fRef 6 (L 5))) := by rw [hG_2, gset_ne (g_tne aK_G_1 st_G_1 (by simp))]; exact aK_G_1
  have st2_G_2 : G_2 (r2, 0, 0) = some ((L2 0 0), .inr (4, [.ref (L2 1 0), .ref (L2 2 0), .int (nI (ySc y2)), .int (nI (yKc y2)), .int (nI (yF y2))])) := by rw [hG_2, gset_ne (fun z9 => hne (congrArg Prod.fst z9).symm)]; exact st2_G_1
  have aS2_G_2 : G_2 (r2, 1, 0) = some ((L2 1 0), cR (K.2.1 2) 44 (fRef 44 (L2 3))) := by rw [hG_2, gset_ne (fun z9 => hne (congrArg Prod.fst z9).symm)]; exact aS2_G_1
  have aK2_G_2 : G_2 (r2, 2, 0) = some ((L2 2 0), cR (K.2.1 3) 6 (fRef 6 (L2 5))) := by rw [hG_2, gset_ne (fun z9 => hne (congrArg Prod.fst z9).symm)]; exact aK2_G_1
  have st_G_2 : G_2 (r, 0, 0) = some ((L 0 0), .inr (4, [.ref (L 1 0), .ref (L 2 0), .int (nI (ySc y2)), .int (nI (yKc y)), .int (nI (yF y2))])) := by rw [hG_2]; exact gset_eq _ _ _ _
  refine lv_aload_n hx hb dX3_copyFrom_16 rfl (lv_at hl 0 rfl) ?_
  refine lv_aload_n hx hb dX3_copyFrom_17 rfl (lv_at hl 1 rfl) ?_
  refine g_get S hE hI (C := RX3) (T := TX3) (N := 5) (ref := "StonecutterYard$Stock") (fun w h => (List.mem_cons_of_mem _ (List.mem_append_left _ (List.mem_append_left _ (List.mem_append_right _ h))))) st2_G_2 rfl 3 (by decide) (List.mem_cons_of_mem _ (List.mem_append_left _ (List.mem_append_left _ (List.mem_append_left _ (List.mem_append_left _ (List.mem_of_getElem? (i := 2) rfl)))))) (fun _ h9 => h9) (v := .int (nI (yKc y2))) rfl dX3_copyFrom_18 ?_
  refine g_put S hE hI (C := RX3) (T := TX3) (N := 5) (ref := "StonecutterYard$Stock") (fun w h => (List.mem_cons_of_mem _ (List.mem_append_left _ (List.mem_append_left _ (List.mem_append_right _ h))))) tyX3 tyX3_ok nmX3 st_G_2 rfl 3 (by decide) (List.mem_cons_of_mem _ (List.mem_append_left _ (List.mem_append_left _ (List.mem_append_left _ (List.mem_append_left _ (List.mem_of_getElem? (i := 2) rfl)))))) (fun _ h9 => h9) rfl rfl rfl (Nat.le_of_ble_eq_true rfl) dX3_copyFrom_21 (fun H locs hI => ?_)
  have hI : gI K A s (gset G_2 (r, 0, 0) (L 0 0) (.inr (4, [.ref (L 1 0), .ref (L 2 0), .int (nI (ySc y2)), .int (nI (yKc y2)), .int (nI (yF y2))]))) H locs := hI
  obtain ⟨G_3, hG_3⟩ : ∃ z, z = gset G_2 (r, 0, 0) (L 0 0) (.inr (4, [.ref (L 1 0), .ref (L 2 0), .int (nI (ySc y2)), .int (nI (yKc y2)), .int (nI (yF y2))])) := ⟨_, rfl⟩
  rw [← hG_3] at hI
  have aS_G_3 : G_3 (r, 1, 0) = some ((L 1 0), cR (K.2.1 2) 44 (fRef 44 (L 3))) := by rw [hG_3, gset_ne (g_tne aS_G_2 st_G_2 (by simp))]; exact aS_G_2
  have aK_G_3 : G_3 (r, 2, 0) = some ((L 2 0), cR (K.2.1 3) 6 (fRef 6 (L 5))) := by rw [hG_3, gset_ne (g_tne aK_G_2 st_G_2 (by simp))]; exact aK_G_2
  have st2_G_3 : G_3 (r2, 0, 0) = some ((L2 0 0), .inr (4, [.ref (L2 1 0), .ref (L2 2 0), .int (nI (ySc y2)), .int (nI (yKc y2)), .int (nI (yF y2))])) := by rw [hG_3, gset_ne (fun z9 => hne (congrArg Prod.fst z9).symm)]; exact st2_G_2
  have aS2_G_3 : G_3 (r2, 1, 0) = some ((L2 1 0), cR (K.2.1 2) 44 (fRef 44 (L2 3))) := by rw [hG_3, gset_ne (fun z9 => hne (congrArg Prod.fst z9).symm)]; exact aS2_G_2
  have aK2_G_3 : G_3 (r2, 2, 0) = some ((L2 2 0), cR (K.2.1 3) 6 (fRef 6 (L2 5))) := by rw [hG_3, gset_ne (fun z9 => hne (congrArg Prod.fst z9).symm)]; exact aK2_G_2
  have st_G_3 : G_3 (r, 0, 0) = some ((L 0 0), .inr (4, [.ref (L 1 0), .ref (L 2 0), .int (nI (ySc y2)), .int (nI (yKc y2)), .int (nI (yF y2))])) := by rw [hG_3]; exact gset_eq _ _ _ _
  refine lv_iconst (v := nI 0) hx hb dX3_copyFrom_24 (by decide) ?_
  refine lv_istore_n (lv' := [(2, .int (nI 0)), (0, .ref (L 0 0)), (1, .ref (L2 0 0))]) hx hb dX3_copyFrom_25 rfl hl (by decide) rfl (fun ls hl => ?_)
  have L26 : ∀ (n : Nat) (i : Nat) (G1 : gW) (H : Heap) (locs : List Loc) (ls : Array Slot) (hn : ySc y2 - i < n) (hi : i ≤ ySc y2) (hpi : StockP K r L G1 y2 i 0) (hai : Ag r G G1), gI K A s G1 H locs → lv_has ls 5 [(0, .ref (L 0 0)), (1, .ref (L2 0 0)), (2, .int (nI i))] → W p l e (gRoom 5 109 0 0) s m ([.ref (L 0 0), .ref (L2 0 0)] : List Value).toArray below meth c H locs 0 0 (gEnd K below (fun v G1 => v = none ∧ StockG K false r L G1 y2 ∧ Ag r G G1) (gNo) A ([.ref (L 0 0), .ref (L2 0 0)] : List Value).toArray s 0 0) (F0 m 26 ls []) := by
    clear hI hl
    intro n
    induction n with
    | zero =>
      intro i G1 H locs ls hn hi hpi hai hI hl
      exact absurd hn (Nat.not_lt_zero _)
    | succ n ih =>
      intro i G1 H locs ls hn hi hpi hai hI hl
      have hs2m : StockG K z2 r2 L2 G1 y2 := hs2.moved (fun t ht => hai t (by rw [ht]; exact Ne.symm hne))
      have g44 := hs2.1.2.2.2.1
      have g6 := hs2.1.2.2.2.2.1
      refine lv_iload_n hx hb dX3_copyFrom_26 rfl (lv_at hl 2 rfl) ?_
      refine lv_aload_n hx hb dX3_copyFrom_27 rfl (lv_at hl 0 rfl) ?_
      refine g_get S hE hI (C := RX3) (T := TX3) (N := 5) (ref := "StonecutterYard$Stock") (fun w h => (List.mem_cons_of_mem _ (List.mem_append_left _ (List.mem_append_left _ (List.mem_append_right _ h))))) hpi.1.1 rfl 2 (by decide) (List.mem_cons_of_mem _ (List.mem_append_left _ (List.mem_append_left _ (List.mem_append_left _ (List.mem_append_left _ (List.mem_of_getElem? (i := 1) rfl)))))) (fun _ h9 => h9) (v := .int (nI (ySc y2))) rfl dX3_copyFrom_28 ?_
      refine lv_icmp_ge (tgt := 68) hx hb dX3_copyFrom_31 (by decide) (fun c_31 => ?_) (fun c_31 => ?_)
      · skip
        have c_31 : (ySc y2) ≤ i := (nI_leI (a := (ySc y2)) (b := i) (by omega) (by omega)).mp c_31
        refine lv_iconst (v := nI 0) hx hb dX3_copyFrom_68 (by decide) ?_
        refine lv_istore_n (lv' := [(2, .int (nI 0)), (0, .ref (L 0 0)), (1, .ref (L2 0 0))]) hx hb dX3_copyFrom_69 rfl hl (by decide) rfl (fun ls hl => ?_)
        exact L70 _ 0 G1 H locs ls (Nat.lt_succ_self _) (Nat.zero_le _) (by rw [show ySc y2 = i by omega]; exact hpi) hai hI (lv_sub hl [1,2,0] rfl)
      · skip
        have c_31 : i < (ySc y2) := Nat.not_le.mp (fun z => c_31 ((nI_leI (a := (ySc y2)) (b := i) (by omega) (by omega)).mpr z))
        refine lv_aload_n hx hb dX3_copyFrom_34 rfl (lv_at hl 1 rfl) ?_
        refine lv_iload_n hx hb dX3_copyFrom_35 rfl (lv_at hl 2 rfl) ?_
        refine g_callV (As := [.int (nI i)]) (rest := []) (b := (L2 0 0)) (n := 1) S hE hI hA (c_slabIn l K _ r2 L2 (ySc y2) (yKc y2) (yF y2) i hs2m.1 c_31) gX3_copyFrom_X3_slabOrNull rfl (by decide +kernel) ⟨Nat.le_of_ble_eq_true rfl, Nat.le_of_ble_eq_true rfl⟩ (g_hro hE hI hs2m.1.1 rfl) rfl hl.1 rfl (Nat.le_of_ble_eq_true rfl) dX3_copyFrom_36 ⟨Nat.le_of_ble_eq_true rfl, Nat.le_of_ble_eq_true rfl⟩ (fun E ce q9 Gx H1 locs1 hx9 => hx9.elim) (fun rv Gc_36 H locs hp hI => ?_)
        obtain ⟨rfl, hq9⟩ := hp
        rw [hq9] at hI
        obtain ⟨Pv, hv, hvp, hvk, hvok⟩ := hs2m.slab c_31
        refine W.eq (g2 := F0 m 39 ls [.ref (L2 3 i)]) rfl ?_
        refine lv_astore_n (lv' := [(3, .ref (L2 3 i)), (0, .ref (L 0 0)), (1, .ref (L2 0 0)), (2, .int (nI i))]) hx hb dX3_copyFrom_39 rfl hl (by decide) rfl (fun ls hl => ?_)
        refine lv_aload_n hx hb dX3_copyFrom_40 rfl (lv_at hl 1 rfl) ?_
        refine lv_iload_n hx hb dX3_copyFrom_41 rfl (lv_at hl 3 rfl) ?_
        refine g_callV (As := [.int (nI i)]) (rest := []) (b := (L 0 0)) (n := 1) S hE hI hA (c_slabIn l K _ r L (ySc y2) (yKc y2) (yF y2) i hpi.1 c_31) gX3_copyFrom_X3_slabOrNull rfl (by decide +kernel) ⟨Nat.le_of_ble_eq_true rfl, Nat.le_of_ble_eq_true rfl⟩ (g_hro hE hI hpi.1.1 rfl) rfl hl.1 rfl (Nat.le_of_ble_eq_true rfl) dX3_copyFrom_42 ⟨Nat.le_of_ble_eq_true rfl, Nat.le_of_ble_eq_true rfl⟩ (fun E ce q9 Gx H1 locs1 hx9 => hx9.elim) (fun rv Gc_42 H locs hp hI => ?_)
        obtain ⟨rfl, hq9⟩ := hp
        rw [hq9] at hI
        obtain ⟨u9, P9, hu, hup⟩ := hpi.raw (show i < 44 by omega)
        refine W.eq (g2 := F0 m 45 ls [.ref (L 3 i)]) rfl ?_
        refine lv_astore (lv' := [(4, .ref (L 3 i)), (3, .ref (L2 3 i)), (0, .ref (L 0 0)), (1, .ref (L2 0 0)), (2, .int (nI i))]) hx hb dX3_copyFrom_45 hl (by decide) rfl (fun ls hl => ?_)
        refine lv_aload_n hx hb dX3_copyFrom_47 rfl (lv_at hl 1 rfl) ?_
        refine lv_ifnull hx hb dX3_copyFrom_48 ?_
        refine lv_aload hx hb dX3_copyFrom_51 (lv_at hl 0 rfl) ?_
        refine lv_ifnull hx hb dX3_copyFrom_53 ?_
        refine lv_aload hx hb dX3_copyFrom_56 (lv_at hl 0 rfl) ?_
        refine lv_aload_n hx hb dX3_copyFrom_58 rfl (lv_at hl 1 rfl) ?_
        refine g_callV (As := [.ref (L2 3 i)]) (rest := []) (b := (L 3 i)) (n := 1) S hE hI hA (c_X2_copyFrom l K _ (r, 3, i) (r, 4, i) (r2, 3, i) (r2, 4, i) (L 3 i) (L2 3 i) u9 (yS y2 i) (L 4 i) (L2 4 i) P9 Pv hu hup hv hvp (fun z9 => hne (congrArg Prod.fst z9)) (fun z9 => hne (congrArg Prod.fst z9)) hvok hvk) gX3_copyFrom_X2_copyFrom rfl (by decide +kernel) ⟨Nat.le_of_ble_eq_true rfl, Nat.le_of_ble_eq_true rfl⟩ (g_hro hE hI hu rfl) rfl hl.1 rfl (Nat.le_of_ble_eq_true rfl) dX3_copyFrom_59 ⟨Nat.le_of_ble_eq_true rfl, Nat.le_of_ble_eq_true rfl⟩ (fun E ce q9 Gx H1 locs1 hx9 => hx9.elim) (fun rv Gc_59 H locs hp hI => ?_)
        obtain ⟨rfl, g9, hg9, hGc⟩ := hp
        have hpn : StockP K r L Gc_59 y2 (i + 1) 0 := by rw [hGc]; exact hpi.setS (by omega) ⟨hvok, hg9⟩
        have han : Ag r G Gc_59 := by rw [hGc]; exact hai.st.st
        refine W.eq (g2 := F0 m 62 ls []) rfl ?_
        refine lv_iinc (v := nI (i + 1)) (lv' := [(2, .int (nI (i + 1))), (4, .ref (L 3 i)), (3, .ref (L2 3 i)), (0, .ref (L 0 0)), (1, .ref (L2 0 0))]) hx hb dX3_copyFrom_62 hl (k := 4) rfl (nI_add _ 1) (by decide) rfl (fun ls hl => ?_)
        refine lv_goto (tgt := 26) hx hb dX3_copyFrom_65 (by decide) ?_
        exact ih (i + 1) Gc_59 H locs ls (by omega) (by omega) hpn han hI (lv_sub hl [3,4,0] rfl)
  exact L26 _ 0 G_3 H locs ls (Nat.lt_succ_self _) (Nat.zero_le _) (by rw [hG_3, hG_2, hG_1, gset_gset, gset_gset]; exact StockP.start hs hs2.1.2.2.2) (by rw [hG_3, hG_2, hG_1, gset_gset, gset_gset]; exact Ag.rf.st) hI (lv_sub hl [1,2,0] rfl)
