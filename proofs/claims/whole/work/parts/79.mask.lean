/-! the model's calls that take, plan and ask -/
def AgW (N : Nat) (G G1 : gW) : Prop := (∀ t : gTag, (t.1 < 6 ∨ t.1 = 9 ∨ (20 ≤ t.1 ∧ t.1 < 50)) → G1 t = G t) ∧ ∀ m, m < N → G1 (50, 0, m) = G (50, 0, m)
theorem AgW.rf {N : Nat} {G : gW} : AgW N G G := ⟨fun _ _ => rfl, fun _ _ => rfl⟩
theorem AgW.tr {N : Nat} {G G1 G2 : gW} (h : AgW N G G1) (h2 : AgW N G1 G2) : AgW N G G2 := ⟨fun t ht => (h2.1 t ht).trans (h.1 t ht), fun m hm => (h2.2 m hm).trans (h.2 m hm)⟩
theorem AgW.ag {N : Nat} {G G1 : gW} (h : AgW N G G1) : AgM G G1 := fun t ht => h.1 t (by omega)
theorem AgW.one {N r : Nat} {G G1 : gW} (h : ∀ t : gTag, t.1 ≠ r → G1 t = G t) (hr : 6 ≤ r ∧ r ≠ 9 ∧ r < 20) : AgW N G G1 := ⟨fun t ht => h t (by omega), fun m _ => h _ (by show (50 : Nat) ≠ r; omega)⟩
theorem AgW.cp {N : Nat} {G G1 : gW} (h : ∀ t : gTag, t.1 ≠ 7 → t.1 ≠ 8 → G1 t = G t) : AgW N G G1 := ⟨fun t ht => h t (by omega) (by omega), fun m _ => h _ (by show (50 : Nat) ≠ 7; decide) (by show (50 : Nat) ≠ 8; decide)⟩
theorem AgW.ta {N : Nat} {G G1 : gW} (h : ∀ t : gTag, t.1 ≠ 10 → t.1 ≠ 11 → t.1 ≠ 12 → G1 t = G t) : AgW N G G1 := ⟨fun t ht => h t (by omega) (by omega) (by omega), fun m _ => h _ (by show (50 : Nat) ≠ 10; decide) (by show (50 : Nat) ≠ 11; decide) (by show (50 : Nat) ≠ 12; decide)⟩
theorem AgW.fr {N : Nat} {G G1 : gW} (h : frO 7 N G G1) : AgW N G G1 := ⟨fun t ht => h.1 t (by omega) (by omega), h.2⟩
theorem AgW.my {K : gK} {L : Nat → Nat → Nat} {G G1 : gW} {y : YV} {N : Nat} (h : AgW N G G1) (hm : MY K 5 L G y N) : MY K 5 L G1 y N := hm.moved (fun t ht => h.1 t (by omega)) h.2
theorem AgW.md {K : gK} {L : Nat → Nat → Nat} {h0 th : Nat} {G G1 : gW} {y : YV} {N : Nat} (h : AgW N G G1) (hM : MdC K L h0 th G y N) : MdC K L h0 th G1 y N := ⟨(h.1 _ (by decide)).trans hM.1, h.my hM.2.1, hM.2.2⟩
theorem my7 {K : gK} {L : Nat → Nat → Nat} {G G1 : gW} {y : YV} {N : Nat} (hm : MY K 7 L G y N) (h : ∀ t : gTag, t.1 ≠ 10 → t.1 ≠ 11 → t.1 ≠ 12 → G1 t = G t) : MY K 7 L G1 y N := hm.moved (fun t ht => h t (by omega) (by omega) (by omega)) (fun m _ => h _ (by show (50 : Nat) ≠ 10; decide) (by show (50 : Nat) ≠ 11; decide) (by show (50 : Nat) ≠ 12; decide))
set_option maxHeartbeats 4000000 in
set_option maxRecDepth 100000 in
/-- X8_take: takeA -/
theorem m_takeA (l : Launch) (K : gK) (G : gW) (L : Nat → Nat → Nat) (h0 th : Nat) (y : YV) (N : Nat) (x k : Int32) (hM : MdC K L h0 th G y N) (hxn : ∀ q, q < ySc y → x ≠ nI q) (hr9 : inR x (ySc y) = false) : gM l yX8_take wsX8_take 10 228 48 540 K [.ref h0, .int x, .int k] G (mPost K h0 G (oTake y x k)) (gNo) := by
  refine gM.of (cc := cX8_take) (maxL := 3) (ret := (some .int)) (by decide) rfl (Nat.le_of_ble_eq_true rfl) ?_
  intro p e s m below meth c A S hr hlocks htab hname hE hA hI ls hl
  have hx := S.1
  have hb := S.2.1
  have hml := S.2.2.1
  have hl : lv_has ls 3 [(0, .ref h0), (1, .int x), (2, .int k)] := hl
  have h44 := hM.2.1.1.2.2.1
  have h6 := hM.2.1.1.2.2.2
  have hf2 := hM.2.1.1.2.1
  have h40 := hM.2.2.2
  have hth := hM.2.2.1
  have hag : AgM G G := AgM.rf
  obtain ⟨m1, ar1, hl1⟩ := hM.2.1.2.1.obj
  obtain ⟨m2, ar2, hl2⟩ := hM.2.1.2.2.1.obj
  have ho : oTake y x k = (1, 0, y) := by unfold oTake; rw [if_neg (by rw [hr9]; simp)]
  obtain ⟨H, hHe⟩ : ∃ z, z = s.heap := ⟨_, rfl⟩
  obtain ⟨locs, hLe⟩ : ∃ z : List Loc, z = [] := ⟨_, rfl⟩
  rw [← hHe, ← hLe]
  have hI : gI K A s G H locs := by rw [hHe, hLe]; exact hI
  clear hHe hLe
  refine lv_aload_n hx hb dX8_take_0 rfl (lv_at hl 0 rfl) ?_
  refine lv_iload_n hx hb dX8_take_1 rfl (lv_at hl 1 rfl) ?_
  refine lv_iload_n hx hb dX8_take_2 rfl (lv_at hl 2 rfl) ?_
  refine g_callV (As := [.int x, .int k]) (rest := []) (b := h0) (n := 2) S hE hI hA (c_pairA l K _ L h0 th y N x k hM hr9) gX8_take_X8_isNoPair rfl (by decide +kernel) ⟨Nat.le_of_ble_eq_true rfl, Nat.le_of_ble_eq_true rfl⟩ (g_hro hE hI hM.1 rfl) rfl hl.1 rfl (Nat.le_of_ble_eq_true rfl) dX8_take_3 ⟨Nat.le_of_ble_eq_true rfl, Nat.le_of_ble_eq_true rfl⟩ (fun E ce q9 Gx H1 locs1 hx9 => hx9.elim) (fun rv Gc_3 H locs hp hI => ?_)
  obtain ⟨rfl, hM, hg9⟩ := hp
  have hag := hag.tr hg9
  have hM : MdC K L h0 1 Gc_3 y N := hM
  obtain ⟨m1, ar1, hl1⟩ := hM.2.1.2.1.obj
  obtain ⟨m2, ar2, hl2⟩ := hM.2.1.2.2.1.obj
  refine W.eq (g2 := F0 m 6 ls [.int (bI true)]) rfl ?_
  refine lv_if_ne (tgt := 63) hx hb dX8_take_6 (by decide) (fun c_6 => ?_) (fun c_6 => ?_)
  · skip
    have c_6 : true = true := bI_1.mp c_6
    refine lv_iconst (v := nI 0) hx hb dX8_take_63 (by decide) ?_
    exact g_iret S hI hr hlocks (Nat.zero_le _) (Nat.zero_le _) dX8_take_64 (mThrow ho (by decide) hM hag)
  · skip
    have c_6 : true = false := bI_0.mp c_6
    cases c_6
set_option maxHeartbeats 4000000 in
set_option maxRecDepth 100000 in
/-- X8_take: takeB -/
theorem m_takeB (l : Launch) (K : gK) (G : gW) (L : Nat → Nat → Nat) (h0 th : Nat) (y : YV) (N : Nat) (i : Nat) (x : Int32) (hM : MdC K L h0 th G y N) (hi : i < ySc y) (hxn : ∀ q, q < yKc y → x ≠ nI q) (hr9 : inR x (yKc y) = false) : gM l yX8_take wsX8_take 10 228 48 540 K [.ref h0, .int (nI i), .int x] G (mPost K h0 G (oTake y (nI i) x)) (gNo) := by
  refine gM.of (cc := cX8_take) (maxL := 3) (ret := (some .int)) (by decide) rfl (Nat.le_of_ble_eq_true rfl) ?_
  intro p e s m below meth c A S hr hlocks htab hname hE hA hI ls hl
  have hx := S.1
  have hb := S.2.1
  have hml := S.2.2.1
  have hl : lv_has ls 3 [(0, .ref h0), (1, .int (nI i)), (2, .int x)] := hl
  have h44 := hM.2.1.1.2.2.1
  have h6 := hM.2.1.1.2.2.2
  have hf2 := hM.2.1.1.2.1
  have h40 := hM.2.2.2
  have hth := hM.2.2.1
  have hag : AgM G G := AgM.rf
  have hri : inR (nI i) (ySc y) = true := inR_nI hi (by omega)
  have hiN : iN (nI i) = i := iN_nI (by omega)
  obtain ⟨m1, ar1, hl1⟩ := hM.2.1.2.1.obj
  obtain ⟨m2, ar2, hl2⟩ := hM.2.1.2.2.1.obj
  have ho : oTake y (nI i) x = (1, 0, y) := by unfold oTake; rw [if_neg (by rw [hr9]; simp)]
  obtain ⟨H, hHe⟩ : ∃ z, z = s.heap := ⟨_, rfl⟩
  obtain ⟨locs, hLe⟩ : ∃ z : List Loc, z = [] := ⟨_, rfl⟩
  rw [← hHe, ← hLe]
  have hI : gI K A s G H locs := by rw [hHe, hLe]; exact hI
  clear hHe hLe
  refine lv_aload_n hx hb dX8_take_0 rfl (lv_at hl 0 rfl) ?_
  refine lv_iload_n hx hb dX8_take_1 rfl (lv_at hl 1 rfl) ?_
  refine lv_iload_n hx hb dX8_take_2 rfl (lv_at hl 2 rfl) ?_
  refine g_callV (As := [.int (nI i), .int x]) (rest := []) (b := h0) (n := 2) S hE hI hA (c_pairB l K _ L h0 th y N (nI i) x hM hri hr9) gX8_take_X8_isNoPair rfl (by decide +kernel) ⟨Nat.le_of_ble_eq_true rfl, Nat.le_of_ble_eq_true rfl⟩ (g_hro hE hI hM.1 rfl) rfl hl.1 rfl (Nat.le_of_ble_eq_true rfl) dX8_take_3 ⟨Nat.le_of_ble_eq_true rfl, Nat.le_of_ble_eq_true rfl⟩ (fun E ce q9 Gx H1 locs1 hx9 => hx9.elim) (fun rv Gc_3 H locs hp hI => ?_)
  obtain ⟨rfl, hM, hg9⟩ := hp
  have hag := hag.tr hg9
  have hM : MdC K L h0 1 Gc_3 y N := hM
  obtain ⟨m1, ar1, hl1⟩ := hM.2.1.2.1.obj
  obtain ⟨m2, ar2, hl2⟩ := hM.2.1.2.2.1.obj
  refine W.eq (g2 := F0 m 6 ls [.int (bI true)]) rfl ?_
  refine lv_if_ne (tgt := 63) hx hb dX8_take_6 (by decide) (fun c_6 => ?_) (fun c_6 => ?_)
  · skip
    have c_6 : true = true := bI_1.mp c_6
    refine lv_iconst (v := nI 0) hx hb dX8_take_63 (by decide) ?_
    exact g_iret S hI hr hlocks (Nat.zero_le _) (Nat.zero_le _) dX8_take_64 (mThrow ho (by decide) hM hag)
  · skip
    have c_6 : true = false := bI_0.mp c_6
    cases c_6
set_option maxHeartbeats 4000000 in
set_option maxRecDepth 100000 in
/-- X8_take: takeC -/
theorem m_takeC (l : Launch) (K : gK) (G : gW) (L : Nat → Nat → Nat) (h0 th : Nat) (y : YV) (N : Nat) (i j : Nat) (hM : MdC K L h0 th G y N) (hi : i < ySc y) (hj : j < yKc y) (hfit : sFits (yS y i) (yK y j) = none) : gM l yX8_take wsX8_take 10 228 48 540 K [.ref h0, .int (nI i), .int (nI j)] G (mPost K h0 G (oTake y (nI i) (nI j))) (gNo) := by
  refine gM.of (cc := cX8_take) (maxL := 3) (ret := (some .int)) (by decide) rfl (Nat.le_of_ble_eq_true rfl) ?_
  intro p e s m below meth c A S hr hlocks htab hname hE hA hI ls hl
  have hx := S.1
  have hb := S.2.1
  have hml := S.2.2.1
  have hl : lv_has ls 3 [(0, .ref h0), (1, .int (nI i)), (2, .int (nI j))] := hl
  have h44 := hM.2.1.1.2.2.1
  have h6 := hM.2.1.1.2.2.2
  have hf2 := hM.2.1.1.2.1
  have h40 := hM.2.2.2
  have hth := hM.2.2.1
  have hag : AgM G G := AgM.rf
  have hri : inR (nI i) (ySc y) = true := inR_nI hi (by omega)
  have hiN : iN (nI i) = i := iN_nI (by omega)
  have hrj : inR (nI j) (yKc y) = true := inR_nI hj (by omega)
  have hjN : iN (nI j) = j := iN_nI (by omega)
  obtain ⟨m1, ar1, hl1⟩ := hM.2.1.2.1.obj
  obtain ⟨m2, ar2, hl2⟩ := hM.2.1.2.2.1.obj
  obtain ⟨hsl, hfl, hsok⟩ := hM.2.1.2.2.2.1 i hi
  obtain ⟨s1, s2, s3, s4, s5, s6, s7, s8⟩ := id hsok
  obtain ⟨hkd, hkok⟩ := hM.2.1.2.2.2.2 j hj
  obtain ⟨k1, k2, k3, k4, k5, k6, k7, k8, k9⟩ := id hkok
  have ho : oTake y (nI i) (nI j) = (2, 0, y) := by unfold oTake; rw [if_pos (by rw [hri, hrj]; rfl), hiN, hjN, hfit]
  obtain ⟨H, hHe⟩ : ∃ z, z = s.heap := ⟨_, rfl⟩
  obtain ⟨locs, hLe⟩ : ∃ z : List Loc, z = [] := ⟨_, rfl⟩
  rw [← hHe, ← hLe]
  have hI : gI K A s G H locs := by rw [hHe, hLe]; exact hI
  clear hHe hLe
  refine lv_aload_n hx hb dX8_take_0 rfl (lv_at hl 0 rfl) ?_
  refine lv_iload_n hx hb dX8_take_1 rfl (lv_at hl 1 rfl) ?_
  refine lv_iload_n hx hb dX8_take_2 rfl (lv_at hl 2 rfl) ?_
  refine g_callV (As := [.int (nI i), .int (nI j)]) (rest := []) (b := h0) (n := 2) S hE hI hA (c_pairC l K _ L h0 th y N (nI i) (nI j) hM hri hrj) gX8_take_X8_isNoPair rfl (by decide +kernel) ⟨Nat.le_of_ble_eq_true rfl, Nat.le_of_ble_eq_true rfl⟩ (g_hro hE hI hM.1 rfl) rfl hl.1 rfl (Nat.le_of_ble_eq_true rfl) dX8_take_3 ⟨Nat.le_of_ble_eq_true rfl, Nat.le_of_ble_eq_true rfl⟩ (fun E ce q9 Gx H1 locs1 hx9 => hx9.elim) (fun rv Gc_3 H locs hp hI => ?_)
  obtain ⟨rfl, hM, hg9⟩ := hp
  have hag := hag.tr hg9
  have hM : MdC K L h0 0 Gc_3 y N := hM
  obtain ⟨m1, ar1, hl1⟩ := hM.2.1.2.1.obj
  obtain ⟨m2, ar2, hl2⟩ := hM.2.1.2.2.1.obj
  obtain ⟨hsl, hfl, hsok⟩ := hM.2.1.2.2.2.1 i hi
  obtain ⟨s1, s2, s3, s4, s5, s6, s7, s8⟩ := id hsok
  obtain ⟨hkd, hkok⟩ := hM.2.1.2.2.2.2 j hj
  obtain ⟨k1, k2, k3, k4, k5, k6, k7, k8, k9⟩ := id hkok
  refine W.eq (g2 := F0 m 6 ls [.int (bI false)]) rfl ?_
  refine lv_if_ne (tgt := 63) hx hb dX8_take_6 (by decide) (fun c_6 => ?_) (fun c_6 => ?_)
  · skip
    have c_6 : false = true := bI_1.mp c_6
    cases c_6
  · skip
    have c_6 : false = false := bI_0.mp c_6
    refine lv_aload_n hx hb dX8_take_9 rfl (lv_at hl 0 rfl) ?_
    refine lv_aload_n hx hb dX8_take_10 rfl (lv_at hl 0 rfl) ?_
    refine g_get S hE hI (C := RX8) (T := TX8) (N := 2) (ref := "StonecutterYardModel") (fun w h => (List.mem_cons_of_mem _ (List.mem_append_left _ (List.mem_append_left _ (List.mem_append_left _ (List.mem_append_left _ (List.mem_append_right _ h))))))) hM.1 rfl 1 (by decide) (List.mem_cons_of_mem _ (List.mem_append_left _ (List.mem_append_left _ (List.mem_append_left _ (List.mem_append_left _ (List.mem_append_left _ (List.mem_append_left _ (List.mem_of_getElem? (i := 0) rfl)))))))) (fun _ h9 => h9) (v := .ref (L 30 0)) rfl dX8_take_11 ?_
    refine g_get S hE hI (C := RX7) (T := TX7) (N := 3) (ref := "StonecutterYardModel$Yard") (fun w h => (List.mem_cons_of_mem _ (List.mem_append_left _ (List.mem_append_left _ (List.mem_append_left _ (List.mem_append_right _ h)))))) hM.2.1.1.1 rfl 1 (by decide) (List.mem_cons_of_mem _ (List.mem_append_left _ (List.mem_append_left _ (List.mem_append_left _ (List.mem_append_left _ (List.mem_append_left _ (List.mem_append_left _ (List.mem_of_getElem? (i := 1) rfl)))))))) (fun _ h9 => h9) (v := .ref (L 33 0)) rfl dX8_take_14 ?_
    refine lv_iload_n hx hb dX8_take_17 rfl (lv_at hl 2 rfl) ?_
    refine g_callV (As := [.int (nI j)]) (rest := [.ref h0]) (b := (L 33 0)) (n := 1) S hE hI hA (l_get l K _ (5, 33, 0) (tbL 5 34) (L 33 0) (yKc y) (L 38) j hM.2.1.2.2.1 hj) gX8_take_Jx4a65c_get_915e3 rfl (by decide +kernel) ⟨Nat.le_of_ble_eq_true rfl, Nat.le_of_ble_eq_true rfl⟩ (g_hro hE hI hl2 rfl) rfl hl.1 rfl (Nat.le_of_ble_eq_true rfl) dX8_take_18 ⟨Nat.le_of_ble_eq_true rfl, Nat.le_of_ble_eq_true rfl⟩ (fun E ce q9 Gx H1 locs1 hx9 => hx9.elim) (fun rv Gc_18 H locs hp hI => ?_)
    obtain ⟨rfl, hq9⟩ := hp
    rw [hq9] at hI
    refine W.eq (g2 := F0 m 21 ls [.ref (L 38 j), .ref h0]) rfl ?_
    refine g_cast S (List.mem_cons_of_mem _ (List.mem_append_left _ (List.mem_append_left _ (List.mem_append_left _ (List.mem_append_left _ (List.mem_append_left _ (List.mem_append_left _ (List.mem_of_getElem? (i := 2) rfl)))))))) (g_hro hE hI hkd rfl) dX8_take_21 ?_
    refine lv_aload_n hx hb dX8_take_24 rfl (lv_at hl 0 rfl) ?_
    refine lv_iload_n hx hb dX8_take_25 rfl (lv_at hl 1 rfl) ?_
    refine g_callV (As := [.int (nI i)]) (rest := [.ref (L 38 j), .ref h0]) (b := h0) (n := 1) S hE hI hA (c_X8_of l K _ L h0 0 y N i hM hi) gX8_take_X8_of rfl (by decide +kernel) ⟨Nat.le_of_ble_eq_true rfl, Nat.le_of_ble_eq_true rfl⟩ (g_hro hE hI hM.1 rfl) rfl hl.1 rfl (Nat.le_of_ble_eq_true rfl) dX8_take_26 ⟨Nat.le_of_ble_eq_true rfl, Nat.le_of_ble_eq_true rfl⟩ (fun E ce q9 Gx H1 locs1 hx9 => hx9.elim) (fun rv Gc_26 H locs hp hI => ?_)
    obtain ⟨rfl, hq9⟩ := hp
    rw [hq9] at hI
    refine W.eq (g2 := F0 m 29 ls [.ref (L 35 i), .ref (L 38 j), .ref h0]) rfl ?_
    refine g_callV (As := [.ref (L 35 i)]) (rest := [.ref h0]) (b := (L 38 j)) (n := 1) S hE hI hA (c_X5_fits l K _ (5, 38, j) (5, 35, i) (5, 36, i) (tbF 5 i) (L 38 j) (L 35 i) (yS y i) (yK y j) (L 36 i) N hkd hsl hfl hsok hkok) gX8_take_X5_fits rfl (by decide +kernel) ⟨Nat.le_of_ble_eq_true rfl, Nat.le_of_ble_eq_true rfl⟩ (g_hro hE hI hkd rfl) rfl hl.1 rfl (Nat.le_of_ble_eq_true rfl) dX8_take_29 ⟨Nat.le_of_ble_eq_true rfl, Nat.le_of_ble_eq_true rfl⟩ (fun E ce q9 Gx H1 locs1 hx9 => hx9.elim) (fun rv Gc_29 H locs hp hI => ?_)
    obtain ⟨rfl, hq9⟩ := hp
    rw [hq9] at hI
    rw [hfit]
    refine W.eq (g2 := F0 m 32 ls [.int (-1), .ref h0]) rfl ?_
    refine lv_iconst (v := (-1)) hx hb dX8_take_32 (by decide) ?_
    refine lv_icmp_eq (tgt := 51) hx hb dX8_take_33 (by decide) (fun c_33 => ?_) (fun c_33 => ?_)
    · skip
      refine lv_iconst (v := nI 1) hx hb dX8_take_51 (by decide) ?_
      refine lv_goto (tgt := 56) hx hb dX8_take_52 (by decide) ?_
      refine lv_iconst (v := nI 2) hx hb dX8_take_56 (by decide) ?_
      refine g_callV (As := [.int (nI 1), .int (nI 2)]) (rest := []) (b := h0) (n := 2) S hE hI hA (c_ref l K _ L h0 y N true 2 hM (by decide)) gX8_take_X8_refuse rfl (by decide +kernel) ⟨Nat.le_of_ble_eq_true rfl, Nat.le_of_ble_eq_true rfl⟩ (g_hro hE hI hM.1 rfl) rfl hl.1 rfl (Nat.le_of_ble_eq_true rfl) dX8_take_57 ⟨Nat.le_of_ble_eq_true rfl, Nat.le_of_ble_eq_true rfl⟩ (fun E ce q9 Gx H1 locs1 hx9 => hx9.elim) (fun rv Gc_57 H locs hp hI => ?_)
      obtain ⟨rfl, hM, hg9⟩ := hp
      have hag := hag.tr hg9
      have hM : MdC K L h0 2 Gc_57 y N := hM
      obtain ⟨m1, ar1, hl1⟩ := hM.2.1.2.1.obj
      obtain ⟨m2, ar2, hl2⟩ := hM.2.1.2.2.1.obj
      obtain ⟨hsl, hfl, hsok⟩ := hM.2.1.2.2.2.1 i hi
      obtain ⟨s1, s2, s3, s4, s5, s6, s7, s8⟩ := id hsok
      obtain ⟨hkd, hkok⟩ := hM.2.1.2.2.2.2 j hj
      obtain ⟨k1, k2, k3, k4, k5, k6, k7, k8, k9⟩ := id hkok
      refine W.eq (g2 := F0 m 60 ls [.int (bI true)]) rfl ?_
      refine lv_if_eq (tgt := 65) hx hb dX8_take_60 (by decide) (fun c_60 => ?_) (fun c_60 => ?_)
      · skip
        have c_60 : true = false := bI_0.mp c_60
        cases c_60
      · skip
        have c_60 : true = true := bI_1.mp c_60
        refine lv_iconst (v := nI 0) hx hb dX8_take_63 (by decide) ?_
        exact g_iret S hI hr hlocks (Nat.zero_le _) (Nat.zero_le _) dX8_take_64 (mThrow ho (by decide) hM hag)
    · skip
      exact absurd rfl c_33
set_option maxHeartbeats 4000000 in
set_option maxRecDepth 100000 in
/-- X8_take: takeD -/
theorem m_takeD (l : Launch) (K : gK) (G : gW) (L : Nat → Nat → Nat) (h0 th : Nat) (y : YV) (N : Nat) (i j mn : Nat) (hM : MdC K L h0 th G y N) (hi : i < ySc y) (hj : j < yKc y) (hfit : sFits (yS y i) (yK y j) = some mn) (hroom : ¬ ySc y ≤ 36) : gM l yX8_take wsX8_take 10 228 48 540 K [.ref h0, .int (nI i), .int (nI j)] G (mPost K h0 G (oTake y (nI i) (nI j))) (gNo) := by
  refine gM.of (cc := cX8_take) (maxL := 3) (ret := (some .int)) (by decide) rfl (Nat.le_of_ble_eq_true rfl) ?_
  intro p e s m below meth c A S hr hlocks htab hname hE hA hI ls hl
  have hx := S.1
  have hb := S.2.1
  have hml := S.2.2.1
  have hl : lv_has ls 3 [(0, .ref h0), (1, .int (nI i)), (2, .int (nI j))] := hl
  have h44 := hM.2.1.1.2.2.1
  have h6 := hM.2.1.1.2.2.2
  have hf2 := hM.2.1.1.2.1
  have h40 := hM.2.2.2
  have hth := hM.2.2.1
  have hag : AgM G G := AgM.rf
  have hri : inR (nI i) (ySc y) = true := inR_nI hi (by omega)
  have hiN : iN (nI i) = i := iN_nI (by omega)
  have hrj : inR (nI j) (yKc y) = true := inR_nI hj (by omega)
  have hjN : iN (nI j) = j := iN_nI (by omega)
  have hmn := sFits_lt hfit
  obtain ⟨m1, ar1, hl1⟩ := hM.2.1.2.1.obj
  obtain ⟨m2, ar2, hl2⟩ := hM.2.1.2.2.1.obj
  obtain ⟨hsl, hfl, hsok⟩ := hM.2.1.2.2.2.1 i hi
  obtain ⟨s1, s2, s3, s4, s5, s6, s7, s8⟩ := id hsok
  obtain ⟨hkd, hkok⟩ := hM.2.1.2.2.2.2 j hj
  obtain ⟨k1, k2, k3, k4, k5, k6, k7, k8, k9⟩ := id hkok
  have ho : oTake y (nI i) (nI j) = (2, 0, y) := by unfold oTake; rw [if_pos (by rw [hri, hrj]; rfl), hiN, hjN, hfit]; exact if_neg hroom
  obtain ⟨H, hHe⟩ : ∃ z, z = s.heap := ⟨_, rfl⟩
  obtain ⟨locs, hLe⟩ : ∃ z : List Loc, z = [] := ⟨_, rfl⟩
  rw [← hHe, ← hLe]
  have hI : gI K A s G H locs := by rw [hHe, hLe]; exact hI
  clear hHe hLe
  refine lv_aload_n hx hb dX8_take_0 rfl (lv_at hl 0 rfl) ?_
  refine lv_iload_n hx hb dX8_take_1 rfl (lv_at hl 1 rfl) ?_
  refine lv_iload_n hx hb dX8_take_2 rfl (lv_at hl 2 rfl) ?_
  refine g_callV (As := [.int (nI i), .int (nI j)]) (rest := []) (b := h0) (n := 2) S hE hI hA (c_pairC l K _ L h0 th y N (nI i) (nI j) hM hri hrj) gX8_take_X8_isNoPair rfl (by decide +kernel) ⟨Nat.le_of_ble_eq_true rfl, Nat.le_of_ble_eq_true rfl⟩ (g_hro hE hI hM.1 rfl) rfl hl.1 rfl (Nat.le_of_ble_eq_true rfl) dX8_take_3 ⟨Nat.le_of_ble_eq_true rfl, Nat.le_of_ble_eq_true rfl⟩ (fun E ce q9 Gx H1 locs1 hx9 => hx9.elim) (fun rv Gc_3 H locs hp hI => ?_)
  obtain ⟨rfl, hM, hg9⟩ := hp
  have hag := hag.tr hg9
  have hM : MdC K L h0 0 Gc_3 y N := hM
  obtain ⟨m1, ar1, hl1⟩ := hM.2.1.2.1.obj
  obtain ⟨m2, ar2, hl2⟩ := hM.2.1.2.2.1.obj
  obtain ⟨hsl, hfl, hsok⟩ := hM.2.1.2.2.2.1 i hi
  obtain ⟨s1, s2, s3, s4, s5, s6, s7, s8⟩ := id hsok
  obtain ⟨hkd, hkok⟩ := hM.2.1.2.2.2.2 j hj
  obtain ⟨k1, k2, k3, k4, k5, k6, k7, k8, k9⟩ := id hkok
  refine W.eq (g2 := F0 m 6 ls [.int (bI false)]) rfl ?_
  refine lv_if_ne (tgt := 63) hx hb dX8_take_6 (by decide) (fun c_6 => ?_) (fun c_6 => ?_)
  · skip
    have c_6 : false = true := bI_1.mp c_6
    cases c_6
  · skip
    have c_6 : false = false := bI_0.mp c_6
    refine lv_aload_n hx hb dX8_take_9 rfl (lv_at hl 0 rfl) ?_
    refine lv_aload_n hx hb dX8_take_10 rfl (lv_at hl 0 rfl) ?_
    refine g_get S hE hI (C := RX8) (T := TX8) (N := 2) (ref := "StonecutterYardModel") (fun w h => (List.mem_cons_of_mem _ (List.mem_append_left _ (List.mem_append_left _ (List.mem_append_left _ (List.mem_append_left _ (List.mem_append_right _ h))))))) hM.1 rfl 1 (by decide) (List.mem_cons_of_mem _ (List.mem_append_left _ (List.mem_append_left _ (List.mem_append_left _ (List.mem_append_left _ (List.mem_append_left _ (List.mem_append_left _ (List.mem_of_getElem? (i := 0) rfl)))))))) (fun _ h9 => h9) (v := .ref (L 30 0)) rfl dX8_take_11 ?_
    refine g_get S hE hI (C := RX7) (T := TX7) (N := 3) (ref := "StonecutterYardModel$Yard") (fun w h => (List.mem_cons_of_mem _ (List.mem_append_left _ (List.mem_append_left _ (List.mem_append_left _ (List.mem_append_right _ h)))))) hM.2.1.1.1 rfl 1 (by decide) (List.mem_cons_of_mem _ (List.mem_append_left _ (List.mem_append_left _ (List.mem_append_left _ (List.mem_append_left _ (List.mem_append_left _ (List.mem_append_left _ (List.mem_of_getElem? (i := 1) rfl)))))))) (fun _ h9 => h9) (v := .ref (L 33 0)) rfl dX8_take_14 ?_
    refine lv_iload_n hx hb dX8_take_17 rfl (lv_at hl 2 rfl) ?_
    refine g_callV (As := [.int (nI j)]) (rest := [.ref h0]) (b := (L 33 0)) (n := 1) S hE hI hA (l_get l K _ (5, 33, 0) (tbL 5 34) (L 33 0) (yKc y) (L 38) j hM.2.1.2.2.1 hj) gX8_take_Jx4a65c_get_915e3 rfl (by decide +kernel) ⟨Nat.le_of_ble_eq_true rfl, Nat.le_of_ble_eq_true rfl⟩ (g_hro hE hI hl2 rfl) rfl hl.1 rfl (Nat.le_of_ble_eq_true rfl) dX8_take_18 ⟨Nat.le_of_ble_eq_true rfl, Nat.le_of_ble_eq_true rfl⟩ (fun E ce q9 Gx H1 locs1 hx9 => hx9.elim) (fun rv Gc_18 H locs hp hI => ?_)
    obtain ⟨rfl, hq9⟩ := hp
    rw [hq9] at hI
    refine W.eq (g2 := F0 m 21 ls [.ref (L 38 j), .ref h0]) rfl ?_
    refine g_cast S (List.mem_cons_of_mem _ (List.mem_append_left _ (List.mem_append_left _ (List.mem_append_left _ (List.mem_append_left _ (List.mem_append_left _ (List.mem_append_left _ (List.mem_of_getElem? (i := 2) rfl)))))))) (g_hro hE hI hkd rfl) dX8_take_21 ?_
    refine lv_aload_n hx hb dX8_take_24 rfl (lv_at hl 0 rfl) ?_
    refine lv_iload_n hx hb dX8_take_25 rfl (lv_at hl 1 rfl) ?_
    refine g_callV (As := [.int (nI i)]) (rest := [.ref (L 38 j), .ref h0]) (b := h0) (n := 1) S hE hI hA (c_X8_of l K _ L h0 0 y N i hM hi) gX8_take_X8_of rfl (by decide +kernel) ⟨Nat.le_of_ble_eq_true rfl, Nat.le_of_ble_eq_true rfl⟩ (g_hro hE hI hM.1 rfl) rfl hl.1 rfl (Nat.le_of_ble_eq_true rfl) dX8_take_26 ⟨Nat.le_of_ble_eq_true rfl, Nat.le_of_ble_eq_true rfl⟩ (fun E ce q9 Gx H1 locs1 hx9 => hx9.elim) (fun rv Gc_26 H locs hp hI => ?_)
    obtain ⟨rfl, hq9⟩ := hp
    rw [hq9] at hI
    refine W.eq (g2 := F0 m 29 ls [.ref (L 35 i), .ref (L 38 j), .ref h0]) rfl ?_
    refine g_callV (As := [.ref (L 35 i)]) (rest := [.ref h0]) (b := (L 38 j)) (n := 1) S hE hI hA (c_X5_fits l K _ (5, 38, j) (5, 35, i) (5, 36, i) (tbF 5 i) (L 38 j) (L 35 i) (yS y i) (yK y j) (L 36 i) N hkd hsl hfl hsok hkok) gX8_take_X5_fits rfl (by decide +kernel) ⟨Nat.le_of_ble_eq_true rfl, Nat.le_of_ble_eq_true rfl⟩ (g_hro hE hI hkd rfl) rfl hl.1 rfl (Nat.le_of_ble_eq_true rfl) dX8_take_29 ⟨Nat.le_of_ble_eq_true rfl, Nat.le_of_ble_eq_true rfl⟩ (fun E ce q9 Gx H1 locs1 hx9 => hx9.elim) (fun rv Gc_29 H locs hp hI => ?_)
    obtain ⟨rfl, hq9⟩ := hp
    rw [hq9] at hI
    rw [hfit]
    refine W.eq (g2 := F0 m 32 ls [.int (nI mn), .ref h0]) rfl ?_
    refine lv_iconst (v := (-1)) hx hb dX8_take_32 (by decide) ?_
    refine lv_icmp_eq (tgt := 51) hx hb dX8_take_33 (by decide) (fun c_33 => ?_) (fun c_33 => ?_)
    · skip
      exact absurd c_33 (nI_m1 (by omega))
    · skip
      refine lv_aload_n hx hb dX8_take_36 rfl (lv_at hl 0 rfl) ?_
      refine g_get S hE hI (C := RX8) (T := TX8) (N := 2) (ref := "StonecutterYardModel") (fun w h => (List.mem_cons_of_mem _ (List.mem_append_left _ (List.mem_append_left _ (List.mem_append_left _ (List.mem_append_left _ (List.mem_append_right _ h))))))) hM.1 rfl 1 (by decide) (List.mem_cons_of_mem _ (List.mem_append_left _ (List.mem_append_left _ (List.mem_append_left _ (List.mem_append_left _ (List.mem_append_left _ (List.mem_append_left _ (List.mem_of_getElem? (i := 0) rfl)))))))) (fun _ h9 => h9) (v := .ref (L 30 0)) rfl dX8_take_37 ?_
      refine g_get S hE hI (C := RX7) (T := TX7) (N := 3) (ref := "StonecutterYardModel$Yard") (fun w h => (List.mem_cons_of_mem _ (List.mem_append_left _ (List.mem_append_left _ (List.mem_append_left _ (List.mem_append_right _ h)))))) hM.2.1.1.1 rfl 0 (by decide) (List.mem_cons_of_mem _ (List.mem_append_left _ (List.mem_append_left _ (List.mem_append_left _ (List.mem_append_left _ (List.mem_append_left _ (List.mem_append_left _ (List.mem_of_getElem? (i := 3) rfl)))))))) (fun _ h9 => h9) (v := .ref (L 31 0)) rfl dX8_take_40 ?_
      refine g_callV (As := []) (rest := [.ref h0]) (b := (L 31 0)) (n := 0) S hE hI hA (l_size l K _ (5, 31, 0) (tbL 5 32) (L 31 0) (ySc y) (L 35) hM.2.1.2.1) gX8_take_Jx4a65c_size_8abf5 rfl (by decide +kernel) ⟨Nat.le_of_ble_eq_true rfl, Nat.le_of_ble_eq_true rfl⟩ (g_hro hE hI hl1 rfl) rfl hl.1 rfl (Nat.le_of_ble_eq_true rfl) dX8_take_43 ⟨Nat.le_of_ble_eq_true rfl, Nat.le_of_ble_eq_true rfl⟩ (fun E ce q9 Gx H1 locs1 hx9 => hx9.elim) (fun rv Gc_43 H locs hp hI => ?_)
      obtain ⟨rfl, hq9⟩ := hp
      rw [hq9] at hI
      refine W.eq (g2 := F0 m 46 ls [.int (nI (ySc y)), .ref h0]) rfl ?_
      refine lv_bipush (v := nI 36) hx hb dX8_take_46 (by decide) ?_
      refine lv_icmp_le (tgt := 55) hx hb dX8_take_48 (by decide) (fun c_48 => ?_) (fun c_48 => ?_)
      · skip
        have c_48 : (ySc y) ≤ 36 := (nI_leI (a := (ySc y)) (b := 36) (by omega) (by omega)).mp c_48
        exact absurd c_48 hroom
      · skip
        have c_48 : 36 < (ySc y) := Nat.not_le.mp (fun z => c_48 ((nI_leI (a := (ySc y)) (b := 36) (by omega) (by omega)).mpr z))
        refine lv_iconst (v := nI 1) hx hb dX8_take_51 (by decide) ?_
        refine lv_goto (tgt := 56) hx hb dX8_take_52 (by decide) ?_
        refine lv_iconst (v := nI 2) hx hb dX8_take_56 (by decide) ?_
        refine g_callV (As := [.int (nI 1), .int (nI 2)]) (rest := []) (b := h0) (n := 2) S hE hI hA (c_ref l K _ L h0 y N true 2 hM (by decide)) gX8_take_X8_refuse rfl (by decide +kernel) ⟨Nat.le_of_ble_eq_true rfl, Nat.le_of_ble_eq_true rfl⟩ (g_hro hE hI hM.1 rfl) rfl hl.1 rfl (Nat.le_of_ble_eq_true rfl) dX8_take_57 ⟨Nat.le_of_ble_eq_true rfl, Nat.le_of_ble_eq_true rfl⟩ (fun E ce q9 Gx H1 locs1 hx9 => hx9.elim) (fun rv Gc_57 H locs hp hI => ?_)
        obtain ⟨rfl, hM, hg9⟩ := hp
        have hag := hag.tr hg9
        have hM : MdC K L h0 2 Gc_57 y N := hM
        obtain ⟨m1, ar1, hl1⟩ := hM.2.1.2.1.obj
        obtain ⟨m2, ar2, hl2⟩ := hM.2.1.2.2.1.obj
        obtain ⟨hsl, hfl, hsok⟩ := hM.2.1.2.2.2.1 i hi
        obtain ⟨s1, s2, s3, s4, s5, s6, s7, s8⟩ := id hsok
        obtain ⟨hkd, hkok⟩ := hM.2.1.2.2.2.2 j hj
        obtain ⟨k1, k2, k3, k4, k5, k6, k7, k8, k9⟩ := id hkok
        refine W.eq (g2 := F0 m 60 ls [.int (bI true)]) rfl ?_
        refine lv_if_eq (tgt := 65) hx hb dX8_take_60 (by decide) (fun c_60 => ?_) (fun c_60 => ?_)
        · skip
          have c_60 : true = false := bI_0.mp c_60
          cases c_60
        · skip
          have c_60 : true = true := bI_1.mp c_60
          refine lv_iconst (v := nI 0) hx hb dX8_take_63 (by decide) ?_
          exact g_iret S hI hr hlocks (Nat.zero_le _) (Nat.zero_le _) dX8_take_64 (mThrow ho (by decide) hM hag)
set_option maxHeartbeats 4000000 in
set_option maxRecDepth 100000 in
/-- X8_take: takeE -/
theorem m_takeE (l : Launch) (K : gK) (G : gW) (L : Nat → Nat → Nat) (h0 th : Nat) (y : YV) (N : Nat) (i j mn : Nat) (hM : MdC K L h0 th G y N) (hi : i < ySc y) (hj : j < yKc y) (hfit : sFits (yS y i) (yK y j) = some mn) (hroom : ySc y ≤ 36) : gM l yX8_take wsX8_take 10 228 48 540 K [.ref h0, .int (nI i), .int (nI j)] G (mPost K h0 G (oTake y (nI i) (nI j))) (gNo) := by
  refine gM.of (cc := cX8_take) (maxL := 3) (ret := (some .int)) (by decide) rfl (Nat.le_of_ble_eq_true rfl) ?_
  intro p e s m below meth c A S hr hlocks htab hname hE hA hI ls hl
  have hx := S.1
  have hb := S.2.1
  have hml := S.2.2.1
  have hl : lv_has ls 3 [(0, .ref h0), (1, .int (nI i)), (2, .int (nI j))] := hl
  have h44 := hM.2.1.1.2.2.1
  have h6 := hM.2.1.1.2.2.2
  have hf2 := hM.2.1.1.2.1
  have h40 := hM.2.2.2
  have hth := hM.2.2.1
  have hag : AgM G G := AgM.rf
  have hri : inR (nI i) (ySc y) = true := inR_nI hi (by omega)
  have hiN : iN (nI i) = i := iN_nI (by omega)
  have hrj : inR (nI j) (yKc y) = true := inR_nI hj (by omega)
  have hjN : iN (nI j) = j := iN_nI (by omega)
  have hmn := sFits_lt hfit
  obtain ⟨m1, ar1, hl1⟩ := hM.2.1.2.1.obj
  obtain ⟨m2, ar2, hl2⟩ := hM.2.1.2.2.1.obj
  obtain ⟨hsl, hfl, hsok⟩ := hM.2.1.2.2.2.1 i hi
  obtain ⟨s1, s2, s3, s4, s5, s6, s7, s8⟩ := id hsok
  obtain ⟨hkd, hkok⟩ := hM.2.1.2.2.2.2 j hj
  obtain ⟨k1, k2, k3, k4, k5, k6, k7, k8, k9⟩ := id hkok
  obtain ⟨d9, hd9⟩ : ∃ d9, ySc (yTake y i j mn) = ySc y + d9 := ⟨_, (Nat.add_sub_cancel' yTake_ge).symm⟩
  have hd4 : d9 ≤ 4 := by have h9 := yTake_le (y := y) (i := i) (j := j) (mn := mn); omega
  have ho : oTake y (nI i) (nI j) = (0, nI (sellP (yK y j)), yTake y i j mn) := by unfold oTake; rw [if_pos (by rw [hri, hrj]; rfl), hiN, hjN, hfit]; exact if_pos hroom
  obtain ⟨H, hHe⟩ : ∃ z, z = s.heap := ⟨_, rfl⟩
  obtain ⟨locs, hLe⟩ : ∃ z : List Loc, z = [] := ⟨_, rfl⟩
  rw [← hHe, ← hLe]
  have hI : gI K A s G H locs := by rw [hHe, hLe]; exact hI
  clear hHe hLe
  refine lv_aload_n hx hb dX8_take_0 rfl (lv_at hl 0 rfl) ?_
  refine lv_iload_n hx hb dX8_take_1 rfl (lv_at hl 1 rfl) ?_
  refine lv_iload_n hx hb dX8_take_2 rfl (lv_at hl 2 rfl) ?_
  refine g_callV (As := [.int (nI i), .int (nI j)]) (rest := []) (b := h0) (n := 2) S hE hI hA (c_pairC l K _ L h0 th y N (nI i) (nI j) hM hri hrj) gX8_take_X8_isNoPair rfl (by decide +kernel) ⟨Nat.le_of_ble_eq_true rfl, Nat.le_of_ble_eq_true rfl⟩ (g_hro hE hI hM.1 rfl) rfl hl.1 rfl (Nat.le_of_ble_eq_true rfl) dX8_take_3 ⟨Nat.le_of_ble_eq_true rfl, Nat.le_of_ble_eq_true rfl⟩ (fun E ce q9 Gx H1 locs1 hx9 => hx9.elim) (fun rv Gc_3 H locs hp hI => ?_)
  obtain ⟨rfl, hM, hg9⟩ := hp
  have hag := hag.tr hg9
  have hM : MdC K L h0 0 Gc_3 y N := hM
  obtain ⟨m1, ar1, hl1⟩ := hM.2.1.2.1.obj
  obtain ⟨m2, ar2, hl2⟩ := hM.2.1.2.2.1.obj
  obtain ⟨hsl, hfl, hsok⟩ := hM.2.1.2.2.2.1 i hi
  obtain ⟨s1, s2, s3, s4, s5, s6, s7, s8⟩ := id hsok
  obtain ⟨hkd, hkok⟩ := hM.2.1.2.2.2.2 j hj
  obtain ⟨k1, k2, k3, k4, k5, k6, k7, k8, k9⟩ := id hkok
  refine W.eq (g2 := F0 m 6 ls [.int (bI false)]) rfl ?_
  refine lv_if_ne (tgt := 63) hx hb dX8_take_6 (by decide) (fun c_6 => ?_) (fun c_6 => ?_)
  · skip
    have c_6 : false = true := bI_1.mp c_6
    cases c_6
  · skip
    have c_6 : false = false := bI_0.mp c_6
    refine lv_aload_n hx hb dX8_take_9 rfl (lv_at hl 0 rfl) ?_
    refine lv_aload_n hx hb dX8_take_10 rfl (lv_at hl 0 rfl) ?_
    refine g_get S hE hI (C := RX8) (T := TX8) (N := 2) (ref := "StonecutterYardModel") (fun w h => (List.mem_cons_of_mem _ (List.mem_append_left _ (List.mem_append_left _ (List.mem_append_left _ (List.mem_append_left _ (List.mem_append_right _ h))))))) hM.1 rfl 1 (by decide) (List.mem_cons_of_mem _ (List.mem_append_left _ (List.mem_append_left _ (List.mem_append_left _ (List.mem_append_left _ (List.mem_append_left _ (List.mem_append_left _ (List.mem_of_getElem? (i := 0) rfl)))))))) (fun _ h9 => h9) (v := .ref (L 30 0)) rfl dX8_take_11 ?_
    refine g_get S hE hI (C := RX7) (T := TX7) (N := 3) (ref := "StonecutterYardModel$Yard") (fun w h => (List.mem_cons_of_mem _ (List.mem_append_left _ (List.mem_append_left _ (List.mem_append_left _ (List.mem_append_right _ h)))))) hM.2.1.1.1 rfl 1 (by decide) (List.mem_cons_of_mem _ (List.mem_append_left _ (List.mem_append_left _ (List.mem_append_left _ (List.mem_append_left _ (List.mem_append_left _ (List.mem_append_left _ (List.mem_of_getElem? (i := 1) rfl)))))))) (fun _ h9 => h9) (v := .ref (L 33 0)) rfl dX8_take_14 ?_
    refine lv_iload_n hx hb dX8_take_17 rfl (lv_at hl 2 rfl) ?_
    refine g_callV (As := [.int (nI j)]) (rest := [.ref h0]) (b := (L 33 0)) (n := 1) S hE hI hA (l_get l K _ (5, 33, 0) (tbL 5 34) (L 33 0) (yKc y) (L 38) j hM.2.1.2.2.1 hj) gX8_take_Jx4a65c_get_915e3 rfl (by decide +kernel) ⟨Nat.le_of_ble_eq_true rfl, Nat.le_of_ble_eq_true rfl⟩ (g_hro hE hI hl2 rfl) rfl hl.1 rfl (Nat.le_of_ble_eq_true rfl) dX8_take_18 ⟨Nat.le_of_ble_eq_true rfl, Nat.le_of_ble_eq_true rfl⟩ (fun E ce q9 Gx H1 locs1 hx9 => hx9.elim) (fun rv Gc_18 H locs hp hI => ?_)
    obtain ⟨rfl, hq9⟩ := hp
    rw [hq9] at hI
    refine W.eq (g2 := F0 m 21 ls [.ref (L 38 j), .ref h0]) rfl ?_
    refine g_cast S (List.mem_cons_of_mem _ (List.mem_append_left _ (List.mem_append_left _ (List.mem_append_left _ (List.mem_append_left _ (List.mem_append_left _ (List.mem_append_left _ (List.mem_of_getElem? (i := 2) rfl)))))))) (g_hro hE hI hkd rfl) dX8_take_21 ?_
    refine lv_aload_n hx hb dX8_take_24 rfl (lv_at hl 0 rfl) ?_
    refine lv_iload_n hx hb dX8_take_25 rfl (lv_at hl 1 rfl) ?_
    refine g_callV (As := [.int (nI i)]) (rest := [.ref (L 38 j), .ref h0]) (b := h0) (n := 1) S hE hI hA (c_X8_of l K _ L h0 0 y N i hM hi) gX8_take_X8_of rfl (by decide +kernel) ⟨Nat.le_of_ble_eq_true rfl, Nat.le_of_ble_eq_true rfl⟩ (g_hro hE hI hM.1 rfl) rfl hl.1 rfl (Nat.le_of_ble_eq_true rfl) dX8_take_26 ⟨Nat.le_of_ble_eq_true rfl, Nat.le_of_ble_eq_true rfl⟩ (fun E ce q9 Gx H1 locs1 hx9 => hx9.elim) (fun rv Gc_26 H locs hp hI => ?_)
    obtain ⟨rfl, hq9⟩ := hp
    rw [hq9] at hI
    refine W.eq (g2 := F0 m 29 ls [.ref (L 35 i), .ref (L 38 j), .ref h0]) rfl ?_
    refine g_callV (As := [.ref (L 35 i)]) (rest := [.ref h0]) (b := (L 38 j)) (n := 1) S hE hI hA (c_X5_fits l K _ (5, 38, j) (5, 35, i) (5, 36, i) (tbF 5 i) (L 38 j) (L 35 i) (yS y i) (yK y j) (L 36 i) N hkd hsl hfl hsok hkok) gX8_take_X5_fits rfl (by decide +kernel) ⟨Nat.le_of_ble_eq_true rfl, Nat.le_of_ble_eq_true rfl⟩ (g_hro hE hI hkd rfl) rfl hl.1 rfl (Nat.le_of_ble_eq_true rfl) dX8_take_29 ⟨Nat.le_of_ble_eq_true rfl, Nat.le_of_ble_eq_true rfl⟩ (fun E ce q9 Gx H1 locs1 hx9 => hx9.elim) (fun rv Gc_29 H locs hp hI => ?_)
    obtain ⟨rfl, hq9⟩ := hp
    rw [hq9] at hI
    rw [hfit]
    refine W.eq (g2 := F0 m 32 ls [.int (nI mn), .ref h0]) rfl ?_
    refine lv_iconst (v := (-1)) hx hb dX8_take_32 (by decide) ?_
    refine lv_icmp_eq (tgt := 51) hx hb dX8_take_33 (by decide) (fun c_33 => ?_) (fun c_33 => ?_)
    · skip
      exact absurd c_33 (nI_m1 (by omega))
    · skip
      refine lv_aload_n hx hb dX8_take_36 rfl (lv_at hl 0 rfl) ?_
      refine g_get S hE hI (C := RX8) (T := TX8) (N := 2) (ref := "StonecutterYardModel") (fun w h => (List.mem_cons_of_mem _ (List.mem_append_left _ (List.mem_append_left _ (List.mem_append_left _ (List.mem_append_left _ (List.mem_append_right _ h))))))) hM.1 rfl 1 (by decide) (List.mem_cons_of_mem _ (List.mem_append_left _ (List.mem_append_left _ (List.mem_append_left _ (List.mem_append_left _ (List.mem_append_left _ (List.mem_append_left _ (List.mem_of_getElem? (i := 0) rfl)))))))) (fun _ h9 => h9) (v := .ref (L 30 0)) rfl dX8_take_37 ?_
      refine g_get S hE hI (C := RX7) (T := TX7) (N := 3) (ref := "StonecutterYardModel$Yard") (fun w h => (List.mem_cons_of_mem _ (List.mem_append_left _ (List.mem_append_left _ (List.mem_append_left _ (List.mem_append_right _ h)))))) hM.2.1.1.1 rfl 0 (by decide) (List.mem_cons_of_mem _ (List.mem_append_left _ (List.mem_append_left _ (List.mem_append_left _ (List.mem_append_left _ (List.mem_append_left _ (List.mem_append_left _ (List.mem_of_getElem? (i := 3) rfl)))))))) (fun _ h9 => h9) (v := .ref (L 31 0)) rfl dX8_take_40 ?_
      refine g_callV (As := []) (rest := [.ref h0]) (b := (L 31 0)) (n := 0) S hE hI hA (l_size l K _ (5, 31, 0) (tbL 5 32) (L 31 0) (ySc y) (L 35) hM.2.1.2.1) gX8_take_Jx4a65c_size_8abf5 rfl (by decide +kernel) ⟨Nat.le_of_ble_eq_true rfl, Nat.le_of_ble_eq_true rfl⟩ (g_hro hE hI hl1 rfl) rfl hl.1 rfl (Nat.le_of_ble_eq_true rfl) dX8_take_43 ⟨Nat.le_of_ble_eq_true rfl, Nat.le_of_ble_eq_true rfl⟩ (fun E ce q9 Gx H1 locs1 hx9 => hx9.elim) (fun rv Gc_43 H locs hp hI => ?_)
      obtain ⟨rfl, hq9⟩ := hp
      rw [hq9] at hI
      refine W.eq (g2 := F0 m 46 ls [.int (nI (ySc y)), .ref h0]) rfl ?_
      refine lv_bipush (v := nI 36) hx hb dX8_take_46 (by decide) ?_
      refine lv_icmp_le (tgt := 55) hx hb dX8_take_48 (by decide) (fun c_48 => ?_) (fun c_48 => ?_)
      · skip
        have c_48 : (ySc y) ≤ 36 := (nI_leI (a := (ySc y)) (b := 36) (by omega) (by omega)).mp c_48
        refine lv_iconst (v := nI 0) hx hb dX8_take_55 (by decide) ?_
        refine lv_iconst (v := nI 2) hx hb dX8_take_56 (by decide) ?_
        refine g_callV (As := [.int (nI 0), .int (nI 2)]) (rest := []) (b := h0) (n := 2) S hE hI hA (c_ref l K _ L h0 y N false 2 hM (by decide)) gX8_take_X8_refuse rfl (by decide +kernel) ⟨Nat.le_of_ble_eq_true rfl, Nat.le_of_ble_eq_true rfl⟩ (g_hro hE hI hM.1 rfl) rfl hl.1 rfl (Nat.le_of_ble_eq_true rfl) dX8_take_57 ⟨Nat.le_of_ble_eq_true rfl, Nat.le_of_ble_eq_true rfl⟩ (fun E ce q9 Gx H1 locs1 hx9 => hx9.elim) (fun rv Gc_57 H locs hp hI => ?_)
        obtain ⟨rfl, hM, hg9⟩ := hp
        have hag := hag.tr hg9
        have hM : MdC K L h0 0 Gc_57 y N := hM
        obtain ⟨m1, ar1, hl1⟩ := hM.2.1.2.1.obj
        obtain ⟨m2, ar2, hl2⟩ := hM.2.1.2.2.1.obj
        obtain ⟨hsl, hfl, hsok⟩ := hM.2.1.2.2.2.1 i hi
        obtain ⟨s1, s2, s3, s4, s5, s6, s7, s8⟩ := id hsok
        obtain ⟨hkd, hkok⟩ := hM.2.1.2.2.2.2 j hj
        obtain ⟨k1, k2, k3, k4, k5, k6, k7, k8, k9⟩ := id hkok
        refine W.eq (g2 := F0 m 60 ls [.int (bI false)]) rfl ?_
        refine lv_if_eq (tgt := 65) hx hb dX8_take_60 (by decide) (fun c_60 => ?_) (fun c_60 => ?_)
        · skip
          have c_60 : false = false := bI_0.mp c_60
          refine lv_aload_n hx hb dX8_take_65 rfl (lv_at hl 0 rfl) ?_
          refine g_get S hE hI (C := RX8) (T := TX8) (N := 2) (ref := "StonecutterYardModel") (fun w h => (List.mem_cons_of_mem _ (List.mem_append_left _ (List.mem_append_left _ (List.mem_append_left _ (List.mem_append_left _ (List.mem_append_right _ h))))))) hM.1 rfl 1 (by decide) (List.mem_cons_of_mem _ (List.mem_append_left _ (List.mem_append_left _ (List.mem_append_left _ (List.mem_append_left _ (List.mem_append_left _ (List.mem_append_left _ (List.mem_of_getElem? (i := 0) rfl)))))))) (fun _ h9 => h9) (v := .ref (L 30 0)) rfl dX8_take_66 ?_
          refine lv_iload_n hx hb dX8_take_69 rfl (lv_at hl 1 rfl) ?_
          refine lv_iload_n hx hb dX8_take_70 rfl (lv_at hl 2 rfl) ?_
          refine g_callV (As := [.int (nI i), .int (nI j)]) (rest := []) (b := (L 30 0)) (n := 2) S hE hI hA (c_X7_take l K _ 5 L y N i j mn d9 hM.2.1 hi hj hfit (by omega) (by decide) hd9) gX8_take_X7_take rfl (by decide +kernel) ⟨Nat.le_of_ble_eq_true rfl, Nat.le_of_ble_eq_true rfl⟩ (g_hro hE hI hM.2.1.1.1 rfl) rfl hl.1 rfl (Nat.le_of_ble_eq_true rfl) dX8_take_71 ⟨by show _ ≤ 48; omega, by show _ ≤ 540; omega⟩ (fun E ce q9 Gx H1 locs1 hx9 => hx9.elim) (fun rv Gc_71 H locs hp hI => ?_)
          obtain ⟨L2, N2, rfl, hMY, hN2, hL2, hfr⟩ := hp
          refine W.eq (g2 := F0 m 74 ls [.int (nI (sellP (yK y j)))]) rfl ?_
          exact g_iret S hI hr hlocks (by omega) (by omega) dX8_take_74 (mOk ho ⟨by rw [hL2.y]; exact hfr.mo.trans hM.1, hMY, by decide, by omega⟩ (hag.tr hfr.ag))
        · skip
          have c_60 : false = true := bI_1.mp c_60
          cases c_60
      · skip
        have c_48 : 36 < (ySc y) := Nat.not_le.mp (fun z => c_48 ((nI_leI (a := (ySc y)) (b := 36) (by omega) (by omega)).mpr z))
        exact absurd c_48 (by omega)
set_option maxHeartbeats 4000000 in
set_option maxRecDepth 100000 in
/-- X8_plan: planA -/
theorem m_planA (l : Launch) (K : gK) (G : gW) (L : Nat → Nat → Nat) (h0 th : Nat) (y : YV) (N : Nat) (x : Int32) (hM : MdC K L h0 th G y N) (hn9 : inB x 1 20 = false) : gM l yX8_plan wsX8_plan 12 274 480 5400 K [.ref h0, .int x] G (mPost K h0 G (oPlan y x)) (gNo) := by
  refine gM.of (cc := cX8_plan) (maxL := 2) (ret := (some .int)) (by decide) rfl (Nat.le_of_ble_eq_true rfl) ?_
  intro p e s m below meth c A S hr hlocks htab hname hE hA hI ls hl
  have hx := S.1
  have hb := S.2.1
  have hml := S.2.2.1
  have hl : lv_has ls 2 [(0, .ref h0), (1, .int x)] := hl
  have h44 := hM.2.1.1.2.2.1
  have h6 := hM.2.1.1.2.2.2
  have hf2 := hM.2.1.1.2.1
  have h40 := hM.2.2.2
  have hth := hM.2.2.1
  have hag : AgM G G := AgM.rf
  obtain ⟨m1, ar1, hl1⟩ := hM.2.1.2.1.obj
  obtain ⟨m2, ar2, hl2⟩ := hM.2.1.2.2.1.obj
  have ho : oPlan y x = (1, 0, y) := by unfold oPlan; rw [if_neg (by rw [hn9]; decide)]
  obtain ⟨H, hHe⟩ : ∃ z, z = s.heap := ⟨_, rfl⟩
  obtain ⟨locs, hLe⟩ : ∃ z : List Loc, z = [] := ⟨_, rfl⟩
  rw [← hHe, ← hLe]
  have hI : gI K A s G H locs := by rw [hHe, hLe]; exact hI
  clear hHe hLe
  refine lv_aload_n hx hb dX8_plan_0 rfl (lv_at hl 0 rfl) ?_
  refine lv_iload_n hx hb dX8_plan_1 rfl (lv_at hl 1 rfl) ?_
  refine lv_iconst (v := nI 1) hx hb dX8_plan_2 (by decide) ?_
  refine lv_bipush (v := nI 20) hx hb dX8_plan_3 (by decide) ?_
  refine g_callS (As := [.int x, .int (nI 1), .int (nI 20)]) (rest := [.ref h0]) (n := 3) S hE hI hA (c_X8_isIn l K _ x (nI 1) (nI 20)) gX8_plan_X8_isIn rfl (by decide +kernel) ⟨Nat.le_of_ble_eq_true rfl, Nat.le_of_ble_eq_true rfl⟩ rfl hl.1 rfl (Nat.le_of_ble_eq_true rfl) dX8_plan_5 ⟨Nat.le_of_ble_eq_true rfl, Nat.le_of_ble_eq_true rfl⟩ (fun E ce q9 Gx H1 locs1 hx9 => hx9.elim) (fun rv Gc_5 H locs hp hI => ?_)
  obtain ⟨rfl, hq9⟩ := hp
  rw [hq9] at hI
  rw [isI_inB (by decide) (by decide)]
  rw [hn9]
  refine W.eq (g2 := F0 m 8 ls [.int (bI false), .ref h0]) rfl ?_
  refine lv_if_ne (tgt := 15) hx hb dX8_plan_8 (by decide) (fun c_8 => ?_) (fun c_8 => ?_)
  · skip
    have c_8 : false = true := bI_1.mp c_8
    cases c_8
  · skip
    have c_8 : false = false := bI_0.mp c_8
    refine lv_iconst (v := nI 1) hx hb dX8_plan_11 (by decide) ?_
    refine lv_goto (tgt := 16) hx hb dX8_plan_12 (by decide) ?_
    refine lv_iconst (v := nI 1) hx hb dX8_plan_16 (by decide) ?_
    refine g_callV (As := [.int (nI 1), .int (nI 1)]) (rest := []) (b := h0) (n := 2) S hE hI hA (c_start l K _ L h0 th y N true 1 hM (by decide)) gX8_plan_X8_start rfl (by decide +kernel) ⟨Nat.le_of_ble_eq_true rfl, Nat.le_of_ble_eq_true rfl⟩ (g_hro hE hI hM.1 rfl) rfl hl.1 rfl (Nat.le_of_ble_eq_true rfl) dX8_plan_17 ⟨Nat.le_of_ble_eq_true rfl, Nat.le_of_ble_eq_true rfl⟩ (fun E ce q9 Gx H1 locs1 hx9 => hx9.elim) (fun rv Gc_17 H locs hp hI => ?_)
    obtain ⟨rfl, hM, hg9⟩ := hp
    have hag := hag.tr hg9
    have hM : MdC K L h0 1 Gc_17 y N := hM
    obtain ⟨m1, ar1, hl1⟩ := hM.2.1.2.1.obj
    obtain ⟨m2, ar2, hl2⟩ := hM.2.1.2.2.1.obj
    refine W.eq (g2 := F0 m 20 ls [.int (bI true)]) rfl ?_
    refine lv_if_eq (tgt := 27) hx hb dX8_plan_20 (by decide) (fun c_20 => ?_) (fun c_20 => ?_)
    · skip
      have c_20 : true = false := bI_0.mp c_20
      cases c_20
    · skip
      have c_20 : true = true := bI_1.mp c_20
      refine lv_iconst (v := nI 0) hx hb dX8_plan_23 (by decide) ?_
      refine lv_goto (tgt := 35) hx hb dX8_plan_24 (by decide) ?_
      exact g_iret S hI hr hlocks (Nat.zero_le _) (Nat.zero_le _) dX8_plan_35 (mThrow ho (by decide) hM hag)
set_option maxHeartbeats 4000000 in
set_option maxRecDepth 100000 in
/-- X8_plan: planB -/
theorem m_planB (l : Launch) (K : gK) (G : gW) (L : Nat → Nat → Nat) (h0 th : Nat) (y : YV) (N : Nat) (n9 : Nat) (hM : MdC K L h0 th G y N) (hn9 : 1 ≤ n9 ∧ n9 ≤ 20) : gM l yX8_plan wsX8_plan 12 274 480 5400 K [.ref h0, .int (nI n9)] G (mPost K h0 G (oPlan y (nI n9))) (gNo) := by
  refine gM.of (cc := cX8_plan) (maxL := 2) (ret := (some .int)) (by decide) rfl (Nat.le_of_ble_eq_true rfl) ?_
  intro p e s m below meth c A S hr hlocks htab hname hE hA hI ls hl
  have hx := S.1
  have hb := S.2.1
  have hml := S.2.2.1
  have hl : lv_has ls 2 [(0, .ref h0), (1, .int (nI n9))] := hl
  have h44 := hM.2.1.1.2.2.1
  have h6 := hM.2.1.1.2.2.2
  have hf2 := hM.2.1.1.2.1
  have h40 := hM.2.2.2
  have hth := hM.2.2.1
  have hag : AgM G G := AgM.rf
  obtain ⟨m1, ar1, hl1⟩ := hM.2.1.2.1.obj
  obtain ⟨m2, ar2, hl2⟩ := hM.2.1.2.2.1.obj
  obtain ⟨d9, hd9⟩ : ∃ d9, ySc (yPlan n9 y).2 = ySc y + d9 := ⟨_, (Nat.add_sub_cancel' yPlan_ge).symm⟩
  have hd40 : ySc (yPlan n9 y).2 ≤ 40 := yPlan_40 h40
  have hx1 : inB (nI n9) 1 20 = true := by rw [inB_nI (by omega)]; exact decide_eq_true (by omega)
  have ho : oPlan y (nI n9) = (0, nI (yPlan n9 y).1, (yPlan n9 y).2) := by unfold oPlan; rw [if_pos (by rw [inB_nI (by omega)]; exact decide_eq_true (by omega)), iN_nI (by omega)]
  obtain ⟨H, hHe⟩ : ∃ z, z = s.heap := ⟨_, rfl⟩
  obtain ⟨locs, hLe⟩ : ∃ z : List Loc, z = [] := ⟨_, rfl⟩
  rw [← hHe, ← hLe]
  have hI : gI K A s G H locs := by rw [hHe, hLe]; exact hI
  clear hHe hLe
  refine lv_aload_n hx hb dX8_plan_0 rfl (lv_at hl 0 rfl) ?_
  refine lv_iload_n hx hb dX8_plan_1 rfl (lv_at hl 1 rfl) ?_
  refine lv_iconst (v := nI 1) hx hb dX8_plan_2 (by decide) ?_
  refine lv_bipush (v := nI 20) hx hb dX8_plan_3 (by decide) ?_
  refine g_callS (As := [.int (nI n9), .int (nI 1), .int (nI 20)]) (rest := [.ref h0]) (n := 3) S hE hI hA (c_X8_isIn l K _ (nI n9) (nI 1) (nI 20)) gX8_plan_X8_isIn rfl (by decide +kernel) ⟨Nat.le_of_ble_eq_true rfl, Nat.le_of_ble_eq_true rfl⟩ rfl hl.1 rfl (Nat.le_of_ble_eq_true rfl) dX8_plan_5 ⟨Nat.le_of_ble_eq_true rfl, Nat.le_of_ble_eq_true rfl⟩ (fun E ce q9 Gx H1 locs1 hx9 => hx9.elim) (fun rv Gc_5 H locs hp hI => ?_)
  obtain ⟨rfl, hq9⟩ := hp
  rw [hq9] at hI
  rw [isI_inB (by decide) (by decide)]
  rw [hx1]
  refine W.eq (g2 := F0 m 8 ls [.int (bI true), .ref h0]) rfl ?_
  refine lv_if_ne (tgt := 15) hx hb dX8_plan_8 (by decide) (fun c_8 => ?_) (fun c_8 => ?_)
  · skip
    have c_8 : true = true := bI_1.mp c_8
    refine lv_iconst (v := nI 0) hx hb dX8_plan_15 (by decide) ?_
    refine lv_iconst (v := nI 1) hx hb dX8_plan_16 (by decide) ?_
    refine g_callV (As := [.int (nI 0), .int (nI 1)]) (rest := []) (b := h0) (n := 2) S hE hI hA (c_start l K _ L h0 th y N false 1 hM (by decide)) gX8_plan_X8_start rfl (by decide +kernel) ⟨Nat.le_of_ble_eq_true rfl, Nat.le_of_ble_eq_true rfl⟩ (g_hro hE hI hM.1 rfl) rfl hl.1 rfl (Nat.le_of_ble_eq_true rfl) dX8_plan_17 ⟨Nat.le_of_ble_eq_true rfl, Nat.le_of_ble_eq_true rfl⟩ (fun E ce q9 Gx H1 locs1 hx9 => hx9.elim) (fun rv Gc_17 H locs hp hI => ?_)
    obtain ⟨rfl, hM, hg9⟩ := hp
    have hag := hag.tr hg9
    have hM : MdC K L h0 0 Gc_17 y N := hM
    obtain ⟨m1, ar1, hl1⟩ := hM.2.1.2.1.obj
    obtain ⟨m2, ar2, hl2⟩ := hM.2.1.2.2.1.obj
    refine W.eq (g2 := F0 m 20 ls [.int (bI false)]) rfl ?_
    refine lv_if_eq (tgt := 27) hx hb dX8_plan_20 (by decide) (fun c_20 => ?_) (fun c_20 => ?_)
    · skip
      have c_20 : false = false := bI_0.mp c_20
      refine lv_aload_n hx hb dX8_plan_27 rfl (lv_at hl 0 rfl) ?_
      refine g_get S hE hI (C := RX8) (T := TX8) (N := 2) (ref := "StonecutterYardModel") (fun w h => (List.mem_cons_of_mem _ (List.mem_append_left _ (List.mem_append_left _ (List.mem_append_left _ (List.mem_append_left _ (List.mem_append_right _ h))))))) hM.1 rfl 1 (by decide) (List.mem_cons_of_mem _ (List.mem_append_left _ (List.mem_append_left _ (List.mem_append_left _ (List.mem_append_left _ (List.mem_append_left _ (List.mem_append_left _ (List.mem_of_getElem? (i := 0) rfl)))))))) (fun _ h9 => h9) (v := .ref (L 30 0)) rfl dX8_plan_28 ?_
      refine lv_iload_n hx hb dX8_plan_31 rfl (lv_at hl 1 rfl) ?_
      refine g_callV (As := [.int (nI n9)]) (rest := []) (b := (L 30 0)) (n := 1) S hE hI hA (c_X7_plan l K _ 5 L y N n9 d9 hM.2.1 (by decide) (by omega) hd9) gX8_plan_X7_plan rfl (by decide +kernel) ⟨Nat.le_of_ble_eq_true rfl, Nat.le_of_ble_eq_true rfl⟩ (g_hro hE hI hM.2.1.1.1 rfl) rfl hl.1 rfl (Nat.le_of_ble_eq_true rfl) dX8_plan_32 ⟨by show _ ≤ 480; omega, by show _ ≤ 5400; omega⟩ (fun E ce q9 Gx H1 locs1 hx9 => hx9.elim) (fun rv Gc_32 H locs hp hI => ?_)
      obtain ⟨L2, N2, rfl, hMY, hN2, hL2, hfr⟩ := hp
      refine W.eq (g2 := F0 m 35 ls [.int (nI ((yPlan n9 y).1))]) rfl ?_
      exact g_iret S hI hr hlocks (by omega) (by omega) dX8_plan_35 (mOk ho ⟨by rw [hL2.y]; exact hfr.mo.trans hM.1, hMY, by decide, hd40⟩ (hag.tr hfr.ag))
    · skip
      have c_20 : false = true := bI_1.mp c_20
      cases c_20
  · skip
    have c_8 : true = false := bI_0.mp c_8
    cases c_8
set_option maxHeartbeats 4000000 in
set_option maxRecDepth 100000 in
/-- X8_worth: worthA -/
theorem m_worthA (l : Launch) (K : gK) (G : gW) (L : Nat → Nat → Nat) (h0 th : Nat) (y : YV) (N : Nat) (w h g : Int32) (hM : MdC K L h0 th G y N) (hp9 : inP w h g = false) : gM l yX8_worth wsX8_worth 7 160 26 650 K [.ref h0, .int w, .int h, .int g] G (mPost K h0 G (oWorth y w h g)) (gNo) := by
  refine gM.of (cc := cX8_worth) (maxL := 4) (ret := (some .int)) (by decide) rfl (Nat.le_of_ble_eq_true rfl) ?_
  intro p e s m below meth c A S hr hlocks htab hname hE hA hI ls hl
  have hx := S.1
  have hb := S.2.1
  have hml := S.2.2.1
  have hl : lv_has ls 4 [(0, .ref h0), (1, .int w), (2, .int h), (3, .int g)] := hl
  have h44 := hM.2.1.1.2.2.1
  have h6 := hM.2.1.1.2.2.2
  have hf2 := hM.2.1.1.2.1
  have h40 := hM.2.2.2
  have hth := hM.2.2.1
  have hag : AgM G G := AgM.rf
  obtain ⟨m1, ar1, hl1⟩ := hM.2.1.2.1.obj
  obtain ⟨m2, ar2, hl2⟩ := hM.2.1.2.2.1.obj
  have ho : oWorth y w h g = (1, 0, y) := by unfold oWorth; rw [if_neg (by rw [hp9]; decide)]
  obtain ⟨H, hHe⟩ : ∃ z, z = s.heap := ⟨_, rfl⟩
  obtain ⟨locs, hLe⟩ : ∃ z : List Loc, z = [] := ⟨_, rfl⟩
  rw [← hHe, ← hLe]
  have hI : gI K A s G H locs := by rw [hHe, hLe]; exact hI
  clear hHe hLe
  refine lv_aload_n hx hb dX8_worth_0 rfl (lv_at hl 0 rfl) ?_
  refine lv_iload_n hx hb dX8_worth_1 rfl (lv_at hl 1 rfl) ?_
  refine lv_iload_n hx hb dX8_worth_2 rfl (lv_at hl 2 rfl) ?_
  refine lv_iload_n hx hb dX8_worth_3 rfl (lv_at hl 3 rfl) ?_
  refine g_callS (As := [.int w, .int h, .int g]) (rest := [.ref h0]) (n := 3) S hE hI hA (c_X8_isNoPiece l K _ w h g) gX8_worth_X8_isNoPiece rfl (by decide +kernel) ⟨Nat.le_of_ble_eq_true rfl, Nat.le_of_ble_eq_true rfl⟩ rfl hl.1 rfl (Nat.le_of_ble_eq_true rfl) dX8_worth_4 ⟨Nat.le_of_ble_eq_true rfl, Nat.le_of_ble_eq_true rfl⟩ (fun E ce q9 Gx H1 locs1 hx9 => hx9.elim) (fun rv Gc_4 H locs hp hI => ?_)
  obtain ⟨rfl, hq9⟩ := hp
  rw [hq9] at hI
  rw [hp9]
  refine W.eq (g2 := F0 m 7 ls [.int (bI true), .ref h0]) rfl ?_
  refine lv_iconst (v := nI 1) hx hb dX8_worth_7 (by decide) ?_
  refine g_callV (As := [.int (bI true), .int (nI 1)]) (rest := []) (b := h0) (n := 2) S hE hI hA (c_start l K _ L h0 th y N true 1 hM (by decide)) gX8_worth_X8_start rfl (by decide +kernel) ⟨Nat.le_of_ble_eq_true rfl, Nat.le_of_ble_eq_true rfl⟩ (g_hro hE hI hM.1 rfl) rfl hl.1 rfl (Nat.le_of_ble_eq_true rfl) dX8_worth_8 ⟨Nat.le_of_ble_eq_true rfl, Nat.le_of_ble_eq_true rfl⟩ (fun E ce q9 Gx H1 locs1 hx9 => hx9.elim) (fun rv Gc_8 H locs hp hI => ?_)
  obtain ⟨rfl, hM, hg9⟩ := hp
  have hag := hag.tr hg9
  have hM : MdC K L h0 1 Gc_8 y N := hM
  obtain ⟨m1, ar1, hl1⟩ := hM.2.1.2.1.obj
  obtain ⟨m2, ar2, hl2⟩ := hM.2.1.2.2.1.obj
  refine W.eq (g2 := F0 m 11 ls [.int (bI true)]) rfl ?_
  refine lv_if_eq (tgt := 18) hx hb dX8_worth_11 (by decide) (fun c_11 => ?_) (fun c_11 => ?_)
  · skip
    have c_11 : true = false := bI_0.mp c_11
    cases c_11
  · skip
    have c_11 : true = true := bI_1.mp c_11
    refine lv_iconst (v := nI 0) hx hb dX8_worth_14 (by decide) ?_
    refine lv_goto (tgt := 30) hx hb dX8_worth_15 (by decide) ?_
    exact g_iret S hI hr hlocks (Nat.zero_le _) (Nat.zero_le _) dX8_worth_30 (mThrow ho (by decide) hM hag)
set_option maxHeartbeats 4000000 in
set_option maxRecDepth 100000 in
/-- X8_worth: worthB -/
theorem m_worthB (l : Launch) (K : gK) (G : gW) (L : Nat → Nat → Nat) (h0 th : Nat) (y : YV) (N : Nat) (w h g : Nat) (hM : MdC K L h0 th G y N) (hb9 : (1 ≤ w ∧ w ≤ 24) ∧ (1 ≤ h ∧ h ≤ 24) ∧ g ≤ 1) : gM l yX8_worth wsX8_worth 7 160 26 650 K [.ref h0, .int (nI w), .int (nI h), .int (nI g)] G (mPost K h0 G (oWorth y (nI w) (nI h) (nI g))) (gNo) := by
  refine gM.of (cc := cX8_worth) (maxL := 4) (ret := (some .int)) (by decide) rfl (Nat.le_of_ble_eq_true rfl) ?_
  intro p e s m below meth c A S hr hlocks htab hname hE hA hI ls hl
  have hx := S.1
  have hb := S.2.1
  have hml := S.2.2.1
  have hl : lv_has ls 4 [(0, .ref h0), (1, .int (nI w)), (2, .int (nI h)), (3, .int (nI g))] := hl
  have h44 := hM.2.1.1.2.2.1
  have h6 := hM.2.1.1.2.2.2
  have hf2 := hM.2.1.1.2.1
  have h40 := hM.2.2.2
  have hth := hM.2.2.1
  have hag : AgM G G := AgM.rf
  have hp9 := inP_nI hb9
  obtain ⟨⟨b1, b2⟩, ⟨b3, b4⟩, b5⟩ := hb9
  obtain ⟨m1, ar1, hl1⟩ := hM.2.1.2.1.obj
  obtain ⟨m2, ar2, hl2⟩ := hM.2.1.2.2.1.obj
  have ho : oWorth y (nI w) (nI h) (nI g) = (0, nI (wV (ySt2 y g) (yF y) w h), y) := by unfold oWorth; rw [if_pos hp9, iN_nI (by omega), iN_nI (by omega), iN_nI (by omega)]
  obtain ⟨H, hHe⟩ : ∃ z, z = s.heap := ⟨_, rfl⟩
  obtain ⟨locs, hLe⟩ : ∃ z : List Loc, z = [] := ⟨_, rfl⟩
  rw [← hHe, ← hLe]
  have hI : gI K A s G H locs := by rw [hHe, hLe]; exact hI
  clear hHe hLe
  refine lv_aload_n hx hb dX8_worth_0 rfl (lv_at hl 0 rfl) ?_
  refine lv_iload_n hx hb dX8_worth_1 rfl (lv_at hl 1 rfl) ?_
  refine lv_iload_n hx hb dX8_worth_2 rfl (lv_at hl 2 rfl) ?_
  refine lv_iload_n hx hb dX8_worth_3 rfl (lv_at hl 3 rfl) ?_
  refine g_callS (As := [.int (nI w), .int (nI h), .int (nI g)]) (rest := [.ref h0]) (n := 3) S hE hI hA (c_X8_isNoPiece l K _ (nI w) (nI h) (nI g)) gX8_worth_X8_isNoPiece rfl (by decide +kernel) ⟨Nat.le_of_ble_eq_true rfl, Nat.le_of_ble_eq_true rfl⟩ rfl hl.1 rfl (Nat.le_of_ble_eq_true rfl) dX8_worth_4 ⟨Nat.le_of_ble_eq_true rfl, Nat.le_of_ble_eq_true rfl⟩ (fun E ce q9 Gx H1 locs1 hx9 => hx9.elim) (fun rv Gc_4 H locs hp hI => ?_)
  obtain ⟨rfl, hq9⟩ := hp
  rw [hq9] at hI
  rw [hp9]
  refine W.eq (g2 := F0 m 7 ls [.int (bI false), .ref h0]) rfl ?_
  refine lv_iconst (v := nI 1) hx hb dX8_worth_7 (by decide) ?_
  refine g_callV (As := [.int (bI false), .int (nI 1)]) (rest := []) (b := h0) (n := 2) S hE hI hA (c_start l K _ L h0 th y N false 1 hM (by decide)) gX8_worth_X8_start rfl (by decide +kernel) ⟨Nat.le_of_ble_eq_true rfl, Nat.le_of_ble_eq_true rfl⟩ (g_hro hE hI hM.1 rfl) rfl hl.1 rfl (Nat.le_of_ble_eq_true rfl) dX8_worth_8 ⟨Nat.le_of_ble_eq_true rfl, Nat.le_of_ble_eq_true rfl⟩ (fun E ce q9 Gx H1 locs1 hx9 => hx9.elim) (fun rv Gc_8 H locs hp hI => ?_)
  obtain ⟨rfl, hM, hg9⟩ := hp
  have hag := hag.tr hg9
  have hM : MdC K L h0 0 Gc_8 y N := hM
  obtain ⟨m1, ar1, hl1⟩ := hM.2.1.2.1.obj
  obtain ⟨m2, ar2, hl2⟩ := hM.2.1.2.2.1.obj
  refine W.eq (g2 := F0 m 11 ls [.int (bI false)]) rfl ?_
  refine lv_if_eq (tgt := 18) hx hb dX8_worth_11 (by decide) (fun c_11 => ?_) (fun c_11 => ?_)
  · skip
    have c_11 : false = false := bI_0.mp c_11
    refine lv_aload_n hx hb dX8_worth_18 rfl (lv_at hl 0 rfl) ?_
    refine g_get S hE hI (C := RX8) (T := TX8) (N := 2) (ref := "StonecutterYardModel") (fun w h => (List.mem_cons_of_mem _ (List.mem_append_left _ (List.mem_append_left _ (List.mem_append_left _ (List.mem_append_right _ h)))))) hM.1 rfl 1 (by decide) (List.mem_cons_of_mem _ (List.mem_append_left _ (List.mem_append_left _ (List.mem_append_left _ (List.mem_append_left _ (List.mem_append_left _ (List.mem_of_getElem? (i := 0) rfl))))))) (fun _ h9 => h9) (v := .ref (L 30 0)) rfl dX8_worth_19 ?_
    refine lv_iload_n hx hb dX8_worth_22 rfl (lv_at hl 3 rfl) ?_
    refine g_callV (As := [.int (nI g)]) (rest := []) (b := (L 30 0)) (n := 1) S hE hI hA (c_X7_worths l K _ 5 L y N g 11 hM.2.1 (by omega) ⟨by decide, by decide⟩) gX8_worth_X7_worths rfl (by decide +kernel) ⟨Nat.le_of_ble_eq_true rfl, Nat.le_of_ble_eq_true rfl⟩ (g_hro hE hI hM.2.1.1.1 rfl) rfl hl.1 rfl (Nat.le_of_ble_eq_true rfl) dX8_worth_23 ⟨by show _ ≤ 26; omega, by show _ ≤ 650; omega⟩ (fun E ce q9 Gx H1 locs1 hx9 => hx9.elim) (fun rv Gc_23 H locs hp hI => ?_)
    obtain ⟨qa, rfl, htb, hof⟩ := hp
    have hW : AgW N _ Gc_23 := AgW.one hof (by decide)
    have hm := hW.my hM.2.1
    have htb2 := htb
    obtain ⟨Rr, hto, hrow⟩ := htb2
    obtain ⟨fw, hrw, hvw⟩ := hrow w (by omega)
    refine W.eq (g2 := F0 m 26 ls [.ref qa]) rfl ?_
    refine lv_iload_n hx hb dX8_worth_26 rfl (lv_at hl 1 rfl) ?_
    refine g_aald S hE hI (j := w) (f := (fun i => if i < 25 then some (Rr i) else none)) hto (k := 5) rfl rfl rfl (by omega) (by decide) (v := .ref (Rr w)) (by show va_rf (if _ then _ else _) = _; rw [if_pos (by omega)]; rfl) dX8_worth_27 ?_
    refine lv_iload_n hx hb dX8_worth_28 rfl (lv_at hl 2 rfl) ?_
    refine g_iald S hE hI (j := h) (f := fw) hrw rfl (by omega) (by decide) dX8_worth_29 ?_
    refine W.eq (g2 := F0 m 30 ls [.int (nI (wV (ySt2 y g) (yF y) w h))]) (by rw [hvw _ (by omega) (by omega) (by omega)]) ?_
    exact g_iret S hI hr hlocks (by omega) (by omega) dX8_worth_30 (mOk ho (hW.md hM) (hag.tr hW.ag))
  · skip
    have c_11 : false = true := bI_1.mp c_11
    cases c_11
set_option maxHeartbeats 4000000 in
set_option maxRecDepth 100000 in
/-- X8_bestCut: bestA -/
theorem m_bestA (l : Launch) (K : gK) (G : gW) (L : Nat → Nat → Nat) (h0 th : Nat) (y : YV) (N : Nat) (w h g : Int32) (hM : MdC K L h0 th G y N) (hp9 : inP w h g = false) : gM l yX8_bestCut wsX8_bestCut 7 160 26 650 K [.ref h0, .int w, .int h, .int g] G (mPost K h0 G (oBest y w h g)) (gNo) := by
  refine gM.of (cc := cX8_bestCut) (maxL := 4) (ret := (some .int)) (by decide) rfl (Nat.le_of_ble_eq_true rfl) ?_
  intro p e s m below meth c A S hr hlocks htab hname hE hA hI ls hl
  have hx := S.1
  have hb := S.2.1
  have hml := S.2.2.1
  have hl : lv_has ls 4 [(0, .ref h0), (1, .int w), (2, .int h), (3, .int g)] := hl
  have h44 := hM.2.1.1.2.2.1
  have h6 := hM.2.1.1.2.2.2
  have hf2 := hM.2.1.1.2.1
  have h40 := hM.2.2.2
  have hth := hM.2.2.1
  have hag : AgM G G := AgM.rf
  obtain ⟨m1, ar1, hl1⟩ := hM.2.1.2.1.obj
  obtain ⟨m2, ar2, hl2⟩ := hM.2.1.2.2.1.obj
  have ho : oBest y w h g = (1, 0, y) := by unfold oBest; rw [if_neg (by rw [hp9]; decide)]
  obtain ⟨H, hHe⟩ : ∃ z, z = s.heap := ⟨_, rfl⟩
  obtain ⟨locs, hLe⟩ : ∃ z : List Loc, z = [] := ⟨_, rfl⟩
  rw [← hHe, ← hLe]
  have hI : gI K A s G H locs := by rw [hHe, hLe]; exact hI
  clear hHe hLe
  refine lv_aload_n hx hb dX8_bestCut_0 rfl (lv_at hl 0 rfl) ?_
  refine lv_iload_n hx hb dX8_bestCut_1 rfl (lv_at hl 1 rfl) ?_
  refine lv_iload_n hx hb dX8_bestCut_2 rfl (lv_at hl 2 rfl) ?_
  refine lv_iload_n hx hb dX8_bestCut_3 rfl (lv_at hl 3 rfl) ?_
  refine g_callS (As := [.int w, .int h, .int g]) (rest := [.ref h0]) (n := 3) S hE hI hA (c_X8_isNoPiece l K _ w h g) gX8_bestCut_X8_isNoPiece rfl (by decide +kernel) ⟨Nat.le_of_ble_eq_true rfl, Nat.le_of_ble_eq_true rfl⟩ rfl hl.1 rfl (Nat.le_of_ble_eq_true rfl) dX8_bestCut_4 ⟨Nat.le_of_ble_eq_true rfl, Nat.le_of_ble_eq_true rfl⟩ (fun E ce q9 Gx H1 locs1 hx9 => hx9.elim) (fun rv Gc_4 H locs hp hI => ?_)
  obtain ⟨rfl, hq9⟩ := hp
  rw [hq9] at hI
  rw [hp9]
  refine W.eq (g2 := F0 m 7 ls [.int (bI true), .ref h0]) rfl ?_
  refine lv_iconst (v := nI 1) hx hb dX8_bestCut_7 (by decide) ?_
  refine g_callV (As := [.int (bI true), .int (nI 1)]) (rest := []) (b := h0) (n := 2) S hE hI hA (c_start l K _ L h0 th y N true 1 hM (by decide)) gX8_bestCut_X8_start rfl (by decide +kernel) ⟨Nat.le_of_ble_eq_true rfl, Nat.le_of_ble_eq_true rfl⟩ (g_hro hE hI hM.1 rfl) rfl hl.1 rfl (Nat.le_of_ble_eq_true rfl) dX8_bestCut_8 ⟨Nat.le_of_ble_eq_true rfl, Nat.le_of_ble_eq_true rfl⟩ (fun E ce q9 Gx H1 locs1 hx9 => hx9.elim) (fun rv Gc_8 H locs hp hI => ?_)
  obtain ⟨rfl, hM, hg9⟩ := hp
  have hag := hag.tr hg9
  have hM : MdC K L h0 1 Gc_8 y N := hM
  obtain ⟨m1, ar1, hl1⟩ := hM.2.1.2.1.obj
  obtain ⟨m2, ar2, hl2⟩ := hM.2.1.2.2.1.obj
  refine W.eq (g2 := F0 m 11 ls [.int (bI true)]) rfl ?_
  refine lv_if_eq (tgt := 18) hx hb dX8_bestCut_11 (by decide) (fun c_11 => ?_) (fun c_11 => ?_)
  · skip
    have c_11 : true = false := bI_0.mp c_11
    cases c_11
  · skip
    have c_11 : true = true := bI_1.mp c_11
    refine lv_iconst (v := nI 0) hx hb dX8_bestCut_14 (by decide) ?_
    refine lv_goto (tgt := 36) hx hb dX8_bestCut_15 (by decide) ?_
    exact g_iret S hI hr hlocks (Nat.zero_le _) (Nat.zero_le _) dX8_bestCut_36 (mThrow ho (by decide) hM hag)
set_option maxHeartbeats 4000000 in
set_option maxRecDepth 100000 in
/-- X8_bestCut: bestB -/
theorem m_bestB (l : Launch) (K : gK) (G : gW) (L : Nat → Nat → Nat) (h0 th : Nat) (y : YV) (N : Nat) (w h g : Nat) (hM : MdC K L h0 th G y N) (hb9 : (1 ≤ w ∧ w ≤ 24) ∧ (1 ≤ h ∧ h ≤ 24) ∧ g ≤ 1) : gM l yX8_bestCut wsX8_bestCut 7 160 26 650 K [.ref h0, .int (nI w), .int (nI h), .int (nI g)] G (mPost K h0 G (oBest y (nI w) (nI h) (nI g))) (gNo) := by
  refine gM.of (cc := cX8_bestCut) (maxL := 4) (ret := (some .int)) (by decide) rfl (Nat.le_of_ble_eq_true rfl) ?_
  intro p e s m below meth c A S hr hlocks htab hname hE hA hI ls hl
  have hx := S.1
  have hb := S.2.1
  have hml := S.2.2.1
  have hl : lv_has ls 4 [(0, .ref h0), (1, .int (nI w)), (2, .int (nI h)), (3, .int (nI g))] := hl
  have h44 := hM.2.1.1.2.2.1
  have h6 := hM.2.1.1.2.2.2
  have hf2 := hM.2.1.1.2.1
  have h40 := hM.2.2.2
  have hth := hM.2.2.1
  have hag : AgM G G := AgM.rf
  have hp9 := inP_nI hb9
  obtain ⟨⟨b1, b2⟩, ⟨b3, b4⟩, b5⟩ := hb9
  obtain ⟨m1, ar1, hl1⟩ := hM.2.1.2.1.obj
  obtain ⟨m2, ar2, hl2⟩ := hM.2.1.2.2.1.obj
  have ho : oBest y (nI w) (nI h) (nI g) = (0, cE (qV (ySt2 y g) (yF y) w h).2, y) := by unfold oBest; rw [if_pos hp9, iN_nI (by omega), iN_nI (by omega), iN_nI (by omega)]
  obtain ⟨H, hHe⟩ : ∃ z, z = s.heap := ⟨_, rfl⟩
  obtain ⟨locs, hLe⟩ : ∃ z : List Loc, z = [] := ⟨_, rfl⟩
  rw [← hHe, ← hLe]
  have hI : gI K A s G H locs := by rw [hHe, hLe]; exact hI
  clear hHe hLe
  refine lv_aload_n hx hb dX8_bestCut_0 rfl (lv_at hl 0 rfl) ?_
  refine lv_iload_n hx hb dX8_bestCut_1 rfl (lv_at hl 1 rfl) ?_
  refine lv_iload_n hx hb dX8_bestCut_2 rfl (lv_at hl 2 rfl) ?_
  refine lv_iload_n hx hb dX8_bestCut_3 rfl (lv_at hl 3 rfl) ?_
  refine g_callS (As := [.int (nI w), .int (nI h), .int (nI g)]) (rest := [.ref h0]) (n := 3) S hE hI hA (c_X8_isNoPiece l K _ (nI w) (nI h) (nI g)) gX8_bestCut_X8_isNoPiece rfl (by decide +kernel) ⟨Nat.le_of_ble_eq_true rfl, Nat.le_of_ble_eq_true rfl⟩ rfl hl.1 rfl (Nat.le_of_ble_eq_true rfl) dX8_bestCut_4 ⟨Nat.le_of_ble_eq_true rfl, Nat.le_of_ble_eq_true rfl⟩ (fun E ce q9 Gx H1 locs1 hx9 => hx9.elim) (fun rv Gc_4 H locs hp hI => ?_)
  obtain ⟨rfl, hq9⟩ := hp
  rw [hq9] at hI
  rw [hp9]
  refine W.eq (g2 := F0 m 7 ls [.int (bI false), .ref h0]) rfl ?_
  refine lv_iconst (v := nI 1) hx hb dX8_bestCut_7 (by decide) ?_
  refine g_callV (As := [.int (bI false), .int (nI 1)]) (rest := []) (b := h0) (n := 2) S hE hI hA (c_start l K _ L h0 th y N false 1 hM (by decide)) gX8_bestCut_X8_start rfl (by decide +kernel) ⟨Nat.le_of_ble_eq_true rfl, Nat.le_of_ble_eq_true rfl⟩ (g_hro hE hI hM.1 rfl) rfl hl.1 rfl (Nat.le_of_ble_eq_true rfl) dX8_bestCut_8 ⟨Nat.le_of_ble_eq_true rfl, Nat.le_of_ble_eq_true rfl⟩ (fun E ce q9 Gx H1 locs1 hx9 => hx9.elim) (fun rv Gc_8 H locs hp hI => ?_)
  obtain ⟨rfl, hM, hg9⟩ := hp
  have hag := hag.tr hg9
  have hM : MdC K L h0 0 Gc_8 y N := hM
  obtain ⟨m1, ar1, hl1⟩ := hM.2.1.2.1.obj
  obtain ⟨m2, ar2, hl2⟩ := hM.2.1.2.2.1.obj
  refine W.eq (g2 := F0 m 11 ls [.int (bI false)]) rfl ?_
  refine lv_if_eq (tgt := 18) hx hb dX8_bestCut_11 (by decide) (fun c_11 => ?_) (fun c_11 => ?_)
  · skip
    have c_11 : false = false := bI_0.mp c_11
    refine lv_aload_n hx hb dX8_bestCut_18 rfl (lv_at hl 0 rfl) ?_
    refine g_get S hE hI (C := RX8) (T := TX8) (N := 2) (ref := "StonecutterYardModel") (fun w h => (List.mem_cons_of_mem _ (List.mem_append_left _ (List.mem_append_left _ (List.mem_append_left _ (List.mem_append_right _ h)))))) hM.1 rfl 1 (by decide) (List.mem_cons_of_mem _ (List.mem_append_left _ (List.mem_append_left _ (List.mem_append_left _ (List.mem_append_left _ (List.mem_append_left _ (List.mem_of_getElem? (i := 0) rfl))))))) (fun _ h9 => h9) (v := .ref (L 30 0)) rfl dX8_bestCut_19 ?_
    refine lv_aload_n hx hb dX8_bestCut_22 rfl (lv_at hl 0 rfl) ?_
    refine g_get S hE hI (C := RX8) (T := TX8) (N := 2) (ref := "StonecutterYardModel") (fun w h => (List.mem_cons_of_mem _ (List.mem_append_left _ (List.mem_append_left _ (List.mem_append_left _ (List.mem_append_right _ h)))))) hM.1 rfl 1 (by decide) (List.mem_cons_of_mem _ (List.mem_append_left _ (List.mem_append_left _ (List.mem_append_left _ (List.mem_append_left _ (List.mem_append_left _ (List.mem_of_getElem? (i := 0) rfl))))))) (fun _ h9 => h9) (v := .ref (L 30 0)) rfl dX8_bestCut_23 ?_
    refine lv_iload_n hx hb dX8_bestCut_26 rfl (lv_at hl 3 rfl) ?_
    refine g_callV (As := [.int (nI g)]) (rest := [.ref (L 30 0)]) (b := (L 30 0)) (n := 1) S hE hI hA (c_X7_worths l K _ 5 L y N g 11 hM.2.1 (by omega) ⟨by decide, by decide⟩) gX8_bestCut_X7_worths rfl (by decide +kernel) ⟨Nat.le_of_ble_eq_true rfl, Nat.le_of_ble_eq_true rfl⟩ (g_hro hE hI hM.2.1.1.1 rfl) rfl hl.1 rfl (Nat.le_of_ble_eq_true rfl) dX8_bestCut_27 ⟨by show _ ≤ 26; omega, by show _ ≤ 650; omega⟩ (fun E ce q9 Gx H1 locs1 hx9 => hx9.elim) (fun rv Gc_27 H locs hp hI => ?_)
    obtain ⟨qa, rfl, htb, hof⟩ := hp
    have hW : AgW N _ Gc_27 := AgW.one hof (by decide)
    have hm := hW.my hM.2.1
    have htb2 := htb
    obtain ⟨Rr, hto, hrow⟩ := htb2
    refine W.eq (g2 := F0 m 30 ls [.ref qa, .ref (L 30 0)]) rfl ?_
    refine lv_iload_n hx hb dX8_bestCut_30 rfl (lv_at hl 1 rfl) ?_
    refine lv_iload_n hx hb dX8_bestCut_31 rfl (lv_at hl 2 rfl) ?_
    refine lv_iload_n hx hb dX8_bestCut_32 rfl (lv_at hl 3 rfl) ?_
    refine g_callV (As := [.ref qa, .int (nI w), .int (nI h), .int (nI g)]) (rest := []) (b := (L 30 0)) (n := 4) S hE hI hA (c_X7_bestCut l K _ 5 L y N 11 qa w h g hm htb ⟨⟨b1, b2⟩, ⟨b3, b4⟩, b5⟩) gX8_bestCut_X7_bestCut rfl (by decide +kernel) ⟨Nat.le_of_ble_eq_true rfl, Nat.le_of_ble_eq_true rfl⟩ (g_hro hE hI hm.1.1 rfl) rfl hl.1 rfl (Nat.le_of_ble_eq_true rfl) dX8_bestCut_33 ⟨by show _ ≤ 26; omega, by show _ ≤ 650; omega⟩ (fun E ce q9 Gx H1 locs1 hx9 => hx9.elim) (fun rv Gc_33 H locs hp hI => ?_)
    obtain ⟨rfl, hq9⟩ := hp
    rw [hq9] at hI
    refine W.eq (g2 := F0 m 36 ls [.int (cE (qV (ySt2 y g) (yF y) w h).2)]) rfl ?_
    exact g_iret S hI hr hlocks (by omega) (by omega) dX8_bestCut_36 (mOk ho (hW.md hM) (hag.tr hW.ag))
  · skip
    have c_11 : false = true := bI_1.mp c_11
    cases c_11
set_option maxHeartbeats 4000000 in
set_option maxRecDepth 100000 in
/-- X8_column: columnA -/
theorem m_columnA (l : Launch) (K : gK) (G : gW) (L : Nat → Nat → Nat) (h0 th : Nat) (y : YV) (N : Nat) (w h g x : Int32) (hM : MdC K L h0 th G y N) (hxn : ∀ q, q < yKc y → x ≠ nI q) (hr9 : inR x (yKc y) = false) : gM l yX8_column wsX8_column 59 1623 26 650 K [.ref h0, .int w, .int h, .int g, .int x] G (mPost K h0 G (oColumn y w h g x)) (gNo) := by
  refine gM.of (cc := cX8_column) (maxL := 5) (ret := (some .int)) (by decide) rfl (Nat.le_of_ble_eq_true rfl) ?_
  intro p e s m below meth c A S hr hlocks htab hname hE hA hI ls hl
  have hx := S.1
  have hb := S.2.1
  have hml := S.2.2.1
  have hl : lv_has ls 5 [(0, .ref h0), (1, .int w), (2, .int h), (3, .int g), (4, .int x)] := hl
  have h44 := hM.2.1.1.2.2.1
  have h6 := hM.2.1.1.2.2.2
  have hf2 := hM.2.1.1.2.1
  have h40 := hM.2.2.2
  have hth := hM.2.2.1
  have hag : AgM G G := AgM.rf
  obtain ⟨m1, ar1, hl1⟩ := hM.2.1.2.1.obj
  obtain ⟨m2, ar2, hl2⟩ := hM.2.1.2.2.1.obj
  have ho : oColumn y w h g x = (1, 0, y) := by unfold oColumn; rw [if_neg (by rw [hr9]; decide)]
  obtain ⟨H, hHe⟩ : ∃ z, z = s.heap := ⟨_, rfl⟩
  obtain ⟨locs, hLe⟩ : ∃ z : List Loc, z = [] := ⟨_, rfl⟩
  rw [← hHe, ← hLe]
  have hI : gI K A s G H locs := by rw [hHe, hLe]; exact hI
  clear hHe hLe
  refine lv_aload_n hx hb dX8_column_0 rfl (lv_at hl 0 rfl) ?_
  refine lv_iload hx hb dX8_column_1 (lv_at hl 4 rfl) ?_
  refine g_callV (As := [.int x]) (rest := []) (b := h0) (n := 1) S hE hI hA (c_X8_isNoKind l K _ L h0 th y N x hM) gX8_column_X8_isNoKind rfl (by decide +kernel) ⟨Nat.le_of_ble_eq_true rfl, Nat.le_of_ble_eq_true rfl⟩ (g_hro hE hI hM.1 rfl) rfl hl.1 rfl (Nat.le_of_ble_eq_true rfl) dX8_column_3 ⟨Nat.le_of_ble_eq_true rfl, Nat.le_of_ble_eq_true rfl⟩ (fun E ce q9 Gx H1 locs1 hx9 => hx9.elim) (fun rv Gc_3 H locs hp hI => ?_)
  obtain ⟨rfl, hM, hg9⟩ := hp
  have hag := hag.tr hg9
  rw [hr9]
  rw [hr9] at hM
  have hM : MdC K L h0 1 Gc_3 y N := hM
  obtain ⟨m1, ar1, hl1⟩ := hM.2.1.2.1.obj
  obtain ⟨m2, ar2, hl2⟩ := hM.2.1.2.2.1.obj
  refine W.eq (g2 := F0 m 6 ls [.int (bI true)]) rfl ?_
  refine lv_if_ne (tgt := 23) hx hb dX8_column_6 (by decide) (fun c_6 => ?_) (fun c_6 => ?_)
  · skip
    have c_6 : true = true := bI_1.mp c_6
    refine lv_iconst (v := nI 0) hx hb dX8_column_23 (by decide) ?_
    refine lv_goto (tgt := 47) hx hb dX8_column_24 (by decide) ?_
    exact g_iret S hI hr hlocks (Nat.zero_le _) (Nat.zero_le _) dX8_column_47 (mThrow ho (by decide) hM hag)
  · skip
    have c_6 : true = false := bI_0.mp c_6
    cases c_6
set_option maxHeartbeats 4000000 in
set_option maxRecDepth 100000 in
/-- X8_column: columnB -/
theorem m_columnB (l : Launch) (K : gK) (G : gW) (L : Nat → Nat → Nat) (h0 th : Nat) (y : YV) (N : Nat) (w h g : Int32) (i : Nat) (hM : MdC K L h0 th G y N) (hi : i < yKc y) (hp9 : inP w h g = false) : gM l yX8_column wsX8_column 59 1623 26 650 K [.ref h0, .int w, .int h, .int g, .int (nI i)] G (mPost K h0 G (oColumn y w h g (nI i))) (gNo) := by
  refine gM.of (cc := cX8_column) (maxL := 5) (ret := (some .int)) (by decide) rfl (Nat.le_of_ble_eq_true rfl) ?_
  intro p e s m below meth c A S hr hlocks htab hname hE hA hI ls hl
  have hx := S.1
  have hb := S.2.1
  have hml := S.2.2.1
  have hl : lv_has ls 5 [(0, .ref h0), (1, .int w), (2, .int h), (3, .int g), (4, .int (nI i))] := hl
  have h44 := hM.2.1.1.2.2.1
  have h6 := hM.2.1.1.2.2.2
  have hf2 := hM.2.1.1.2.1
  have h40 := hM.2.2.2
  have hth := hM.2.2.1
  have hag : AgM G G := AgM.rf
  have hri : inR (nI i) (yKc y) = true := inR_nI hi (by omega)
  have hiN : iN (nI i) = i := iN_nI (by omega)
  obtain ⟨m1, ar1, hl1⟩ := hM.2.1.2.1.obj
  obtain ⟨m2, ar2, hl2⟩ := hM.2.1.2.2.1.obj
  have ho : oColumn y w h g (nI i) = (2, 0, y) := by unfold oColumn; rw [if_pos hri, if_neg (by rw [hp9]; decide)]
  obtain ⟨H, hHe⟩ : ∃ z, z = s.heap := ⟨_, rfl⟩
  obtain ⟨locs, hLe⟩ : ∃ z : List Loc, z = [] := ⟨_, rfl⟩
  rw [← hHe, ← hLe]
  have hI : gI K A s G H locs := by rw [hHe, hLe]; exact hI
  clear hHe hLe
  refine lv_aload_n hx hb dX8_column_0 rfl (lv_at hl 0 rfl) ?_
  refine lv_iload hx hb dX8_column_1 (lv_at hl 4 rfl) ?_
  refine g_callV (As := [.int (nI i)]) (rest := []) (b := h0) (n := 1) S hE hI hA (c_X8_isNoKind l K _ L h0 th y N (nI i) hM) gX8_column_X8_isNoKind rfl (by decide +kernel) ⟨Nat.le_of_ble_eq_true rfl, Nat.le_of_ble_eq_true rfl⟩ (g_hro hE hI hM.1 rfl) rfl hl.1 rfl (Nat.le_of_ble_eq_true rfl) dX8_column_3 ⟨Nat.le_of_ble_eq_true rfl, Nat.le_of_ble_eq_true rfl⟩ (fun E ce q9 Gx H1 locs1 hx9 => hx9.elim) (fun rv Gc_3 H locs hp hI => ?_)
  obtain ⟨rfl, hM, hg9⟩ := hp
  have hag := hag.tr hg9
  rw [hri]
  rw [hri] at hM
  have hM : MdC K L h0 0 Gc_3 y N := hM
  obtain ⟨m1, ar1, hl1⟩ := hM.2.1.2.1.obj
  obtain ⟨m2, ar2, hl2⟩ := hM.2.1.2.2.1.obj
  refine W.eq (g2 := F0 m 6 ls [.int (bI false)]) rfl ?_
  refine lv_if_ne (tgt := 23) hx hb dX8_column_6 (by decide) (fun c_6 => ?_) (fun c_6 => ?_)
  · skip
    have c_6 : false = true := bI_1.mp c_6
    cases c_6
  · skip
    have c_6 : false = false := bI_0.mp c_6
    refine lv_aload_n hx hb dX8_column_9 rfl (lv_at hl 0 rfl) ?_
    refine lv_iload_n hx hb dX8_column_10 rfl (lv_at hl 1 rfl) ?_
    refine lv_iload_n hx hb dX8_column_11 rfl (lv_at hl 2 rfl) ?_
    refine lv_iload_n hx hb dX8_column_12 rfl (lv_at hl 3 rfl) ?_
    refine g_callS (As := [.int w, .int h, .int g]) (rest := [.ref h0]) (n := 3) S hE hI hA (c_X8_isNoPiece l K _ w h g) gX8_column_X8_isNoPiece rfl (by decide +kernel) ⟨Nat.le_of_ble_eq_true rfl, Nat.le_of_ble_eq_true rfl⟩ rfl hl.1 rfl (Nat.le_of_ble_eq_true rfl) dX8_column_13 ⟨Nat.le_of_ble_eq_true rfl, Nat.le_of_ble_eq_true rfl⟩ (fun E ce q9 Gx H1 locs1 hx9 => hx9.elim) (fun rv Gc_13 H locs hp hI => ?_)
    obtain ⟨rfl, hq9⟩ := hp
    rw [hq9] at hI
    rw [hp9]
    refine W.eq (g2 := F0 m 16 ls [.int (bI true), .ref h0]) rfl ?_
    refine lv_iconst (v := nI 2) hx hb dX8_column_16 (by decide) ?_
    refine g_callV (As := [.int (bI true), .int (nI 2)]) (rest := []) (b := h0) (n := 2) S hE hI hA (c_ref l K _ L h0 y N true 2 hM (by decide)) gX8_column_X8_refuse rfl (by decide +kernel) ⟨Nat.le_of_ble_eq_true rfl, Nat.le_of_ble_eq_true rfl⟩ (g_hro hE hI hM.1 rfl) rfl hl.1 rfl (Nat.le_of_ble_eq_true rfl) dX8_column_17 ⟨Nat.le_of_ble_eq_true rfl, Nat.le_of_ble_eq_true rfl⟩ (fun E ce q9 Gx H1 locs1 hx9 => hx9.elim) (fun rv Gc_17 H locs hp hI => ?_)
    obtain ⟨rfl, hM, hg9⟩ := hp
    have hag := hag.tr hg9
    have hM : MdC K L h0 2 Gc_17 y N := hM
    obtain ⟨m1, ar1, hl1⟩ := hM.2.1.2.1.obj
    obtain ⟨m2, ar2, hl2⟩ := hM.2.1.2.2.1.obj
    refine W.eq (g2 := F0 m 20 ls [.int (bI true)]) rfl ?_
    refine lv_if_eq (tgt := 27) hx hb dX8_column_20 (by decide) (fun c_20 => ?_) (fun c_20 => ?_)
    · skip
      have c_20 : true = false := bI_0.mp c_20
      cases c_20
    · skip
      have c_20 : true = true := bI_1.mp c_20
      refine lv_iconst (v := nI 0) hx hb dX8_column_23 (by decide) ?_
      refine lv_goto (tgt := 47) hx hb dX8_column_24 (by decide) ?_
      exact g_iret S hI hr hlocks (Nat.zero_le _) (Nat.zero_le _) dX8_column_47 (mThrow ho (by decide) hM hag)
set_option maxHeartbeats 4000000 in
set_option maxRecDepth 100000 in
/-- X8_column: columnC -/
theorem m_columnC (l : Launch) (K : gK) (G : gW) (L : Nat → Nat → Nat) (h0 th : Nat) (y : YV) (N : Nat) (w h g i : Nat) (hM : MdC K L h0 th G y N) (hi : i < yKc y) (hb9 : (1 ≤ w ∧ w ≤ 24) ∧ (1 ≤ h ∧ h ≤ 24) ∧ g ≤ 1) : gM l yX8_column wsX8_column 59 1623 26 650 K [.ref h0, .int (nI w), .int (nI h), .int (nI g), .int (nI i)] G (mPost K h0 G (oColumn y (nI w) (nI h) (nI g) (nI i))) (gNo) := by
  refine gM.of (cc := cX8_column) (maxL := 5) (ret := (some .int)) (by decide) rfl (Nat.le_of_ble_eq_true rfl) ?_
  intro p e s m below meth c A S hr hlocks htab hname hE hA hI ls hl
  have hx := S.1
  have hb := S.2.1
  have hml := S.2.2.1
  have hl : lv_has ls 5 [(0, .ref h0), (1, .int (nI w)), (2, .int (nI h)), (3, .int (nI g)), (4, .int (nI i))] := hl
  have h44 := hM.2.1.1.2.2.1
  have h6 := hM.2.1.1.2.2.2
  have hf2 := hM.2.1.1.2.1
  have h40 := hM.2.2.2
  have hth := hM.2.2.1
  have hag : AgM G G := AgM.rf
  have hri : inR (nI i) (yKc y) = true := inR_nI hi (by omega)
  have hiN : iN (nI i) = i := iN_nI (by omega)
  have hp9 := inP_nI hb9
  obtain ⟨⟨b1, b2⟩, ⟨b3, b4⟩, b5⟩ := hb9
  obtain ⟨m1, ar1, hl1⟩ := hM.2.1.2.1.obj
  obtain ⟨m2, ar2, hl2⟩ := hM.2.1.2.2.1.obj
  have ho : oColumn y (nI w) (nI h) (nI g) (nI i) = (0, nI (nV (ySt2 y g) (yF y) i w h), y) := by unfold oColumn; rw [if_pos hri, if_pos hp9, hiN, iN_nI (by omega), iN_nI (by omega), iN_nI (by omega)]
  obtain ⟨H, hHe⟩ : ∃ z, z = s.heap := ⟨_, rfl⟩
  obtain ⟨locs, hLe⟩ : ∃ z : List Loc, z = [] := ⟨_, rfl⟩
  rw [← hHe, ← hLe]
  have hI : gI K A s G H locs := by rw [hHe, hLe]; exact hI
  clear hHe hLe
  refine lv_aload_n hx hb dX8_column_0 rfl (lv_at hl 0 rfl) ?_
  refine lv_iload hx hb dX8_column_1 (lv_at hl 4 rfl) ?_
  refine g_callV (As := [.int (nI i)]) (rest := []) (b := h0) (n := 1) S hE hI hA (c_X8_isNoKind l K _ L h0 th y N (nI i) hM) gX8_column_X8_isNoKind rfl (by decide +kernel) ⟨Nat.le_of_ble_eq_true rfl, Nat.le_of_ble_eq_true rfl⟩ (g_hro hE hI hM.1 rfl) rfl hl.1 rfl (Nat.le_of_ble_eq_true rfl) dX8_column_3 ⟨Nat.le_of_ble_eq_true rfl, Nat.le_of_ble_eq_true rfl⟩ (fun E ce q9 Gx H1 locs1 hx9 => hx9.elim) (fun rv Gc_3 H locs hp hI => ?_)
  obtain ⟨rfl, hM, hg9⟩ := hp
  have hag := hag.tr hg9
  rw [hri]
  rw [hri] at hM
  have hM : MdC K L h0 0 Gc_3 y N := hM
  obtain ⟨m1, ar1, hl1⟩ := hM.2.1.2.1.obj
  obtain ⟨m2, ar2, hl2⟩ := hM.2.1.2.2.1.obj
  refine W.eq (g2 := F0 m 6 ls [.int (bI false)]) rfl ?_
  refine lv_if_ne (tgt := 23) hx hb dX8_column_6 (by decide) (fun c_6 => ?_) (fun c_6 => ?_)
  · skip
    have c_6 : false = true := bI_1.mp c_6
    cases c_6
  · skip
    have c_6 : false = false := bI_0.mp c_6
    refine lv_aload_n hx hb dX8_column_9 rfl (lv_at hl 0 rfl) ?_
    refine lv_iload_n hx hb dX8_column_10 rfl (lv_at hl 1 rfl) ?_
    refine lv_iload_n hx hb dX8_column_11 rfl (lv_at hl 2 rfl) ?_
    refine lv_iload_n hx hb dX8_column_12 rfl (lv_at hl 3 rfl) ?_
    refine g_callS (As := [.int (nI w), .int (nI h), .int (nI g)]) (rest := [.ref h0]) (n := 3) S hE hI hA (c_X8_isNoPiece l K _ (nI w) (nI h) (nI g)) gX8_column_X8_isNoPiece rfl (by decide +kernel) ⟨Nat.le_of_ble_eq_true rfl, Nat.le_of_ble_eq_true rfl⟩ rfl hl.1 rfl (Nat.le_of_ble_eq_true rfl) dX8_column_13 ⟨Nat.le_of_ble_eq_true rfl, Nat.le_of_ble_eq_true rfl⟩ (fun E ce q9 Gx H1 locs1 hx9 => hx9.elim) (fun rv Gc_13 H locs hp hI => ?_)
    obtain ⟨rfl, hq9⟩ := hp
    rw [hq9] at hI
    rw [hp9]
    refine W.eq (g2 := F0 m 16 ls [.int (bI false), .ref h0]) rfl ?_
    refine lv_iconst (v := nI 2) hx hb dX8_column_16 (by decide) ?_
    refine g_callV (As := [.int (bI false), .int (nI 2)]) (rest := []) (b := h0) (n := 2) S hE hI hA (c_ref l K _ L h0 y N false 2 hM (by decide)) gX8_column_X8_refuse rfl (by decide +kernel) ⟨Nat.le_of_ble_eq_true rfl, Nat.le_of_ble_eq_true rfl⟩ (g_hro hE hI hM.1 rfl) rfl hl.1 rfl (Nat.le_of_ble_eq_true rfl) dX8_column_17 ⟨Nat.le_of_ble_eq_true rfl, Nat.le_of_ble_eq_true rfl⟩ (fun E ce q9 Gx H1 locs1 hx9 => hx9.elim) (fun rv Gc_17 H locs hp hI => ?_)
    obtain ⟨rfl, hM, hg9⟩ := hp
    have hag := hag.tr hg9
    have hM : MdC K L h0 0 Gc_17 y N := hM
    obtain ⟨m1, ar1, hl1⟩ := hM.2.1.2.1.obj
    obtain ⟨m2, ar2, hl2⟩ := hM.2.1.2.2.1.obj
    refine W.eq (g2 := F0 m 20 ls [.int (bI false)]) rfl ?_
    refine lv_if_eq (tgt := 27) hx hb dX8_column_20 (by decide) (fun c_20 => ?_) (fun c_20 => ?_)
    · skip
      have c_20 : false = false := bI_0.mp c_20
      refine lv_aload_n hx hb dX8_column_27 rfl (lv_at hl 0 rfl) ?_
      refine g_get S hE hI (C := RX8) (T := TX8) (N := 2) (ref := "StonecutterYardModel") (fun w h => (List.mem_cons_of_mem _ (List.mem_append_left _ (List.mem_append_left _ (List.mem_append_left _ (List.mem_append_right _ h)))))) hM.1 rfl 1 (by decide) (List.mem_cons_of_mem _ (List.mem_append_left _ (List.mem_append_left _ (List.mem_append_left _ (List.mem_append_left _ (List.mem_append_left _ (List.mem_of_getElem? (i := 0) rfl))))))) (fun _ h9 => h9) (v := .ref (L 30 0)) rfl dX8_column_28 ?_
      refine lv_aload_n hx hb dX8_column_31 rfl (lv_at hl 0 rfl) ?_
      refine g_get S hE hI (C := RX8) (T := TX8) (N := 2) (ref := "StonecutterYardModel") (fun w h => (List.mem_cons_of_mem _ (List.mem_append_left _ (List.mem_append_left _ (List.mem_append_left _ (List.mem_append_right _ h)))))) hM.1 rfl 1 (by decide) (List.mem_cons_of_mem _ (List.mem_append_left _ (List.mem_append_left _ (List.mem_append_left _ (List.mem_append_left _ (List.mem_append_left _ (List.mem_of_getElem? (i := 0) rfl))))))) (fun _ h9 => h9) (v := .ref (L 30 0)) rfl dX8_column_32 ?_
      refine lv_iload_n hx hb dX8_column_35 rfl (lv_at hl 3 rfl) ?_
      refine g_callV (As := [.int (nI g)]) (rest := [.ref (L 30 0)]) (b := (L 30 0)) (n := 1) S hE hI hA (c_X7_worths l K _ 5 L y N g 11 hM.2.1 (by omega) ⟨by decide, by decide⟩) gX8_column_X7_worths rfl (by decide +kernel) ⟨Nat.le_of_ble_eq_true rfl, Nat.le_of_ble_eq_true rfl⟩ (g_hro hE hI hM.2.1.1.1 rfl) rfl hl.1 rfl (Nat.le_of_ble_eq_true rfl) dX8_column_36 ⟨by show _ ≤ 26; omega, by show _ ≤ 650; omega⟩ (fun E ce q9 Gx H1 locs1 hx9 => hx9.elim) (fun rv Gc_36 H locs hp hI => ?_)
      obtain ⟨qa, rfl, htb, hof⟩ := hp
      have hW : AgW N _ Gc_36 := AgW.one hof (by decide)
      have hm := hW.my hM.2.1
      have htb2 := htb
      obtain ⟨Rr, hto, hrow⟩ := htb2
      refine W.eq (g2 := F0 m 39 ls [.ref qa, .ref (L 30 0)]) rfl ?_
      refine lv_iload_n hx hb dX8_column_39 rfl (lv_at hl 1 rfl) ?_
      refine lv_iload_n hx hb dX8_column_40 rfl (lv_at hl 2 rfl) ?_
      refine lv_iload_n hx hb dX8_column_41 rfl (lv_at hl 3 rfl) ?_
      refine lv_iload hx hb dX8_column_42 (lv_at hl 4 rfl) ?_
      refine g_callV (As := [.ref qa, .int (nI w), .int (nI h), .int (nI g), .int (nI i)]) (rest := []) (b := (L 30 0)) (n := 5) S hE hI hA (c_X7_column l K _ 5 L y N 11 qa w h g i hm htb hi ⟨⟨b1, b2⟩, ⟨b3, b4⟩, b5⟩) gX8_column_X7_column rfl (by decide +kernel) ⟨Nat.le_of_ble_eq_true rfl, Nat.le_of_ble_eq_true rfl⟩ (g_hro hE hI hm.1.1 rfl) rfl hl.1 rfl (Nat.le_of_ble_eq_true rfl) dX8_column_44 ⟨by show _ ≤ 26; omega, by show _ ≤ 650; omega⟩ (fun E ce q9 Gx H1 locs1 hx9 => hx9.elim) (fun rv Gc_44 H locs hp hI => ?_)
      obtain ⟨rfl, hq9⟩ := hp
      rw [hq9] at hI
      refine W.eq (g2 := F0 m 47 ls [.int (nI (nV (ySt2 y g) (yF y) i w h))]) rfl ?_
      exact g_iret S hI hr hlocks (by omega) (by omega) dX8_column_47 (mOk ho (hW.md hM) (hag.tr hW.ag))
    · skip
      have c_20 : false = true := bI_1.mp c_20
      cases c_20
set_option maxHeartbeats 4000000 in
set_option maxRecDepth 100000 in
/-- X8_worthMore: moreA -/
theorem m_moreA (l : Launch) (K : gK) (G : gW) (L : Nat → Nat → Nat) (h0 th : Nat) (y : YV) (N : Nat) (x q : Int32) (hM : MdC K L h0 th G y N) (hxn : ∀ q, q < yKc y → x ≠ nI q) (hr9 : inR x (yKc y) = false) : gM l yX8_worthMore wsX8_worthMore 9 193 341 6637 K [.ref h0, .int x, .int q] G (mPost K h0 G (oMore y x q)) (gNo) := by
  refine gM.of (cc := cX8_worthMore) (maxL := 4) (ret := (some .int)) (by decide) rfl (Nat.le_of_ble_eq_true rfl) ?_
  intro p e s m below meth c A S hr hlocks htab hname hE hA hI ls hl
  have hx := S.1
  have hb := S.2.1
  have hml := S.2.2.1
  have hl : lv_has ls 4 [(0, .ref h0), (1, .int x), (2, .int q)] := hl
  have h44 := hM.2.1.1.2.2.1
  have h6 := hM.2.1.1.2.2.2
  have hf2 := hM.2.1.1.2.1
  have h40 := hM.2.2.2
  have hth := hM.2.2.1
  have hag : AgM G G := AgM.rf
  obtain ⟨m1, ar1, hl1⟩ := hM.2.1.2.1.obj
  obtain ⟨m2, ar2, hl2⟩ := hM.2.1.2.2.1.obj
  have ho : oMore y x q = (1, 0, y) := by unfold oMore; rw [if_neg (by rw [hr9]; decide)]
  obtain ⟨H, hHe⟩ : ∃ z, z = s.heap := ⟨_, rfl⟩
  obtain ⟨locs, hLe⟩ : ∃ z : List Loc, z = [] := ⟨_, rfl⟩
  rw [← hHe, ← hLe]
  have hI : gI K A s G H locs := by rw [hHe, hLe]; exact hI
  clear hHe hLe
  refine lv_aload_n hx hb dX8_worthMore_0 rfl (lv_at hl 0 rfl) ?_
  refine lv_iload_n hx hb dX8_worthMore_1 rfl (lv_at hl 1 rfl) ?_
  refine g_callV (As := [.int x]) (rest := []) (b := h0) (n := 1) S hE hI hA (c_X8_isNoKind l K _ L h0 th y N x hM) gX8_worthMore_X8_isNoKind rfl (by decide +kernel) ⟨Nat.le_of_ble_eq_true rfl, Nat.le_of_ble_eq_true rfl⟩ (g_hro hE hI hM.1 rfl) rfl hl.1 rfl (Nat.le_of_ble_eq_true rfl) dX8_worthMore_2 ⟨Nat.le_of_ble_eq_true rfl, Nat.le_of_ble_eq_true rfl⟩ (fun E ce q9 Gx H1 locs1 hx9 => hx9.elim) (fun rv Gc_2 H locs hp hI => ?_)
  obtain ⟨rfl, hM, hg9⟩ := hp
  have hag := hag.tr hg9
  rw [hr9]
  rw [hr9] at hM
  have hM : MdC K L h0 1 Gc_2 y N := hM
  obtain ⟨m1, ar1, hl1⟩ := hM.2.1.2.1.obj
  obtain ⟨m2, ar2, hl2⟩ := hM.2.1.2.2.1.obj
  refine W.eq (g2 := F0 m 5 ls [.int (bI true)]) rfl ?_
  refine lv_if_ne (tgt := 32) hx hb dX8_worthMore_5 (by decide) (fun c_5 => ?_) (fun c_5 => ?_)
  · skip
    have c_5 : true = true := bI_1.mp c_5
    refine lv_iconst (v := nI 0) hx hb dX8_worthMore_32 (by decide) ?_
    exact g_iret S hI hr hlocks (Nat.zero_le _) (Nat.zero_le _) dX8_worthMore_33 (mThrow ho (by decide) hM hag)
  · skip
    have c_5 : true = false := bI_0.mp c_5
    cases c_5
set_option maxHeartbeats 4000000 in
set_option maxRecDepth 100000 in
/-- X8_worthMore: moreB -/
theorem m_moreB (l : Launch) (K : gK) (G : gW) (L : Nat → Nat → Nat) (h0 th : Nat) (y : YV) (N : Nat) (i : Nat) (q : Int32) (hM : MdC K L h0 th G y N) (hi : i < yKc y) (hb9 : inB q 1 999 = false) : gM l yX8_worthMore wsX8_worthMore 9 193 341 6637 K [.ref h0, .int (nI i), .int q] G (mPost K h0 G (oMore y (nI i) q)) (gNo) := by
  refine gM.of (cc := cX8_worthMore) (maxL := 4) (ret := (some .int)) (by decide) rfl (Nat.le_of_ble_eq_true rfl) ?_
  intro p e s m below meth c A S hr hlocks htab hname hE hA hI ls hl
  have hx := S.1
  have hb := S.2.1
  have hml := S.2.2.1
  have hl : lv_has ls 4 [(0, .ref h0), (1, .int (nI i)), (2, .int q)] := hl
  have h44 := hM.2.1.1.2.2.1
  have h6 := hM.2.1.1.2.2.2
  have hf2 := hM.2.1.1.2.1
  have h40 := hM.2.2.2
  have hth := hM.2.2.1
  have hag : AgM G G := AgM.rf
  have hri : inR (nI i) (yKc y) = true := inR_nI hi (by omega)
  have hiN : iN (nI i) = i := iN_nI (by omega)
  obtain ⟨m1, ar1, hl1⟩ := hM.2.1.2.1.obj
  obtain ⟨m2, ar2, hl2⟩ := hM.2.1.2.2.1.obj
  have ho : oMore y (nI i) q = (2, 0, y) := by unfold oMore; rw [if_pos hri, if_neg (by rw [hb9]; decide)]
  obtain ⟨H, hHe⟩ : ∃ z, z = s.heap := ⟨_, rfl⟩
  obtain ⟨locs, hLe⟩ : ∃ z : List Loc, z = [] := ⟨_, rfl⟩
  rw [← hHe, ← hLe]
  have hI : gI K A s G H locs := by rw [hHe, hLe]; exact hI
  clear hHe hLe
  refine lv_aload_n hx hb dX8_worthMore_0 rfl (lv_at hl 0 rfl) ?_
  refine lv_iload_n hx hb dX8_worthMore_1 rfl (lv_at hl 1 rfl) ?_
  refine g_callV (As := [.int (nI i)]) (rest := []) (b := h0) (n := 1) S hE hI hA (c_X8_isNoKind l K _ L h0 th y N (nI i) hM) gX8_worthMore_X8_isNoKind rfl (by decide +kernel) ⟨Nat.le_of_ble_eq_true rfl, Nat.le_of_ble_eq_true rfl⟩ (g_hro hE hI hM.1 rfl) rfl hl.1 rfl (Nat.le_of_ble_eq_true rfl) dX8_worthMore_2 ⟨Nat.le_of_ble_eq_true rfl, Nat.le_of_ble_eq_true rfl⟩ (fun E ce q9 Gx H1 locs1 hx9 => hx9.elim) (fun rv Gc_2 H locs hp hI => ?_)
  obtain ⟨rfl, hM, hg9⟩ := hp
  have hag := hag.tr hg9
  rw [hri]
  rw [hri] at hM
  have hM : MdC K L h0 0 Gc_2 y N := hM
  obtain ⟨m1, ar1, hl1⟩ := hM.2.1.2.1.obj
  obtain ⟨m2, ar2, hl2⟩ := hM.2.1.2.2.1.obj
  refine W.eq (g2 := F0 m 5 ls [.int (bI false)]) rfl ?_
  refine lv_if_ne (tgt := 32) hx hb dX8_worthMore_5 (by decide) (fun c_5 => ?_) (fun c_5 => ?_)
  · skip
    have c_5 : false = true := bI_1.mp c_5
    cases c_5
  · skip
    have c_5 : false = false := bI_0.mp c_5
    refine lv_aload_n hx hb dX8_worthMore_8 rfl (lv_at hl 0 rfl) ?_
    refine lv_iload_n hx hb dX8_worthMore_9 rfl (lv_at hl 2 rfl) ?_
    refine lv_iconst (v := nI 1) hx hb dX8_worthMore_10 (by decide) ?_
    refine lv_sipush (v := nI 999) hx hb dX8_worthMore_11 (by decide) ?_
    refine g_callS (As := [.int q, .int (nI 1), .int (nI 999)]) (rest := [.ref h0]) (n := 3) S hE hI hA (c_X8_isIn l K _ q (nI 1) (nI 999)) gX8_worthMore_X8_isIn rfl (by decide +kernel) ⟨Nat.le_of_ble_eq_true rfl, Nat.le_of_ble_eq_true rfl⟩ rfl hl.1 rfl (Nat.le_of_ble_eq_true rfl) dX8_worthMore_14 ⟨Nat.le_of_ble_eq_true rfl, Nat.le_of_ble_eq_true rfl⟩ (fun E ce q9 Gx H1 locs1 hx9 => hx9.elim) (fun rv Gc_14 H locs hp hI => ?_)
    obtain ⟨rfl, hq9⟩ := hp
    rw [hq9] at hI
    rw [isI_inB (by decide) (by decide)]
    rw [hb9]
    refine W.eq (g2 := F0 m 17 ls [.int (bI false), .ref h0]) rfl ?_
    refine lv_if_ne (tgt := 24) hx hb dX8_worthMore_17 (by decide) (fun c_17 => ?_) (fun c_17 => ?_)
    · skip
      have c_17 : false = true := bI_1.mp c_17
      cases c_17
    · skip
      have c_17 : false = false := bI_0.mp c_17
      refine lv_iconst (v := nI 1) hx hb dX8_worthMore_20 (by decide) ?_
      refine lv_goto (tgt := 25) hx hb dX8_worthMore_21 (by decide) ?_
      refine lv_iconst (v := nI 2) hx hb dX8_worthMore_25 (by decide) ?_
      refine g_callV (As := [.int (nI 1), .int (nI 2)]) (rest := []) (b := h0) (n := 2) S hE hI hA (c_ref l K _ L h0 y N true 2 hM (by decide)) gX8_worthMore_X8_refuse rfl (by decide +kernel) ⟨Nat.le_of_ble_eq_true rfl, Nat.le_of_ble_eq_true rfl⟩ (g_hro hE hI hM.1 rfl) rfl hl.1 rfl (Nat.le_of_ble_eq_true rfl) dX8_worthMore_26 ⟨Nat.le_of_ble_eq_true rfl, Nat.le_of_ble_eq_true rfl⟩ (fun E ce q9 Gx H1 locs1 hx9 => hx9.elim) (fun rv Gc_26 H locs hp hI => ?_)
      obtain ⟨rfl, hM, hg9⟩ := hp
      have hag := hag.tr hg9
      have hM : MdC K L h0 2 Gc_26 y N := hM
      obtain ⟨m1, ar1, hl1⟩ := hM.2.1.2.1.obj
      obtain ⟨m2, ar2, hl2⟩ := hM.2.1.2.2.1.obj
      refine W.eq (g2 := F0 m 29 ls [.int (bI true)]) rfl ?_
      refine lv_if_eq (tgt := 34) hx hb dX8_worthMore_29 (by decide) (fun c_29 => ?_) (fun c_29 => ?_)
      · skip
        have c_29 : true = false := bI_0.mp c_29
        cases c_29
      · skip
        have c_29 : true = true := bI_1.mp c_29
        refine lv_iconst (v := nI 0) hx hb dX8_worthMore_32 (by decide) ?_
        exact g_iret S hI hr hlocks (Nat.zero_le _) (Nat.zero_le _) dX8_worthMore_33 (mThrow ho (by decide) hM hag)
set_option maxHeartbeats 4000000 in
set_option maxRecDepth 100000 in
/-- X8_worthMore: moreC -/
theorem m_moreC (l : Launch) (K : gK) (G : gW) (L : Nat → Nat → Nat) (h0 th : Nat) (y : YV) (N : Nat) (i q : Nat) (hM : MdC K L h0 th G y N) (hi : i < yKc y) (hb9 : 1 ≤ q ∧ q ≤ 999) : gM l yX8_worthMore wsX8_worthMore 9 193 341 6637 K [.ref h0, .int (nI i), .int (nI q)] G (mPost K h0 G (oMore y (nI i) (nI q))) (gNo) := by
  refine gM.of (cc := cX8_worthMore) (maxL := 4) (ret := (some .int)) (by decide) rfl (Nat.le_of_ble_eq_true rfl) ?_
  intro p e s m below meth c A S hr hlocks htab hname hE hA hI ls hl
  have hx := S.1
  have hb := S.2.1
  have hml := S.2.2.1
  have hl : lv_has ls 4 [(0, .ref h0), (1, .int (nI i)), (2, .int (nI q))] := hl
  have h44 := hM.2.1.1.2.2.1
  have h6 := hM.2.1.1.2.2.2
  have hf2 := hM.2.1.1.2.1
  have h40 := hM.2.2.2
  have hth := hM.2.2.1
  have hag : AgM G G := AgM.rf
  have hri : inR (nI i) (yKc y) = true := inR_nI hi (by omega)
  have hiN : iN (nI i) = i := iN_nI (by omega)
  obtain ⟨m1, ar1, hl1⟩ := hM.2.1.2.1.obj
  obtain ⟨m2, ar2, hl2⟩ := hM.2.1.2.2.1.obj
  have hx3 : inB (nI q) 1 999 = true := by rw [inB_nI (by omega)]; exact decide_eq_true (by omega)
  have hx3 : inB (nI q) 1 999 = true := by rw [inB_nI (by omega)]; exact decide_eq_true (by omega)
  have ho : oMore y (nI i) (nI q) = (0, nI (yAll (ySetK y i (kPr (yK y i) q))) - nI (yAll y), y) := by unfold oMore; rw [if_pos hri, hiN, if_pos (by rw [inB_nI (by omega)]; exact decide_eq_true (by omega)), iN_nI (by omega)]
  obtain ⟨H, hHe⟩ : ∃ z, z = s.heap := ⟨_, rfl⟩
  obtain ⟨locs, hLe⟩ : ∃ z : List Loc, z = [] := ⟨_, rfl⟩
  rw [← hHe, ← hLe]
  have hI : gI K A s G H locs := by rw [hHe, hLe]; exact hI
  clear hHe hLe
  refine lv_aload_n hx hb dX8_worthMore_0 rfl (lv_at hl 0 rfl) ?_
  refine lv_iload_n hx hb dX8_worthMore_1 rfl (lv_at hl 1 rfl) ?_
  refine g_callV (As := [.int (nI i)]) (rest := []) (b := h0) (n := 1) S hE hI hA (c_X8_isNoKind l K _ L h0 th y N (nI i) hM) gX8_worthMore_X8_isNoKind rfl (by decide +kernel) ⟨Nat.le_of_ble_eq_true rfl, Nat.le_of_ble_eq_true rfl⟩ (g_hro hE hI hM.1 rfl) rfl hl.1 rfl (Nat.le_of_ble_eq_true rfl) dX8_worthMore_2 ⟨Nat.le_of_ble_eq_true rfl, Nat.le_of_ble_eq_true rfl⟩ (fun E ce q9 Gx H1 locs1 hx9 => hx9.elim) (fun rv Gc_2 H locs hp hI => ?_)
  obtain ⟨rfl, hM, hg9⟩ := hp
  have hag := hag.tr hg9
  rw [hri]
  rw [hri] at hM
  have hM : MdC K L h0 0 Gc_2 y N := hM
  obtain ⟨m1, ar1, hl1⟩ := hM.2.1.2.1.obj
  obtain ⟨m2, ar2, hl2⟩ := hM.2.1.2.2.1.obj
  refine W.eq (g2 := F0 m 5 ls [.int (bI false)]) rfl ?_
  refine lv_if_ne (tgt := 32) hx hb dX8_worthMore_5 (by decide) (fun c_5 => ?_) (fun c_5 => ?_)
  · skip
    have c_5 : false = true := bI_1.mp c_5
    cases c_5
  · skip
    have c_5 : false = false := bI_0.mp c_5
    refine lv_aload_n hx hb dX8_worthMore_8 rfl (lv_at hl 0 rfl) ?_
    refine lv_iload_n hx hb dX8_worthMore_9 rfl (lv_at hl 2 rfl) ?_
    refine lv_iconst (v := nI 1) hx hb dX8_worthMore_10 (by decide) ?_
    refine lv_sipush (v := nI 999) hx hb dX8_worthMore_11 (by decide) ?_
    refine g_callS (As := [.int (nI q), .int (nI 1), .int (nI 999)]) (rest := [.ref h0]) (n := 3) S hE hI hA (c_X8_isIn l K _ (nI q) (nI 1) (nI 999)) gX8_worthMore_X8_isIn rfl (by decide +kernel) ⟨Nat.le_of_ble_eq_true rfl, Nat.le_of_ble_eq_true rfl⟩ rfl hl.1 rfl (Nat.le_of_ble_eq_true rfl) dX8_worthMore_14 ⟨Nat.le_of_ble_eq_true rfl, Nat.le_of_ble_eq_true rfl⟩ (fun E ce q9 Gx H1 locs1 hx9 => hx9.elim) (fun rv Gc_14 H locs hp hI => ?_)
    obtain ⟨rfl, hq9⟩ := hp
    rw [hq9] at hI
    rw [isI_inB (by decide) (by decide)]
    rw [hx3]
    refine W.eq (g2 := F0 m 17 ls [.int (bI true), .ref h0]) rfl ?_
    refine lv_if_ne (tgt := 24) hx hb dX8_worthMore_17 (by decide) (fun c_17 => ?_) (fun c_17 => ?_)
    · skip
      have c_17 : true = true := bI_1.mp c_17
      refine lv_iconst (v := nI 0) hx hb dX8_worthMore_24 (by decide) ?_
      refine lv_iconst (v := nI 2) hx hb dX8_worthMore_25 (by decide) ?_
      refine g_callV (As := [.int (nI 0), .int (nI 2)]) (rest := []) (b := h0) (n := 2) S hE hI hA (c_ref l K _ L h0 y N false 2 hM (by decide)) gX8_worthMore_X8_refuse rfl (by decide +kernel) ⟨Nat.le_of_ble_eq_true rfl, Nat.le_of_ble_eq_true rfl⟩ (g_hro hE hI hM.1 rfl) rfl hl.1 rfl (Nat.le_of_ble_eq_true rfl) dX8_worthMore_26 ⟨Nat.le_of_ble_eq_true rfl, Nat.le_of_ble_eq_true rfl⟩ (fun E ce q9 Gx H1 locs1 hx9 => hx9.elim) (fun rv Gc_26 H locs hp hI => ?_)
      obtain ⟨rfl, hM, hg9⟩ := hp
      have hag := hag.tr hg9
      have hM : MdC K L h0 0 Gc_26 y N := hM
      obtain ⟨m1, ar1, hl1⟩ := hM.2.1.2.1.obj
      obtain ⟨m2, ar2, hl2⟩ := hM.2.1.2.2.1.obj
      refine W.eq (g2 := F0 m 29 ls [.int (bI false)]) rfl ?_
      refine lv_if_eq (tgt := 34) hx hb dX8_worthMore_29 (by decide) (fun c_29 => ?_) (fun c_29 => ?_)
      · skip
        have c_29 : false = false := bI_0.mp c_29
        refine lv_aload_n hx hb dX8_worthMore_34 rfl (lv_at hl 0 rfl) ?_
        refine g_get S hE hI (C := RX8) (T := TX8) (N := 2) (ref := "StonecutterYardModel") (fun w h => (List.mem_cons_of_mem _ (List.mem_append_left _ (List.mem_append_left _ (List.mem_append_left _ (List.mem_append_left _ (List.mem_append_right _ h))))))) hM.1 rfl 1 (by decide) (List.mem_cons_of_mem _ (List.mem_append_left _ (List.mem_append_left _ (List.mem_append_left _ (List.mem_append_left _ (List.mem_append_left _ (List.mem_append_left _ (List.mem_of_getElem? (i := 0) rfl)))))))) (fun _ h9 => h9) (v := .ref (L 30 0)) rfl dX8_worthMore_35 ?_
        refine g_callV (As := []) (rest := []) (b := (L 30 0)) (n := 0) S hE hI hA (c_X7_copy l K _ 5 7 L y N hM.2.1 ⟨by decide, by decide, by decide, by decide, by decide⟩) gX8_worthMore_X7_copy rfl (by decide +kernel) ⟨Nat.le_of_ble_eq_true rfl, Nat.le_of_ble_eq_true rfl⟩ (g_hro hE hI hM.2.1.1.1 rfl) rfl hl.1 rfl (Nat.le_of_ble_eq_true rfl) dX8_worthMore_38 ⟨by show _ ≤ 341; omega, by show _ ≤ 6637; omega⟩ (fun E ce q9 Gx H1 locs1 hx9 => hx9.elim) (fun rv Gc_38 H locs hp hI => ?_)
        obtain ⟨L7, rfl, hmc, hof⟩ := hp
        have hW : AgW N _ Gc_38 := AgW.cp hof
        have hM := hW.md hM
        have hag := hag.tr hW.ag
        obtain ⟨mc9, arc, hlc⟩ := hmc.2.2.1.obj
        obtain ⟨m1, ar1, hl1⟩ := hM.2.1.2.1.obj
        obtain ⟨m2, ar2, hl2⟩ := hM.2.1.2.2.1.obj
        refine W.eq (g2 := F0 m 41 ls [.ref (L7 30 0)]) rfl ?_
        refine lv_astore_n (lv' := [(3, .ref (L7 30 0)), (0, .ref h0), (1, .int (nI i)), (2, .int (nI q))]) hx hb dX8_worthMore_41 rfl hl (by decide) rfl (fun ls hl => ?_)
        refine lv_aload_n hx hb dX8_worthMore_42 rfl (lv_at hl 0 rfl) ?_
        refine g_get S hE hI (C := RX7) (T := TX7) (N := 3) (ref := "StonecutterYardModel$Yard") (fun w h => (List.mem_cons_of_mem _ (List.mem_append_left _ (List.mem_append_left _ (List.mem_append_left _ (List.mem_append_right _ h)))))) hmc.1.1 rfl 1 (by decide) (List.mem_cons_of_mem _ (List.mem_append_left _ (List.mem_append_left _ (List.mem_append_left _ (List.mem_append_left _ (List.mem_append_left _ (List.mem_append_left _ (List.mem_of_getElem? (i := 1) rfl)))))))) (fun _ h9 => h9) (v := .ref (L7 33 0)) rfl dX8_worthMore_43 ?_
        refine lv_iload_n hx hb dX8_worthMore_46 rfl (lv_at hl 2 rfl) ?_
        refine g_callV (As := [.int (nI i)]) (rest := []) (b := (L7 33 0)) (n := 1) S hE hI hA (l_get l K _ (7, 33, 0) (tbL 7 34) (L7 33 0) (yKc y) (L7 38) i hmc.2.2.1 hi) gX8_worthMore_Jx4a65c_get_915e3 rfl (by decide +kernel) ⟨Nat.le_of_ble_eq_true rfl, Nat.le_of_ble_eq_true rfl⟩ (g_hro hE hI hlc rfl) rfl hl.1 rfl (Nat.le_of_ble_eq_true rfl) dX8_worthMore_47 ⟨by show _ ≤ 341; omega, by show _ ≤ 6637; omega⟩ (fun E ce q9 Gx H1 locs1 hx9 => hx9.elim) (fun rv Gc_47 H locs hp hI => ?_)
        obtain ⟨rfl, hq9⟩ := hp
        rw [hq9] at hI
        obtain ⟨hkc, hkcok⟩ := hmc.2.2.2.2 i hi
        obtain ⟨k1, k2, k3, k4, k5, k6, k7, k8, k9⟩ := id hkcok
        refine W.eq (g2 := F0 m 50 ls [.ref (L7 38 i)]) rfl ?_
        refine g_cast S (List.mem_cons_of_mem _ (List.mem_append_left _ (List.mem_append_left _ (List.mem_append_left _ (List.mem_append_left _ (List.mem_append_left _ (List.mem_append_left _ (List.mem_of_getElem? (i := 2) rfl)))))))) (g_hro hE hI hkc rfl) dX8_worthMore_50 ?_
        refine lv_iload_n hx hb dX8_worthMore_53 rfl (lv_at hl 3 rfl) ?_
        refine g_put S hE hI (C := RX5) (T := TX5) (N := 8) (ref := "StonecutterYardModel$Kind") (fun w h => (List.mem_cons_of_mem _ (List.mem_append_left _ (List.mem_append_left _ (List.mem_append_right _ h))))) tyX5 tyX5_ok nmX5 hkc rfl 4 (by decide) (List.mem_cons_of_mem _ (List.mem_append_left _ (List.mem_append_left _ (List.mem_append_left _ (List.mem_append_left _ (List.mem_append_left _ (List.mem_append_left _ (List.mem_of_getElem? (i := 3) rfl)))))))) (fun _ h9 => h9) rfl rfl rfl (Nat.le_of_ble_eq_true rfl) dX8_worthMore_54 (fun H locs hI => ?_)
        have hI : gI K A s (gset Gc_38 (7, 38, i) (L7 38 i) (.inr (6, [.int (nI (kL (yK y i))), .int (nI (kB (yK y i))), .int (nI (kW (yK y i))), .int (nI (kF (yK y i))), .int (nI q), .int (nI (kN (yK y i))), .int (nI (kT (yK y i))), .int (nI (kD (yK y i)))]))) H locs := hI
        obtain ⟨G_1, hG_1⟩ : ∃ z, z = gset Gc_38 (7, 38, i) (L7 38 i) (.inr (6, [.int (nI (kL (yK y i))), .int (nI (kB (yK y i))), .int (nI (kW (yK y i))), .int (nI (kF (yK y i))), .int (nI q), .int (nI (kN (yK y i))), .int (nI (kT (yK y i))), .int (nI (kD (yK y i)))])) := ⟨_, rfl⟩
        rw [← hG_1] at hI
        have o_G_1 : G_1 (9, 0, 0) = some (h0, .inr (9, [.int (nI 0), .ref (L 30 0)])) := by rw [hG_1, gset_ne (by simp)]; exact hM.1
        have yd_G_1 : G_1 (5, 30, 0) = some ((L 30 0), .inr (8, [.ref (L 31 0), .ref (L 33 0), .int (nI (yF y))])) := by rw [hG_1, gset_ne (by simp)]; exact hM.2.1.1.1
        have ls_G_1 : G_1 (5, 31, 0) = some ((L 31 0), .inr (0, [.int m1, .ref ar1, .int (nI (ySc y))])) := by rw [hG_1, gset_ne (by simp)]; exact hl1
        have lk_G_1 : G_1 (5, 33, 0) = some ((L 33 0), .inr (0, [.int m2, .ref ar2, .int (nI (yKc y))])) := by rw [hG_1, gset_ne (by simp)]; exact hl2
        have ydc_G_1 : G_1 (7, 30, 0) = some ((L7 30 0), .inr (8, [.ref (L7 31 0), .ref (L7 33 0), .int (nI (yF y))])) := by rw [hG_1, gset_ne (by simp)]; exact hmc.1.1
        have lkc_G_1 : G_1 (7, 33, 0) = some ((L7 33 0), .inr (0, [.int mc9, .ref arc, .int (nI (yKc y))])) := by rw [hG_1, gset_ne (by simp)]; exact hlc
        have kc_G_1 : G_1 (7, 38, i) = some ((L7 38 i), .inr (6, [.int (nI (kL (yK y i))), .int (nI (kB (yK y i))), .int (nI (kW (yK y i))), .int (nI (kF (yK y i))), .int (nI q), .int (nI (kN (yK y i))), .int (nI (kT (yK y i))), .int (nI (kD (yK y i)))])) := by rw [hG_1]; exact gset_eq _ _ _ _
        have hmk : MY K 7 L7 G_1 (ySetK y i (kPr (yK y i) q)) N := by rw [hG_1]; exact hmc.setK (by decide) ⟨k1, k2, k3, k4, k5, k6, hb9.1, hb9.2, k9⟩
        have hW7 : AgW N Gc_38 G_1 := AgW.one (r := 7) (fun t ht => by rw [hG_1]; exact gset_ne (fun z9 => ht (by rw [z9]))) (by decide)
        have hM := hW7.md hM
        have hag := hag.tr hW7.ag
        refine lv_aload_n hx hb dX8_worthMore_57 rfl (lv_at hl 0 rfl) ?_
        refine g_callV (As := []) (rest := []) (b := (L7 30 0)) (n := 0) S hE hI hA (c_X7_worthThere l K _ 7 L7 (ySetK y i (kPr (yK y i) q)) N hmk (by decide)) gX8_worthMore_X7_worthThere rfl (by decide +kernel) ⟨Nat.le_of_ble_eq_true rfl, Nat.le_of_ble_eq_true rfl⟩ (g_hro hE hI hmk.1.1 rfl) rfl hl.1 rfl (Nat.le_of_ble_eq_true rfl) dX8_worthMore_58 ⟨by show _ ≤ 341; omega, by show _ ≤ 6637; omega⟩ (fun E ce q9 Gx H1 locs1 hx9 => hx9.elim) (fun rv Gc_58 H locs hp hI => ?_)
        obtain ⟨rfl, hof9⟩ := hp
        have hWt : AgW N _ Gc_58 := AgW.ta hof9
        have hM := hWt.md hM
        have hag := hag.tr hWt.ag
        obtain ⟨m1, ar1, hl1⟩ := hM.2.1.2.1.obj
        obtain ⟨m2, ar2, hl2⟩ := hM.2.1.2.2.1.obj
        refine W.eq (g2 := F0 m 61 ls [.int (nI (yAll (ySetK y i (kPr (yK y i) q))))]) rfl ?_
        refine lv_aload_n hx hb dX8_worthMore_61 rfl (lv_at hl 1 rfl) ?_
        refine g_get S hE hI (C := RX8) (T := TX8) (N := 2) (ref := "StonecutterYardModel") (fun w h => (List.mem_cons_of_mem _ (List.mem_append_left _ (List.mem_append_left _ (List.mem_append_left _ (List.mem_append_left _ (List.mem_append_right _ h))))))) hM.1 rfl 1 (by decide) (List.mem_cons_of_mem _ (List.mem_append_left _ (List.mem_append_left _ (List.mem_append_left _ (List.mem_append_left _ (List.mem_append_left _ (List.mem_append_left _ (List.mem_of_getElem? (i := 0) rfl)))))))) (fun _ h9 => h9) (v := .ref (L 30 0)) rfl dX8_worthMore_62 ?_
        refine g_callV (As := []) (rest := [.int (nI (yAll (ySetK y i (kPr (yK y i) q))))]) (b := (L 30 0)) (n := 0) S hE hI hA (c_X7_worthThere l K _ 5 L y N hM.2.1 (by decide)) gX8_worthMore_X7_worthThere rfl (by decide +kernel) ⟨Nat.le_of_ble_eq_true rfl, Nat.le_of_ble_eq_true rfl⟩ (g_hro hE hI hM.2.1.1.1 rfl) rfl hl.1 rfl (Nat.le_of_ble_eq_true rfl) dX8_worthMore_65 ⟨by show _ ≤ 341; omega, by show _ ≤ 6637; omega⟩ (fun E ce q9 Gx H1 locs1 hx9 => hx9.elim) (fun rv Gc_65 H locs hp hI => ?_)
        obtain ⟨rfl, hof9⟩ := hp
        have hWt : AgW N _ Gc_65 := AgW.ta hof9
        have hM := hWt.md hM
        have hag := hag.tr hWt.ag
        obtain ⟨m1, ar1, hl1⟩ := hM.2.1.2.1.obj
        obtain ⟨m2, ar2, hl2⟩ := hM.2.1.2.2.1.obj
        refine W.eq (g2 := F0 m 68 ls [.int (nI (yAll y)), .int (nI (yAll (ySetK y i (kPr (yK y i) q))))]) rfl ?_
        refine lv_isub hx hb dX8_worthMore_68 ?_
        exact g_iret S hI hr hlocks (by omega) (by omega) dX8_worthMore_69 (mOk ho hM hag)
      · skip
        have c_29 : false = true := bI_1.mp c_29
        cases c_29
    · skip
      have c_17 : true = false := bI_0.mp c_17
      cases c_17
set_option maxHeartbeats 4000000 in
set_option maxRecDepth 100000 in
/-- X8_wasteBy: wasteByA -/
theorem m_wasteByA (l : Launch) (K : gK) (G : gW) (L : Nat → Nat → Nat) (h0 th : Nat) (y : YV) (N : Nat) (x k : Int32) (hM : MdC K L h0 th G y N) (hxn : ∀ q, q < ySc y → x ≠ nI q) (hr9 : inR x (ySc y) = false) : gM l yX8_wasteBy wsX8_wasteBy 10 228 283 4573 K [.ref h0, .int x, .int k] G (mPost K h0 G (oWasteBy y x k)) (gNo) := by
  refine gM.of (cc := cX8_wasteBy) (maxL := 4) (ret := (some .int)) (by decide) rfl (Nat.le_of_ble_eq_true rfl) ?_
  intro p e s m below meth c A S hr hlocks htab hname hE hA hI ls hl
  have hx := S.1
  have hb := S.2.1
  have hml := S.2.2.1
  have hl : lv_has ls 4 [(0, .ref h0), (1, .int x), (2, .int k)] := hl
  have h44 := hM.2.1.1.2.2.1
  have h6 := hM.2.1.1.2.2.2
  have hf2 := hM.2.1.1.2.1
  have h40 := hM.2.2.2
  have hth := hM.2.2.1
  have hag : AgM G G := AgM.rf
  obtain ⟨m1, ar1, hl1⟩ := hM.2.1.2.1.obj
  obtain ⟨m2, ar2, hl2⟩ := hM.2.1.2.2.1.obj
  have ho : oWasteBy y x k = (1, 0, y) := by unfold oWasteBy; rw [if_neg (by rw [hr9]; simp)]
  obtain ⟨H, hHe⟩ : ∃ z, z = s.heap := ⟨_, rfl⟩
  obtain ⟨locs, hLe⟩ : ∃ z : List Loc, z = [] := ⟨_, rfl⟩
  rw [← hHe, ← hLe]
  have hI : gI K A s G H locs := by rw [hHe, hLe]; exact hI
  clear hHe hLe
  refine lv_aload_n hx hb dX8_wasteBy_0 rfl (lv_at hl 0 rfl) ?_
  refine lv_iload_n hx hb dX8_wasteBy_1 rfl (lv_at hl 1 rfl) ?_
  refine lv_iload_n hx hb dX8_wasteBy_2 rfl (lv_at hl 2 rfl) ?_
  refine g_callV (As := [.int x, .int k]) (rest := []) (b := h0) (n := 2) S hE hI hA (c_pairA l K _ L h0 th y N x k hM hr9) gX8_wasteBy_X8_isNoPair rfl (by decide +kernel) ⟨Nat.le_of_ble_eq_true rfl, Nat.le_of_ble_eq_true rfl⟩ (g_hro hE hI hM.1 rfl) rfl hl.1 rfl (Nat.le_of_ble_eq_true rfl) dX8_wasteBy_3 ⟨Nat.le_of_ble_eq_true rfl, Nat.le_of_ble_eq_true rfl⟩ (fun E ce q9 Gx H1 locs1 hx9 => hx9.elim) (fun rv Gc_3 H locs hp hI => ?_)
  obtain ⟨rfl, hM, hg9⟩ := hp
  have hag := hag.tr hg9
  have hM : MdC K L h0 1 Gc_3 y N := hM
  obtain ⟨m1, ar1, hl1⟩ := hM.2.1.2.1.obj
  obtain ⟨m2, ar2, hl2⟩ := hM.2.1.2.2.1.obj
  refine W.eq (g2 := F0 m 6 ls [.int (bI true)]) rfl ?_
  refine lv_if_eq (tgt := 11) hx hb dX8_wasteBy_6 (by decide) (fun c_6 => ?_) (fun c_6 => ?_)
  · skip
    have c_6 : true = false := bI_0.mp c_6
    cases c_6
  · skip
    have c_6 : true = true := bI_1.mp c_6
    refine lv_iconst (v := nI 0) hx hb dX8_wasteBy_9 (by decide) ?_
    exact g_iret S hI hr hlocks (Nat.zero_le _) (Nat.zero_le _) dX8_wasteBy_10 (mThrow ho (by decide) hM hag)
set_option maxHeartbeats 4000000 in
set_option maxRecDepth 100000 in
/-- X8_wasteBy: wasteByB -/
theorem m_wasteByB (l : Launch) (K : gK) (G : gW) (L : Nat → Nat → Nat) (h0 th : Nat) (y : YV) (N : Nat) (i : Nat) (x : Int32) (hM : MdC K L h0 th G y N) (hi : i < ySc y) (hxn : ∀ q, q < yKc y → x ≠ nI q) (hr9 : inR x (yKc y) = false) : gM l yX8_wasteBy wsX8_wasteBy 10 228 283 4573 K [.ref h0, .int (nI i), .int x] G (mPost K h0 G (oWasteBy y (nI i) x)) (gNo) := by
  refine gM.of (cc := cX8_wasteBy) (maxL := 4) (ret := (some .int)) (by decide) rfl (Nat.le_of_ble_eq_true rfl) ?_
  intro p e s m below meth c A S hr hlocks htab hname hE hA hI ls hl
  have hx := S.1
  have hb := S.2.1
  have hml := S.2.2.1
  have hl : lv_has ls 4 [(0, .ref h0), (1, .int (nI i)), (2, .int x)] := hl
  have h44 := hM.2.1.1.2.2.1
  have h6 := hM.2.1.1.2.2.2
  have hf2 := hM.2.1.1.2.1
  have h40 := hM.2.2.2
  have hth := hM.2.2.1
  have hag : AgM G G := AgM.rf
  have hri : inR (nI i) (ySc y) = true := inR_nI hi (by omega)
  have hiN : iN (nI i) = i := iN_nI (by omega)
  obtain ⟨m1, ar1, hl1⟩ := hM.2.1.2.1.obj
  obtain ⟨m2, ar2, hl2⟩ := hM.2.1.2.2.1.obj
  have ho : oWasteBy y (nI i) x = (1, 0, y) := by unfold oWasteBy; rw [if_neg (by rw [hr9]; simp)]
  obtain ⟨H, hHe⟩ : ∃ z, z = s.heap := ⟨_, rfl⟩
  obtain ⟨locs, hLe⟩ : ∃ z : List Loc, z = [] := ⟨_, rfl⟩
  rw [← hHe, ← hLe]
  have hI : gI K A s G H locs := by rw [hHe, hLe]; exact hI
  clear hHe hLe
  refine lv_aload_n hx hb dX8_wasteBy_0 rfl (lv_at hl 0 rfl) ?_
  refine lv_iload_n hx hb dX8_wasteBy_1 rfl (lv_at hl 1 rfl) ?_
  refine lv_iload_n hx hb dX8_wasteBy_2 rfl (lv_at hl 2 rfl) ?_
  refine g_callV (As := [.int (nI i), .int x]) (rest := []) (b := h0) (n := 2) S hE hI hA (c_pairB l K _ L h0 th y N (nI i) x hM hri hr9) gX8_wasteBy_X8_isNoPair rfl (by decide +kernel) ⟨Nat.le_of_ble_eq_true rfl, Nat.le_of_ble_eq_true rfl⟩ (g_hro hE hI hM.1 rfl) rfl hl.1 rfl (Nat.le_of_ble_eq_true rfl) dX8_wasteBy_3 ⟨Nat.le_of_ble_eq_true rfl, Nat.le_of_ble_eq_true rfl⟩ (fun E ce q9 Gx H1 locs1 hx9 => hx9.elim) (fun rv Gc_3 H locs hp hI => ?_)
  obtain ⟨rfl, hM, hg9⟩ := hp
  have hag := hag.tr hg9
  have hM : MdC K L h0 1 Gc_3 y N := hM
  obtain ⟨m1, ar1, hl1⟩ := hM.2.1.2.1.obj
  obtain ⟨m2, ar2, hl2⟩ := hM.2.1.2.2.1.obj
  refine W.eq (g2 := F0 m 6 ls [.int (bI true)]) rfl ?_
  refine lv_if_eq (tgt := 11) hx hb dX8_wasteBy_6 (by decide) (fun c_6 => ?_) (fun c_6 => ?_)
  · skip
    have c_6 : true = false := bI_0.mp c_6
    cases c_6
  · skip
    have c_6 : true = true := bI_1.mp c_6
    refine lv_iconst (v := nI 0) hx hb dX8_wasteBy_9 (by decide) ?_
    exact g_iret S hI hr hlocks (Nat.zero_le _) (Nat.zero_le _) dX8_wasteBy_10 (mThrow ho (by decide) hM hag)
set_option maxHeartbeats 4000000 in
set_option maxRecDepth 100000 in
/-- X8_wasteBy: wasteByC -/
theorem m_wasteByC (l : Launch) (K : gK) (G : gW) (L : Nat → Nat → Nat) (h0 th : Nat) (y : YV) (N : Nat) (i j : Nat) (hM : MdC K L h0 th G y N) (hi : i < ySc y) (hj : j < yKc y) (hfit : sFits (yS y i) (yK y j) = none) : gM l yX8_wasteBy wsX8_wasteBy 10 228 283 4573 K [.ref h0, .int (nI i), .int (nI j)] G (mPost K h0 G (oWasteBy y (nI i) (nI j))) (gNo) := by
  refine gM.of (cc := cX8_wasteBy) (maxL := 4) (ret := (some .int)) (by decide) rfl (Nat.le_of_ble_eq_true rfl) ?_
  intro p e s m below meth c A S hr hlocks htab hname hE hA hI ls hl
  have hx := S.1
  have hb := S.2.1
  have hml := S.2.2.1
  have hl : lv_has ls 4 [(0, .ref h0), (1, .int (nI i)), (2, .int (nI j))] := hl
  have h44 := hM.2.1.1.2.2.1
  have h6 := hM.2.1.1.2.2.2
  have hf2 := hM.2.1.1.2.1
  have h40 := hM.2.2.2
  have hth := hM.2.2.1
  have hag : AgM G G := AgM.rf
  have hri : inR (nI i) (ySc y) = true := inR_nI hi (by omega)
  have hiN : iN (nI i) = i := iN_nI (by omega)
  have hrj : inR (nI j) (yKc y) = true := inR_nI hj (by omega)
  have hjN : iN (nI j) = j := iN_nI (by omega)
  obtain ⟨m1, ar1, hl1⟩ := hM.2.1.2.1.obj
  obtain ⟨m2, ar2, hl2⟩ := hM.2.1.2.2.1.obj
  obtain ⟨hsl, hfl, hsok⟩ := hM.2.1.2.2.2.1 i hi
  obtain ⟨s1, s2, s3, s4, s5, s6, s7, s8⟩ := id hsok
  obtain ⟨hkd, hkok⟩ := hM.2.1.2.2.2.2 j hj
  obtain ⟨k1, k2, k3, k4, k5, k6, k7, k8, k9⟩ := id hkok
  have ho : oWasteBy y (nI i) (nI j) = (0, -1, y) := by unfold oWasteBy; rw [if_pos (by rw [hri, hrj]; rfl), hiN, hjN, hfit]
  obtain ⟨H, hHe⟩ : ∃ z, z = s.heap := ⟨_, rfl⟩
  obtain ⟨locs, hLe⟩ : ∃ z : List Loc, z = [] := ⟨_, rfl⟩
  rw [← hHe, ← hLe]
  have hI : gI K A s G H locs := by rw [hHe, hLe]; exact hI
  clear hHe hLe
  refine lv_aload_n hx hb dX8_wasteBy_0 rfl (lv_at hl 0 rfl) ?_
  refine lv_iload_n hx hb dX8_wasteBy_1 rfl (lv_at hl 1 rfl) ?_
  refine lv_iload_n hx hb dX8_wasteBy_2 rfl (lv_at hl 2 rfl) ?_
  refine g_callV (As := [.int (nI i), .int (nI j)]) (rest := []) (b := h0) (n := 2) S hE hI hA (c_pairC l K _ L h0 th y N (nI i) (nI j) hM hri hrj) gX8_wasteBy_X8_isNoPair rfl (by decide +kernel) ⟨Nat.le_of_ble_eq_true rfl, Nat.le_of_ble_eq_true rfl⟩ (g_hro hE hI hM.1 rfl) rfl hl.1 rfl (Nat.le_of_ble_eq_true rfl) dX8_wasteBy_3 ⟨Nat.le_of_ble_eq_true rfl, Nat.le_of_ble_eq_true rfl⟩ (fun E ce q9 Gx H1 locs1 hx9 => hx9.elim) (fun rv Gc_3 H locs hp hI => ?_)
  obtain ⟨rfl, hM, hg9⟩ := hp
  have hag := hag.tr hg9
  have hM : MdC K L h0 0 Gc_3 y N := hM
  obtain ⟨m1, ar1, hl1⟩ := hM.2.1.2.1.obj
  obtain ⟨m2, ar2, hl2⟩ := hM.2.1.2.2.1.obj
  obtain ⟨hsl, hfl, hsok⟩ := hM.2.1.2.2.2.1 i hi
  obtain ⟨s1, s2, s3, s4, s5, s6, s7, s8⟩ := id hsok
  obtain ⟨hkd, hkok⟩ := hM.2.1.2.2.2.2 j hj
  obtain ⟨k1, k2, k3, k4, k5, k6, k7, k8, k9⟩ := id hkok
  refine W.eq (g2 := F0 m 6 ls [.int (bI false)]) rfl ?_
  refine lv_if_eq (tgt := 11) hx hb dX8_wasteBy_6 (by decide) (fun c_6 => ?_) (fun c_6 => ?_)
  · skip
    have c_6 : false = false := bI_0.mp c_6
    refine lv_aload_n hx hb dX8_wasteBy_11 rfl (lv_at hl 0 rfl) ?_
    refine g_get S hE hI (C := RX8) (T := TX8) (N := 2) (ref := "StonecutterYardModel") (fun w h => (List.mem_cons_of_mem _ (List.mem_append_left _ (List.mem_append_left _ (List.mem_append_left _ (List.mem_append_left _ (List.mem_append_right _ h))))))) hM.1 rfl 1 (by decide) (List.mem_cons_of_mem _ (List.mem_append_left _ (List.mem_append_left _ (List.mem_append_left _ (List.mem_append_left _ (List.mem_append_left _ (List.mem_append_left _ (List.mem_of_getElem? (i := 0) rfl)))))))) (fun _ h9 => h9) (v := .ref (L 30 0)) rfl dX8_wasteBy_12 ?_
    refine g_get S hE hI (C := RX7) (T := TX7) (N := 3) (ref := "StonecutterYardModel$Yard") (fun w h => (List.mem_cons_of_mem _ (List.mem_append_left _ (List.mem_append_left _ (List.mem_append_left _ (List.mem_append_right _ h)))))) hM.2.1.1.1 rfl 1 (by decide) (List.mem_cons_of_mem _ (List.mem_append_left _ (List.mem_append_left _ (List.mem_append_left _ (List.mem_append_left _ (List.mem_append_left _ (List.mem_append_left _ (List.mem_of_getElem? (i := 1) rfl)))))))) (fun _ h9 => h9) (v := .ref (L 33 0)) rfl dX8_wasteBy_15 ?_
    refine lv_iload_n hx hb dX8_wasteBy_18 rfl (lv_at hl 2 rfl) ?_
    refine g_callV (As := [.int (nI j)]) (rest := []) (b := (L 33 0)) (n := 1) S hE hI hA (l_get l K _ (5, 33, 0) (tbL 5 34) (L 33 0) (yKc y) (L 38) j hM.2.1.2.2.1 hj) gX8_wasteBy_Jx4a65c_get_915e3 rfl (by decide +kernel) ⟨Nat.le_of_ble_eq_true rfl, Nat.le_of_ble_eq_true rfl⟩ (g_hro hE hI hl2 rfl) rfl hl.1 rfl (Nat.le_of_ble_eq_true rfl) dX8_wasteBy_19 ⟨Nat.le_of_ble_eq_true rfl, Nat.le_of_ble_eq_true rfl⟩ (fun E ce q9 Gx H1 locs1 hx9 => hx9.elim) (fun rv Gc_19 H locs hp hI => ?_)
    obtain ⟨rfl, hq9⟩ := hp
    rw [hq9] at hI
    refine W.eq (g2 := F0 m 22 ls [.ref (L 38 j)]) rfl ?_
    refine g_cast S (List.mem_cons_of_mem _ (List.mem_append_left _ (List.mem_append_left _ (List.mem_append_left _ (List.mem_append_left _ (List.mem_append_left _ (List.mem_append_left _ (List.mem_of_getElem? (i := 2) rfl)))))))) (g_hro hE hI hkd rfl) dX8_wasteBy_22 ?_
    refine lv_aload_n hx hb dX8_wasteBy_25 rfl (lv_at hl 0 rfl) ?_
    refine lv_iload_n hx hb dX8_wasteBy_26 rfl (lv_at hl 1 rfl) ?_
    refine g_callV (As := [.int (nI i)]) (rest := [.ref (L 38 j)]) (b := h0) (n := 1) S hE hI hA (c_X8_of l K _ L h0 0 y N i hM hi) gX8_wasteBy_X8_of rfl (by decide +kernel) ⟨Nat.le_of_ble_eq_true rfl, Nat.le_of_ble_eq_true rfl⟩ (g_hro hE hI hM.1 rfl) rfl hl.1 rfl (Nat.le_of_ble_eq_true rfl) dX8_wasteBy_27 ⟨Nat.le_of_ble_eq_true rfl, Nat.le_of_ble_eq_true rfl⟩ (fun E ce q9 Gx H1 locs1 hx9 => hx9.elim) (fun rv Gc_27 H locs hp hI => ?_)
    obtain ⟨rfl, hq9⟩ := hp
    rw [hq9] at hI
    refine W.eq (g2 := F0 m 30 ls [.ref (L 35 i), .ref (L 38 j)]) rfl ?_
    refine g_callV (As := [.ref (L 35 i)]) (rest := []) (b := (L 38 j)) (n := 1) S hE hI hA (c_X5_fits l K _ (5, 38, j) (5, 35, i) (5, 36, i) (tbF 5 i) (L 38 j) (L 35 i) (yS y i) (yK y j) (L 36 i) N hkd hsl hfl hsok hkok) gX8_wasteBy_X5_fits rfl (by decide +kernel) ⟨Nat.le_of_ble_eq_true rfl, Nat.le_of_ble_eq_true rfl⟩ (g_hro hE hI hkd rfl) rfl hl.1 rfl (Nat.le_of_ble_eq_true rfl) dX8_wasteBy_30 ⟨Nat.le_of_ble_eq_true rfl, Nat.le_of_ble_eq_true rfl⟩ (fun E ce q9 Gx H1 locs1 hx9 => hx9.elim) (fun rv Gc_30 H locs hp hI => ?_)
    obtain ⟨rfl, hq9⟩ := hp
    rw [hq9] at hI
    rw [hfit]
    refine W.eq (g2 := F0 m 33 ls [.int (-1)]) rfl ?_
    refine lv_iconst (v := (-1)) hx hb dX8_wasteBy_33 (by decide) ?_
    refine lv_icmp_ne (tgt := 39) hx hb dX8_wasteBy_34 (by decide) (fun c_34 => ?_) (fun c_34 => ?_)
    · skip
      exact absurd rfl c_34
    · skip
      refine lv_iconst (v := (-1)) hx hb dX8_wasteBy_37 (by decide) ?_
      exact g_iret S hI hr hlocks (Nat.zero_le _) (Nat.zero_le _) dX8_wasteBy_38 (mOk ho hM hag)
  · skip
    have c_6 : false = true := bI_1.mp c_6
    cases c_6
set_option maxHeartbeats 4000000 in
set_option maxRecDepth 100000 in
/-- X8_wasteBy: wasteByD -/
theorem m_wasteByD (l : Launch) (K : gK) (G : gW) (L : Nat → Nat → Nat) (h0 th : Nat) (y : YV) (N : Nat) (i j mn : Nat) (hM : MdC K L h0 th G y N) (hi : i < ySc y) (hj : j < yKc y) (hfit : sFits (yS y i) (yK y j) = some mn) : gM l yX8_wasteBy wsX8_wasteBy 10 228 283 4573 K [.ref h0, .int (nI i), .int (nI j)] G (mPost K h0 G (oWasteBy y (nI i) (nI j))) (gNo) := by
  refine gM.of (cc := cX8_wasteBy) (maxL := 4) (ret := (some .int)) (by decide) rfl (Nat.le_of_ble_eq_true rfl) ?_
  intro p e s m below meth c A S hr hlocks htab hname hE hA hI ls hl
  have hx := S.1
  have hb := S.2.1
  have hml := S.2.2.1
  have hl : lv_has ls 4 [(0, .ref h0), (1, .int (nI i)), (2, .int (nI j))] := hl
  have h44 := hM.2.1.1.2.2.1
  have h6 := hM.2.1.1.2.2.2
  have hf2 := hM.2.1.1.2.1
  have h40 := hM.2.2.2
  have hth := hM.2.2.1
  have hag : AgM G G := AgM.rf
  have hri : inR (nI i) (ySc y) = true := inR_nI hi (by omega)
  have hiN : iN (nI i) = i := iN_nI (by omega)
  have hrj : inR (nI j) (yKc y) = true := inR_nI hj (by omega)
  have hjN : iN (nI j) = j := iN_nI (by omega)
  have hmn := sFits_lt hfit
  obtain ⟨m1, ar1, hl1⟩ := hM.2.1.2.1.obj
  obtain ⟨m2, ar2, hl2⟩ := hM.2.1.2.2.1.obj
  obtain ⟨hsl, hfl, hsok⟩ := hM.2.1.2.2.2.1 i hi
  obtain ⟨s1, s2, s3, s4, s5, s6, s7, s8⟩ := id hsok
  obtain ⟨hkd, hkok⟩ := hM.2.1.2.2.2.2 j hj
  obtain ⟨k1, k2, k3, k4, k5, k6, k7, k8, k9⟩ := id hkok
  obtain ⟨d9, hd9⟩ : ∃ d9, ySc (yTake y i j mn) = ySc y + d9 := ⟨_, (Nat.add_sub_cancel' yTake_ge).symm⟩
  have hd4 : d9 ≤ 4 := by have h9 := yTake_le (y := y) (i := i) (j := j) (mn := mn); omega
  have ho : oWasteBy y (nI i) (nI j) = (0, yWaste (yTake y i j mn), y) := by unfold oWasteBy; rw [if_pos (by rw [hri, hrj]; rfl), hiN, hjN, hfit]
  obtain ⟨H, hHe⟩ : ∃ z, z = s.heap := ⟨_, rfl⟩
  obtain ⟨locs, hLe⟩ : ∃ z : List Loc, z = [] := ⟨_, rfl⟩
  rw [← hHe, ← hLe]
  have hI : gI K A s G H locs := by rw [hHe, hLe]; exact hI
  clear hHe hLe
  refine lv_aload_n hx hb dX8_wasteBy_0 rfl (lv_at hl 0 rfl) ?_
  refine lv_iload_n hx hb dX8_wasteBy_1 rfl (lv_at hl 1 rfl) ?_
  refine lv_iload_n hx hb dX8_wasteBy_2 rfl (lv_at hl 2 rfl) ?_
  refine g_callV (As := [.int (nI i), .int (nI j)]) (rest := []) (b := h0) (n := 2) S hE hI hA (c_pairC l K _ L h0 th y N (nI i) (nI j) hM hri hrj) gX8_wasteBy_X8_isNoPair rfl (by decide +kernel) ⟨Nat.le_of_ble_eq_true rfl, Nat.le_of_ble_eq_true rfl⟩ (g_hro hE hI hM.1 rfl) rfl hl.1 rfl (Nat.le_of_ble_eq_true rfl) dX8_wasteBy_3 ⟨Nat.le_of_ble_eq_true rfl, Nat.le_of_ble_eq_true rfl⟩ (fun E ce q9 Gx H1 locs1 hx9 => hx9.elim) (fun rv Gc_3 H locs hp hI => ?_)
  obtain ⟨rfl, hM, hg9⟩ := hp
  have hag := hag.tr hg9
  have hM : MdC K L h0 0 Gc_3 y N := hM
  obtain ⟨m1, ar1, hl1⟩ := hM.2.1.2.1.obj
  obtain ⟨m2, ar2, hl2⟩ := hM.2.1.2.2.1.obj
  obtain ⟨hsl, hfl, hsok⟩ := hM.2.1.2.2.2.1 i hi
  obtain ⟨s1, s2, s3, s4, s5, s6, s7, s8⟩ := id hsok
  obtain ⟨hkd, hkok⟩ := hM.2.1.2.2.2.2 j hj
  obtain ⟨k1, k2, k3, k4, k5, k6, k7, k8, k9⟩ := id hkok
  refine W.eq (g2 := F0 m 6 ls [.int (bI false)]) rfl ?_
  refine lv_if_eq (tgt := 11) hx hb dX8_wasteBy_6 (by decide) (fun c_6 => ?_) (fun c_6 => ?_)
  · skip
    have c_6 : false = false := bI_0.mp c_6
    refine lv_aload_n hx hb dX8_wasteBy_11 rfl (lv_at hl 0 rfl) ?_
    refine g_get S hE hI (C := RX8) (T := TX8) (N := 2) (ref := "StonecutterYardModel") (fun w h => (List.mem_cons_of_mem _ (List.mem_append_left _ (List.mem_append_left _ (List.mem_append_left _ (List.mem_append_left _ (List.mem_append_right _ h))))))) hM.1 rfl 1 (by decide) (List.mem_cons_of_mem _ (List.mem_append_left _ (List.mem_append_left _ (List.mem_append_left _ (List.mem_append_left _ (List.mem_append_left _ (List.mem_append_left _ (List.mem_of_getElem? (i := 0) rfl)))))))) (fun _ h9 => h9) (v := .ref (L 30 0)) rfl dX8_wasteBy_12 ?_
    refine g_get S hE hI (C := RX7) (T := TX7) (N := 3) (ref := "StonecutterYardModel$Yard") (fun w h => (List.mem_cons_of_mem _ (List.mem_append_left _ (List.mem_append_left _ (List.mem_append_left _ (List.mem_append_right _ h)))))) hM.2.1.1.1 rfl 1 (by decide) (List.mem_cons_of_mem _ (List.mem_append_left _ (List.mem_append_left _ (List.mem_append_left _ (List.mem_append_left _ (List.mem_append_left _ (List.mem_append_left _ (List.mem_of_getElem? (i := 1) rfl)))))))) (fun _ h9 => h9) (v := .ref (L 33 0)) rfl dX8_wasteBy_15 ?_
    refine lv_iload_n hx hb dX8_wasteBy_18 rfl (lv_at hl 2 rfl) ?_
    refine g_callV (As := [.int (nI j)]) (rest := []) (b := (L 33 0)) (n := 1) S hE hI hA (l_get l K _ (5, 33, 0) (tbL 5 34) (L 33 0) (yKc y) (L 38) j hM.2.1.2.2.1 hj) gX8_wasteBy_Jx4a65c_get_915e3 rfl (by decide +kernel) ⟨Nat.le_of_ble_eq_true rfl, Nat.le_of_ble_eq_true rfl⟩ (g_hro hE hI hl2 rfl) rfl hl.1 rfl (Nat.le_of_ble_eq_true rfl) dX8_wasteBy_19 ⟨Nat.le_of_ble_eq_true rfl, Nat.le_of_ble_eq_true rfl⟩ (fun E ce q9 Gx H1 locs1 hx9 => hx9.elim) (fun rv Gc_19 H locs hp hI => ?_)
    obtain ⟨rfl, hq9⟩ := hp
    rw [hq9] at hI
    refine W.eq (g2 := F0 m 22 ls [.ref (L 38 j)]) rfl ?_
    refine g_cast S (List.mem_cons_of_mem _ (List.mem_append_left _ (List.mem_append_left _ (List.mem_append_left _ (List.mem_append_left _ (List.mem_append_left _ (List.mem_append_left _ (List.mem_of_getElem? (i := 2) rfl)))))))) (g_hro hE hI hkd rfl) dX8_wasteBy_22 ?_
    refine lv_aload_n hx hb dX8_wasteBy_25 rfl (lv_at hl 0 rfl) ?_
    refine lv_iload_n hx hb dX8_wasteBy_26 rfl (lv_at hl 1 rfl) ?_
    refine g_callV (As := [.int (nI i)]) (rest := [.ref (L 38 j)]) (b := h0) (n := 1) S hE hI hA (c_X8_of l K _ L h0 0 y N i hM hi) gX8_wasteBy_X8_of rfl (by decide +kernel) ⟨Nat.le_of_ble_eq_true rfl, Nat.le_of_ble_eq_true rfl⟩ (g_hro hE hI hM.1 rfl) rfl hl.1 rfl (Nat.le_of_ble_eq_true rfl) dX8_wasteBy_27 ⟨Nat.le_of_ble_eq_true rfl, Nat.le_of_ble_eq_true rfl⟩ (fun E ce q9 Gx H1 locs1 hx9 => hx9.elim) (fun rv Gc_27 H locs hp hI => ?_)
    obtain ⟨rfl, hq9⟩ := hp
    rw [hq9] at hI
    refine W.eq (g2 := F0 m 30 ls [.ref (L 35 i), .ref (L 38 j)]) rfl ?_
    refine g_callV (As := [.ref (L 35 i)]) (rest := []) (b := (L 38 j)) (n := 1) S hE hI hA (c_X5_fits l K _ (5, 38, j) (5, 35, i) (5, 36, i) (tbF 5 i) (L 38 j) (L 35 i) (yS y i) (yK y j) (L 36 i) N hkd hsl hfl hsok hkok) gX8_wasteBy_X5_fits rfl (by decide +kernel) ⟨Nat.le_of_ble_eq_true rfl, Nat.le_of_ble_eq_true rfl⟩ (g_hro hE hI hkd rfl) rfl hl.1 rfl (Nat.le_of_ble_eq_true rfl) dX8_wasteBy_30 ⟨Nat.le_of_ble_eq_true rfl, Nat.le_of_ble_eq_true rfl⟩ (fun E ce q9 Gx H1 locs1 hx9 => hx9.elim) (fun rv Gc_30 H locs hp hI => ?_)
    obtain ⟨rfl, hq9⟩ := hp
    rw [hq9] at hI
    rw [hfit]
    refine W.eq (g2 := F0 m 33 ls [.int (nI mn)]) rfl ?_
    refine lv_iconst (v := (-1)) hx hb dX8_wasteBy_33 (by decide) ?_
    refine lv_icmp_ne (tgt := 39) hx hb dX8_wasteBy_34 (by decide) (fun c_34 => ?_) (fun c_34 => ?_)
    · skip
      refine lv_aload_n hx hb dX8_wasteBy_39 rfl (lv_at hl 0 rfl) ?_
      refine g_get S hE hI (C := RX8) (T := TX8) (N := 2) (ref := "StonecutterYardModel") (fun w h => (List.mem_cons_of_mem _ (List.mem_append_left _ (List.mem_append_left _ (List.mem_append_left _ (List.mem_append_left _ (List.mem_append_right _ h))))))) hM.1 rfl 1 (by decide) (List.mem_cons_of_mem _ (List.mem_append_left _ (List.mem_append_left _ (List.mem_append_left _ (List.mem_append_left _ (List.mem_append_left _ (List.mem_append_left _ (List.mem_of_getElem? (i := 0) rfl)))))))) (fun _ h9 => h9) (v := .ref (L 30 0)) rfl dX8_wasteBy_40 ?_
      refine g_callV (As := []) (rest := []) (b := (L 30 0)) (n := 0) S hE hI hA (c_X7_copy l K _ 5 7 L y N hM.2.1 ⟨by decide, by decide, by decide, by decide, by decide⟩) gX8_wasteBy_X7_copy rfl (by decide +kernel) ⟨Nat.le_of_ble_eq_true rfl, Nat.le_of_ble_eq_true rfl⟩ (g_hro hE hI hM.2.1.1.1 rfl) rfl hl.1 rfl (Nat.le_of_ble_eq_true rfl) dX8_wasteBy_43 ⟨by show _ ≤ 283; omega, by show _ ≤ 4573; omega⟩ (fun E ce q9 Gx H1 locs1 hx9 => hx9.elim) (fun rv Gc_43 H locs hp hI => ?_)
      obtain ⟨L7, rfl, hmc, hof⟩ := hp
      have hW : AgW N _ Gc_43 := AgW.cp hof
      have hM := hW.md hM
      have hag := hag.tr hW.ag
      obtain ⟨mc9, arc, hlc⟩ := hmc.2.2.1.obj
      obtain ⟨m1, ar1, hl1⟩ := hM.2.1.2.1.obj
      obtain ⟨m2, ar2, hl2⟩ := hM.2.1.2.2.1.obj
      refine W.eq (g2 := F0 m 46 ls [.ref (L7 30 0)]) rfl ?_
      refine lv_astore_n (lv' := [(3, .ref (L7 30 0)), (0, .ref h0), (1, .int (nI i)), (2, .int (nI j))]) hx hb dX8_wasteBy_46 rfl hl (by decide) rfl (fun ls hl => ?_)
      refine lv_aload_n hx hb dX8_wasteBy_47 rfl (lv_at hl 0 rfl) ?_
      refine lv_iload_n hx hb dX8_wasteBy_48 rfl (lv_at hl 2 rfl) ?_
      refine lv_iload_n hx hb dX8_wasteBy_49 rfl (lv_at hl 3 rfl) ?_
      refine g_callV (As := [.int (nI i), .int (nI j)]) (rest := []) (b := (L7 30 0)) (n := 2) S hE hI hA (c_X7_take l K _ 7 L7 y N i j mn d9 hmc hi hj hfit (by omega) (by decide) hd9) gX8_wasteBy_X7_take rfl (by decide +kernel) ⟨Nat.le_of_ble_eq_true rfl, Nat.le_of_ble_eq_true rfl⟩ (g_hro hE hI hmc.1.1 rfl) rfl hl.1 rfl (Nat.le_of_ble_eq_true rfl) dX8_wasteBy_50 ⟨by show _ ≤ 283; omega, by show _ ≤ 4573; omega⟩ (fun E ce q9 Gx H1 locs1 hx9 => hx9.elim) (fun rv Gc_50 H locs hp hI => ?_)
      obtain ⟨L8, N8, rfl, hmt, hN8, hL8, hfr⟩ := hp
      have hWf : AgW N _ Gc_50 := AgW.fr hfr
      have hM := hWf.md hM
      have hag := hag.tr hWf.ag
      have hl8 : L8 30 0 = L7 30 0 := hL8.y
      refine W.eq (g2 := F0 m 53 ls [.int (nI (sellP (yK y j)))]) rfl ?_
      refine lv_pop hx hb dX8_wasteBy_53 rfl ?_
      refine lv_aload_n hx hb dX8_wasteBy_54 rfl (lv_at hl 0 rfl) ?_
      rw [← hl8]
      refine g_callV (As := []) (rest := []) (b := (L8 30 0)) (n := 0) S hE hI hA (c_X7_waste l K _ 7 L8 (yTake y i j mn) N8 hmt) gX8_wasteBy_X7_waste rfl (by decide +kernel) ⟨Nat.le_of_ble_eq_true rfl, Nat.le_of_ble_eq_true rfl⟩ (g_hro hE hI hmt.1.1 rfl) rfl hl.1 rfl (Nat.le_of_ble_eq_true rfl) dX8_wasteBy_55 ⟨by show _ ≤ 283; omega, by show _ ≤ 4573; omega⟩ (fun E ce q9 Gx H1 locs1 hx9 => hx9.elim) (fun rv Gc_55 H locs hp hI => ?_)
      obtain ⟨rfl, hq9⟩ := hp
      rw [hq9] at hI
      refine W.eq (g2 := F0 m 58 ls [.int (yWaste (yTake y i j mn))]) rfl ?_
      exact g_iret S hI hr hlocks (by omega) (by omega) dX8_wasteBy_58 (mOk ho hM hag)
    · skip
      exact absurd c_34 (nI_m1 (by omega))
  · skip
    have c_6 : false = true := bI_1.mp c_6
    cases c_6
set_option maxHeartbeats 4000000 in
set_option maxRecDepth 100000 in
/-- planPaysNow(most) -/
theorem c_X8_planPaysNow (l : Launch) (K : gK) (G : gW) (L : Nat → Nat → Nat) (h0 th : Nat) (y : YV) (N : Nat) (n9 : Nat) (hM : MdC K L h0 th G y N) (hn9 : 1 ≤ n9 ∧ n9 ≤ 20) : gM l yX8_planPaysNow wsX8_planPaysNow 12 274 715 9433 K [.ref h0, .int (nI n9)] G (fun v G1 => v = some (.int (yPays y n9)) ∧ AgW N G G1) (gNo) := by
  refine gM.of (cc := cX8_planPaysNow) (maxL := 3) (ret := (some .int)) (by decide) rfl (Nat.le_of_ble_eq_true rfl) ?_
  intro p e s m below meth c A S hr hlocks htab hname hE hA hI ls hl
  have hx := S.1
  have hb := S.2.1
  have hml := S.2.2.1
  have hl : lv_has ls 3 [(0, .ref h0), (1, .int (nI n9))] := hl
  have h44 := hM.2.1.1.2.2.1
  have h6 := hM.2.1.1.2.2.2
  have hf2 := hM.2.1.1.2.1
  have h40 := hM.2.2.2
  have hth := hM.2.2.1
  have hag : AgM G G := AgM.rf
  obtain ⟨d9, hd9⟩ : ∃ d9, ySc (yPlan n9 y).2 = ySc y + d9 := ⟨_, (Nat.add_sub_cancel' yPlan_ge).symm⟩
  have hd40 : ySc (yPlan n9 y).2 ≤ 40 := yPlan_40 h40
  obtain ⟨m1, ar1, hl1⟩ := hM.2.1.2.1.obj
  obtain ⟨m2, ar2, hl2⟩ := hM.2.1.2.2.1.obj
  obtain ⟨H, hHe⟩ : ∃ z, z = s.heap := ⟨_, rfl⟩
  obtain ⟨locs, hLe⟩ : ∃ z : List Loc, z = [] := ⟨_, rfl⟩
  rw [← hHe, ← hLe]
  have hI : gI K A s G H locs := by rw [hHe, hLe]; exact hI
  clear hHe hLe
  refine lv_aload_n hx hb dX8_planPaysNow_0 rfl (lv_at hl 0 rfl) ?_
  refine g_get S hE hI (C := RX8) (T := TX8) (N := 2) (ref := "StonecutterYardModel") (fun w h => (List.mem_cons_of_mem _ (List.mem_append_left _ (List.mem_append_left _ (List.mem_append_left _ (List.mem_append_left _ (List.mem_append_right _ h))))))) hM.1 rfl 1 (by decide) (List.mem_cons_of_mem _ (List.mem_append_left _ (List.mem_append_left _ (List.mem_append_left _ (List.mem_append_left _ (List.mem_append_left _ (List.mem_append_left _ (List.mem_of_getElem? (i := 0) rfl)))))))) (fun _ h9 => h9) (v := .ref (L 30 0)) rfl dX8_planPaysNow_1 ?_
  refine g_callV (As := []) (rest := []) (b := (L 30 0)) (n := 0) S hE hI hA (c_X7_copy l K _ 5 7 L y N hM.2.1 ⟨by decide, by decide, by decide, by decide, by decide⟩) gX8_planPaysNow_X7_copy rfl (by decide +kernel) ⟨Nat.le_of_ble_eq_true rfl, Nat.le_of_ble_eq_true rfl⟩ (g_hro hE hI hM.2.1.1.1 rfl) rfl hl.1 rfl (Nat.le_of_ble_eq_true rfl) dX8_planPaysNow_4 ⟨by show _ ≤ 715; omega, by show _ ≤ 9433; omega⟩ (fun E ce q9 Gx H1 locs1 hx9 => hx9.elim) (fun rv Gc_4 H locs hp hI => ?_)
  obtain ⟨L7, rfl, hmc, hof⟩ := hp
  have hW : AgW N _ Gc_4 := AgW.cp hof
  have hM := hW.md hM
  have hag := hag.tr hW.ag
  obtain ⟨mc9, arc, hlc⟩ := hmc.2.2.1.obj
  obtain ⟨m1, ar1, hl1⟩ := hM.2.1.2.1.obj
  obtain ⟨m2, ar2, hl2⟩ := hM.2.1.2.2.1.obj
  refine W.eq (g2 := F0 m 7 ls [.ref (L7 30 0)]) rfl ?_
  refine lv_astore_n (lv' := [(2, .ref (L7 30 0)), (0, .ref h0), (1, .int (nI n9))]) hx hb dX8_planPaysNow_7 rfl hl (by decide) rfl (fun ls hl => ?_)
  refine lv_aload_n hx hb dX8_planPaysNow_8 rfl (lv_at hl 0 rfl) ?_
  refine lv_iload_n hx hb dX8_planPaysNow_9 rfl (lv_at hl 2 rfl) ?_
  refine g_callV (As := [.int (nI n9)]) (rest := []) (b := (L7 30 0)) (n := 1) S hE hI hA (c_X7_plan l K _ 7 L7 y N n9 d9 hmc (by decide) (by omega) hd9) gX8_planPaysNow_X7_plan rfl (by decide +kernel) ⟨Nat.le_of_ble_eq_true rfl, Nat.le_of_ble_eq_true rfl⟩ (g_hro hE hI hmc.1.1 rfl) rfl hl.1 rfl (Nat.le_of_ble_eq_true rfl) dX8_planPaysNow_10 ⟨by show _ ≤ 715; omega, by show _ ≤ 9433; omega⟩ (fun E ce q9 Gx H1 locs1 hx9 => hx9.elim) (fun rv Gc_10 H locs hp hI => ?_)
  obtain ⟨L8, N8, rfl, hmt, hN8, hL8, hfr⟩ := hp
  have hWf : AgW N _ Gc_10 := AgW.fr hfr
  have hM := hWf.md hM
  have hW := hW.tr hWf
  have hl8 : L8 30 0 = L7 30 0 := hL8.y
  obtain ⟨m1, ar1, hl1⟩ := hM.2.1.2.1.obj
  obtain ⟨m2, ar2, hl2⟩ := hM.2.1.2.2.1.obj
  refine W.eq (g2 := F0 m 13 ls [.int (nI ((yPlan n9 y).1))]) rfl ?_
  refine lv_pop hx hb dX8_planPaysNow_13 rfl ?_
  refine lv_aload_n hx hb dX8_planPaysNow_14 rfl (lv_at hl 0 rfl) ?_
  rw [← hl8]
  refine g_callV (As := []) (rest := []) (b := (L8 30 0)) (n := 0) S hE hI hA (c_X7_paid l K _ 7 L8 (yPlan n9 y).2 N8 hmt) gX8_planPaysNow_X7_paid rfl (by decide +kernel) ⟨Nat.le_of_ble_eq_true rfl, Nat.le_of_ble_eq_true rfl⟩ (g_hro hE hI hmt.1.1 rfl) rfl hl.1 rfl (Nat.le_of_ble_eq_true rfl) dX8_planPaysNow_15 ⟨by show _ ≤ 715; omega, by show _ ≤ 9433; omega⟩ (fun E ce q9 Gx H1 locs1 hx9 => hx9.elim) (fun rv Gc_15 H locs hp hI => ?_)
  obtain ⟨rfl, hq9⟩ := hp
  rw [hq9] at hI
  refine W.eq (g2 := F0 m 18 ls [.int (nI (yPaid (yPlan n9 y).2))]) rfl ?_
  refine lv_aload_n hx hb dX8_planPaysNow_18 rfl (lv_at hl 1 rfl) ?_
  refine g_get S hE hI (C := RX8) (T := TX8) (N := 2) (ref := "StonecutterYardModel") (fun w h => (List.mem_cons_of_mem _ (List.mem_append_left _ (List.mem_append_left _ (List.mem_append_left _ (List.mem_append_left _ (List.mem_append_right _ h))))))) hM.1 rfl 1 (by decide) (List.mem_cons_of_mem _ (List.mem_append_left _ (List.mem_append_left _ (List.mem_append_left _ (List.mem_append_left _ (List.mem_append_left _ (List.mem_append_left _ (List.mem_of_getElem? (i := 0) rfl)))))))) (fun _ h9 => h9) (v := .ref (L 30 0)) rfl dX8_planPaysNow_19 ?_
  refine g_callV (As := []) (rest := [.int (nI (yPaid (yPlan n9 y).2))]) (b := (L 30 0)) (n := 0) S hE hI hA (c_X7_paid l K _ 5 L y N hM.2.1) gX8_planPaysNow_X7_paid rfl (by decide +kernel) ⟨Nat.le_of_ble_eq_true rfl, Nat.le_of_ble_eq_true rfl⟩ (g_hro hE hI hM.2.1.1.1 rfl) rfl hl.1 rfl (Nat.le_of_ble_eq_true rfl) dX8_planPaysNow_22 ⟨by show _ ≤ 715; omega, by show _ ≤ 9433; omega⟩ (fun E ce q9 Gx H1 locs1 hx9 => hx9.elim) (fun rv Gc_22 H locs hp hI => ?_)
  obtain ⟨rfl, hq9⟩ := hp
  rw [hq9] at hI
  refine W.eq (g2 := F0 m 25 ls [.int (nI (yPaid y)), .int (nI (yPaid (yPlan n9 y).2))]) rfl ?_
  refine lv_isub hx hb dX8_planPaysNow_25 ?_
  exact g_iret S hI hr hlocks (by omega) (by omega) dX8_planPaysNow_26 ⟨rfl, hW⟩
set_option maxHeartbeats 4000000 in
set_option maxRecDepth 100000 in
/-- X8_planPays: paysA -/
theorem m_paysA (l : Launch) (K : gK) (G : gW) (L : Nat → Nat → Nat) (h0 th : Nat) (y : YV) (N : Nat) (x : Int32) (hM : MdC K L h0 th G y N) (hn9 : inB x 1 20 = false) : gM l yX8_planPays wsX8_planPays 13 296 715 9433 K [.ref h0, .int x] G (mPost K h0 G (oPays y x)) (gNo) := by
  refine gM.of (cc := cX8_planPays) (maxL := 2) (ret := (some .int)) (by decide) rfl (Nat.le_of_ble_eq_true rfl) ?_
  intro p e s m below meth c A S hr hlocks htab hname hE hA hI ls hl
  have hx := S.1
  have hb := S.2.1
  have hml := S.2.2.1
  have hl : lv_has ls 2 [(0, .ref h0), (1, .int x)] := hl
  have h44 := hM.2.1.1.2.2.1
  have h6 := hM.2.1.1.2.2.2
  have hf2 := hM.2.1.1.2.1
  have h40 := hM.2.2.2
  have hth := hM.2.2.1
  have hag : AgM G G := AgM.rf
  obtain ⟨m1, ar1, hl1⟩ := hM.2.1.2.1.obj
  obtain ⟨m2, ar2, hl2⟩ := hM.2.1.2.2.1.obj
  have ho : oPays y x = (1, 0, y) := by unfold oPays; rw [if_neg (by rw [hn9]; decide)]
  obtain ⟨H, hHe⟩ : ∃ z, z = s.heap := ⟨_, rfl⟩
  obtain ⟨locs, hLe⟩ : ∃ z : List Loc, z = [] := ⟨_, rfl⟩
  rw [← hHe, ← hLe]
  have hI : gI K A s G H locs := by rw [hHe, hLe]; exact hI
  clear hHe hLe
  refine lv_aload_n hx hb dX8_planPays_0 rfl (lv_at hl 0 rfl) ?_
  refine lv_iload_n hx hb dX8_planPays_1 rfl (lv_at hl 1 rfl) ?_
  refine lv_iconst (v := nI 1) hx hb dX8_planPays_2 (by decide) ?_
  refine lv_bipush (v := nI 20) hx hb dX8_planPays_3 (by decide) ?_
  refine g_callS (As := [.int x, .int (nI 1), .int (nI 20)]) (rest := [.ref h0]) (n := 3) S hE hI hA (c_X8_isIn l K _ x (nI 1) (nI 20)) gX8_planPays_X8_isIn rfl (by decide +kernel) ⟨Nat.le_of_ble_eq_true rfl, Nat.le_of_ble_eq_true rfl⟩ rfl hl.1 rfl (Nat.le_of_ble_eq_true rfl) dX8_planPays_5 ⟨Nat.le_of_ble_eq_true rfl, Nat.le_of_ble_eq_true rfl⟩ (fun E ce q9 Gx H1 locs1 hx9 => hx9.elim) (fun rv Gc_5 H locs hp hI => ?_)
  obtain ⟨rfl, hq9⟩ := hp
  rw [hq9] at hI
  rw [isI_inB (by decide) (by decide)]
  rw [hn9]
  refine W.eq (g2 := F0 m 8 ls [.int (bI false), .ref h0]) rfl ?_
  refine lv_if_ne (tgt := 15) hx hb dX8_planPays_8 (by decide) (fun c_8 => ?_) (fun c_8 => ?_)
  · skip
    have c_8 : false = true := bI_1.mp c_8
    cases c_8
  · skip
    have c_8 : false = false := bI_0.mp c_8
    refine lv_iconst (v := nI 1) hx hb dX8_planPays_11 (by decide) ?_
    refine lv_goto (tgt := 16) hx hb dX8_planPays_12 (by decide) ?_
    refine lv_iconst (v := nI 1) hx hb dX8_planPays_16 (by decide) ?_
    refine g_callV (As := [.int (nI 1), .int (nI 1)]) (rest := []) (b := h0) (n := 2) S hE hI hA (c_start l K _ L h0 th y N true 1 hM (by decide)) gX8_planPays_X8_start rfl (by decide +kernel) ⟨Nat.le_of_ble_eq_true rfl, Nat.le_of_ble_eq_true rfl⟩ (g_hro hE hI hM.1 rfl) rfl hl.1 rfl (Nat.le_of_ble_eq_true rfl) dX8_planPays_17 ⟨Nat.le_of_ble_eq_true rfl, Nat.le_of_ble_eq_true rfl⟩ (fun E ce q9 Gx H1 locs1 hx9 => hx9.elim) (fun rv Gc_17 H locs hp hI => ?_)
    obtain ⟨rfl, hM, hg9⟩ := hp
    have hag := hag.tr hg9
    have hM : MdC K L h0 1 Gc_17 y N := hM
    obtain ⟨m1, ar1, hl1⟩ := hM.2.1.2.1.obj
    obtain ⟨m2, ar2, hl2⟩ := hM.2.1.2.2.1.obj
    refine W.eq (g2 := F0 m 20 ls [.int (bI true)]) rfl ?_
    refine lv_if_eq (tgt := 27) hx hb dX8_planPays_20 (by decide) (fun c_20 => ?_) (fun c_20 => ?_)
    · skip
      have c_20 : true = false := bI_0.mp c_20
      cases c_20
    · skip
      have c_20 : true = true := bI_1.mp c_20
      refine lv_iconst (v := nI 0) hx hb dX8_planPays_23 (by decide) ?_
      refine lv_goto (tgt := 32) hx hb dX8_planPays_24 (by decide) ?_
      exact g_iret S hI hr hlocks (Nat.zero_le _) (Nat.zero_le _) dX8_planPays_32 (mThrow ho (by decide) hM hag)
set_option maxHeartbeats 4000000 in
set_option maxRecDepth 100000 in
/-- X8_planPays: paysB -/
theorem m_paysB (l : Launch) (K : gK) (G : gW) (L : Nat → Nat → Nat) (h0 th : Nat) (y : YV) (N : Nat) (n9 : Nat) (hM : MdC K L h0 th G y N) (hn9 : 1 ≤ n9 ∧ n9 ≤ 20) : gM l yX8_planPays wsX8_planPays 13 296 715 9433 K [.ref h0, .int (nI n9)] G (mPost K h0 G (oPays y (nI n9))) (gNo) := by
  refine gM.of (cc := cX8_planPays) (maxL := 2) (ret := (some .int)) (by decide) rfl (Nat.le_of_ble_eq_true rfl) ?_
  intro p e s m below meth c A S hr hlocks htab hname hE hA hI ls hl
  have hx := S.1
  have hb := S.2.1
  have hml := S.2.2.1
  have hl : lv_has ls 2 [(0, .ref h0), (1, .int (nI n9))] := hl
  have h44 := hM.2.1.1.2.2.1
  have h6 := hM.2.1.1.2.2.2
  have hf2 := hM.2.1.1.2.1
  have h40 := hM.2.2.2
  have hth := hM.2.2.1
  have hag : AgM G G := AgM.rf
  obtain ⟨m1, ar1, hl1⟩ := hM.2.1.2.1.obj
  obtain ⟨m2, ar2, hl2⟩ := hM.2.1.2.2.1.obj
  have hx1 : inB (nI n9) 1 20 = true := by rw [inB_nI (by omega)]; exact decide_eq_true (by omega)
  have ho : oPays y (nI n9) = (0, yPays y n9, y) := by unfold oPays; rw [if_pos (by rw [inB_nI (by omega)]; exact decide_eq_true (by omega)), iN_nI (by omega)]
  obtain ⟨H, hHe⟩ : ∃ z, z = s.heap := ⟨_, rfl⟩
  obtain ⟨locs, hLe⟩ : ∃ z : List Loc, z = [] := ⟨_, rfl⟩
  rw [← hHe, ← hLe]
  have hI : gI K A s G H locs := by rw [hHe, hLe]; exact hI
  clear hHe hLe
  refine lv_aload_n hx hb dX8_planPays_0 rfl (lv_at hl 0 rfl) ?_
  refine lv_iload_n hx hb dX8_planPays_1 rfl (lv_at hl 1 rfl) ?_
  refine lv_iconst (v := nI 1) hx hb dX8_planPays_2 (by decide) ?_
  refine lv_bipush (v := nI 20) hx hb dX8_planPays_3 (by decide) ?_
  refine g_callS (As := [.int (nI n9), .int (nI 1), .int (nI 20)]) (rest := [.ref h0]) (n := 3) S hE hI hA (c_X8_isIn l K _ (nI n9) (nI 1) (nI 20)) gX8_planPays_X8_isIn rfl (by decide +kernel) ⟨Nat.le_of_ble_eq_true rfl, Nat.le_of_ble_eq_true rfl⟩ rfl hl.1 rfl (Nat.le_of_ble_eq_true rfl) dX8_planPays_5 ⟨Nat.le_of_ble_eq_true rfl, Nat.le_of_ble_eq_true rfl⟩ (fun E ce q9 Gx H1 locs1 hx9 => hx9.elim) (fun rv Gc_5 H locs hp hI => ?_)
  obtain ⟨rfl, hq9⟩ := hp
  rw [hq9] at hI
  rw [isI_inB (by decide) (by decide)]
  rw [hx1]
  refine W.eq (g2 := F0 m 8 ls [.int (bI true), .ref h0]) rfl ?_
  refine lv_if_ne (tgt := 15) hx hb dX8_planPays_8 (by decide) (fun c_8 => ?_) (fun c_8 => ?_)
  · skip
    have c_8 : true = true := bI_1.mp c_8
    refine lv_iconst (v := nI 0) hx hb dX8_planPays_15 (by decide) ?_
    refine lv_iconst (v := nI 1) hx hb dX8_planPays_16 (by decide) ?_
    refine g_callV (As := [.int (nI 0), .int (nI 1)]) (rest := []) (b := h0) (n := 2) S hE hI hA (c_start l K _ L h0 th y N false 1 hM (by decide)) gX8_planPays_X8_start rfl (by decide +kernel) ⟨Nat.le_of_ble_eq_true rfl, Nat.le_of_ble_eq_true rfl⟩ (g_hro hE hI hM.1 rfl) rfl hl.1 rfl (Nat.le_of_ble_eq_true rfl) dX8_planPays_17 ⟨Nat.le_of_ble_eq_true rfl, Nat.le_of_ble_eq_true rfl⟩ (fun E ce q9 Gx H1 locs1 hx9 => hx9.elim) (fun rv Gc_17 H locs hp hI => ?_)
    obtain ⟨rfl, hM, hg9⟩ := hp
    have hag := hag.tr hg9
    have hM : MdC K L h0 0 Gc_17 y N := hM
    obtain ⟨m1, ar1, hl1⟩ := hM.2.1.2.1.obj
    obtain ⟨m2, ar2, hl2⟩ := hM.2.1.2.2.1.obj
    refine W.eq (g2 := F0 m 20 ls [.int (bI false)]) rfl ?_
    refine lv_if_eq (tgt := 27) hx hb dX8_planPays_20 (by decide) (fun c_20 => ?_) (fun c_20 => ?_)
    · skip
      have c_20 : false = false := bI_0.mp c_20
      refine lv_aload_n hx hb dX8_planPays_27 rfl (lv_at hl 0 rfl) ?_
      refine lv_iload_n hx hb dX8_planPays_28 rfl (lv_at hl 1 rfl) ?_
      refine g_callV (As := [.int (nI n9)]) (rest := []) (b := h0) (n := 1) S hE hI hA (c_X8_planPaysNow l K _ L h0 0 y N n9 hM hn9) gX8_planPays_X8_planPaysNow rfl (by decide +kernel) ⟨Nat.le_of_ble_eq_true rfl, Nat.le_of_ble_eq_true rfl⟩ (g_hro hE hI hM.1 rfl) rfl hl.1 rfl (Nat.le_of_ble_eq_true rfl) dX8_planPays_29 ⟨by show _ ≤ 715; omega, by show _ ≤ 9433; omega⟩ (fun E ce q9 Gx H1 locs1 hx9 => hx9.elim) (fun rv Gc_29 H locs hp hI => ?_)
      obtain ⟨rfl, hW⟩ := hp
      refine W.eq (g2 := F0 m 32 ls [.int (yPays y n9)]) rfl ?_
      exact g_iret S hI hr hlocks (by omega) (by omega) dX8_planPays_32 (mOk ho (hW.md hM) (hag.tr hW.ag))
    · skip
      have c_20 : false = true := bI_1.mp c_20
      cases c_20
  · skip
    have c_8 : true = false := bI_0.mp c_8
    cases c_8
