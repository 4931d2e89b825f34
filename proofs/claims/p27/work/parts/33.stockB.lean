/-! the Stock's changes -/
theorem StockG.cg {K : gK} {z : Bool} {r : Nat} {L : Nat → Nat → Nat} {G : gW} {y y' : YV} (h : StockG K z r L G y) (e1 : ySc y' = ySc y) (e2 : yKc y' = yKc y) (e3 : yF y' = yF y) (e4 : ∀ i, i < ySc y → yS y' i = yS y i) (e5 : ∀ i, i < yKc y → yK y' i = yK y i) : StockG K z r L G y' := by
  obtain ⟨h1, ⟨S, P, h2, h3⟩, Kd, h4, h5, h6⟩ := h
  refine ⟨by rw [e1, e2, e3]; exact h1, ⟨S, P, h2, fun i hi => ?_⟩, Kd, h4, fun i hi => ?_, fun hz i hi h9 => ?_⟩
  · rw [e1] at hi; rw [e4 i hi]; exact h3 i hi
  · rw [e2] at hi; rw [e5 i hi]; exact h5 i hi
  · rw [e2] at hi; exact h6 hz i hi h9
theorem StockG.get {K : gK} {z : Bool} {r : Nat} {L : Nat → Nat → Nat} {G : gW} {y : YV} (h : StockG K z r L G y) {i : Nat} {u : SV} (hi : i < ySc y) (e : yS y i = u) : ∃ P, G (r, 3, i) = some (L 3 i, cS u (L 4 i)) ∧ G (r, 4, i) = some (L 4 i, cI K 6 P) ∧ ptsOK P (sL u) ∧ sOK u := by
  subst e; exact h.slab hi
theorem fU_ne {α : Type} {f : Nat → α} {i j : Nat} {v : α} (h : j ≠ i) : fU f i v j = f j := if_neg h
theorem fU_eq {α : Type} {f : Nat → α} {i : Nat} {v : α} : fU f i v i = v := if_pos rfl
def canI (len kf : Nat) (x : Int32) : Bool := decide (1 ≤ x.toInt ∧ x.toInt + kf < len)
theorem canI_lt {len kf : Nat} {x : Int32} (h : x < nI 1) : canI len kf x = false := by
  rw [Int32.lt_iff_toInt_lt, nI_toInt (by decide)] at h
  exact decide_eq_false (by omega)
theorem canI_iff {len kf : Nat} {x : Int32} (h : ¬ x < nI 1) (h0 : 1 ≤ len) (hl : len ≤ 24) (hk : kf ≤ 2) : nI len - x - nI kf < nI 1 ↔ canI len kf x = false := by
  rw [Int32.lt_iff_toInt_lt, nI_toInt (by decide)] at h
  have hx := Int32.toInt_lt x
  have e1 : (nI len - x).toInt = len - x.toInt := by
    rw [Int32.toInt_sub, nI_toInt (by omega)]
    exact Int.bmod_eq_of_le (by omega) (by omega)
  have e2 : (nI len - x - nI kf).toInt = len - x.toInt - kf := by
    rw [Int32.toInt_sub, e1, nI_toInt (by omega)]
    exact Int.bmod_eq_of_le (by omega) (by omega)
  rw [Int32.lt_iff_toInt_lt, e2, nI_toInt (by decide), canI, decide_eq_false_iff_not]
  omega
abbrev canC (len kf x : Nat) : Bool := decide (1 ≤ x ∧ x + kf < len)
theorem canI_nI {len kf x : Nat} (hx : x < 2 ^ 31) : canI len kf (nI x) = canC len kf x := by
  unfold canI canC
  rw [nI_toInt hx]
  congr 1
  apply propext
  omega
abbrev yLen (u : SV) (dn : Bool) : Nat := if dn then sW u else sH u
/-- the two parts of a cut -/
abbrev cutN (u : SV) (i : Nat) (dn : Bool) (x : Nat) : SV := if dn then (x, sH u, sG u, nI i, 0, pass (sL u) 0 0 x (sH u)) else (sW u, x, sG u, nI i, 0, pass (sL u) 0 0 (sW u) x)
abbrev cutF (u : SV) (i : Nat) (dn : Bool) (a : Nat) : SV := if dn then (sW u - a, sH u, sG u, nI i, 0, pass (sL u) a 0 (sW u - a) (sH u)) else (sW u, sH u - a, sG u, nI i, 0, pass (sL u) 0 a (sW u) (sH u - a))
abbrev sState (u : SV) (t : Nat) : SV := (sW u, sH u, sG u, sF u, t, sL u)
def yCut (y : YV) (i : Nat) (dn : Bool) (x : Nat) : YV :=
  if canC (yLen (yS y i) dn) (yF y) x then (ySc y + 2, yKc y, yF y, fU (fU (fU (yS y) (ySc y) (cutN (yS y i) i dn x)) (ySc y + 1) (cutF (yS y i) i dn (x + yF y))) i (sState (yS y i) 1), yK y) else y
def yCutR (y : YV) (i : Nat) (dn : Bool) (x : Nat) : Nat := if canC (yLen (yS y i) dn) (yF y) x then ySc y else i
theorem yCut_no {y : YV} {i : Nat} {dn : Bool} {x : Nat} (h : canC (yLen (yS y i) dn) (yF y) x = false) : yCut y i dn x = y := by unfold yCut; rw [h]; rfl
theorem yCutR_no {y : YV} {i : Nat} {dn : Bool} {x : Nat} (h : canC (yLen (yS y i) dn) (yF y) x = false) : yCutR y i dn x = i := by unfold yCutR; rw [h]; rfl
theorem yCut_yes {y : YV} {i : Nat} {dn : Bool} {x : Nat} (h : canC (yLen (yS y i) dn) (yF y) x = true) : yCut y i dn x = (ySc y + 2, yKc y, yF y, fU (fU (fU (yS y) (ySc y) (cutN (yS y i) i dn x)) (ySc y + 1) (cutF (yS y i) i dn (x + yF y))) i (sState (yS y i) 1), yK y) := by unfold yCut; rw [if_pos h]
theorem yCutR_yes {y : YV} {i : Nat} {dn : Bool} {x : Nat} (h : canC (yLen (yS y i) dn) (yF y) x = true) : yCutR y i dn x = ySc y := by unfold yCutR; rw [if_pos h]
theorem cut_fn {f : Nat → SV} {sc i : Nat} (hi : i < sc) (a b u n v : SV) (j : Nat) : fU (fU (fU f sc n) (sc + 1) v) i u j = fU (fU (fU (fU (fU f sc a) (sc + 1) b) i u) sc n) (sc + 1) v j := by
  by_cases c1 : j = i
  · subst c1
    rw [fU_eq, fU_ne (by omega), fU_ne (by omega), fU_eq]
  · rw [fU_ne c1]
    by_cases c2 : j = sc + 1
    · subst c2
      rw [fU_eq, fU_eq]
    · rw [fU_ne c2, fU_ne c2]
      by_cases c3 : j = sc
      · subst c3
        rw [fU_eq, fU_eq]
      · rw [fU_ne c3, fU_ne c3, fU_ne c1, fU_ne c2, fU_ne c3]
theorem sOK.state {u : SV} (h : sOK u) {t : Nat} (ht : t ≤ 3) : sOK (sState u t) := ⟨h.1, h.2.1, h.2.2.1, h.2.2.2.1, h.2.2.2.2.1, ht, h.2.2.2.2.2.2⟩
theorem sOK.part {w h g : Nat} {f : Int32} {fl : List (Nat × Nat)} (hw : 1 ≤ w ∧ w ≤ 24) (hh : 1 ≤ h ∧ h ≤ 24) (hg : g ≤ 1) (hl : fl.length ≤ 6) (hq : ∀ q ∈ fl, q.1 < w ∧ q.2 < h) : sOK (w, h, g, f, 0, fl) := ⟨hw.1, hw.2, hh.1, hh.2, hg, Nat.zero_le _, hl, hq⟩
theorem Ag.st {r i j : Nat} {G G' : gW} {a : Nat} {e : va_E} (h : Ag r G G') : Ag r G (gset G' (r, i, j) a e) := h.set rfl
set_option maxHeartbeats 4000000 in
set_option maxRecDepth 100000 in
/-- Stock.addSlab(wide, high, grain, from) -/
theorem c_X3_addSlab (l : Launch) (K : gK) (G : gW) (z : Bool) (r : Nat) (L : Nat → Nat → Nat) (y : YV) (w h g : Nat) (f : Int32) (hs : StockG K z r L G y) (hsc : ySc y < 44) (hu : sOK (w, h, g, f, 0, [])) : gM l yX3_addSlab wsX3_addSlab 3 64 0 0 K [.ref (L 0 0), .int (nI w), .int (nI h), .int (nI g), .int f] G (fun v G1 => v = some (.ref (L 3 (ySc y))) ∧ StockG K z r L G1 (yAddS y (w, h, g, f, 0, [])) ∧ Ag r G G1) (gNo) := by
  refine gM.of (cc := cX3_addSlab) (maxL := 6) (ret := (some (.object "StonecutterYard$Slab"))) (by decide) rfl (Nat.le_of_ble_eq_true rfl) ?_
  intro p e s m below meth c A S hr hlocks htab hname hE hA hI ls hl
  have hx := S.1
  have hb := S.2.1
  have hml := S.2.2.1
  have hl : lv_has ls 6 [(0, .ref (L 0 0)), (1, .int (nI w)), (2, .int (nI h)), (3, .int (nI g)), (4, .int f)] := hl
  have h44 := hs.1.2.2.2.1
  have h6 := hs.1.2.2.2.2.1
  have hf2 := hs.1.2.2.2.2.2
  obtain ⟨u0, P0, hr3, hr4⟩ := hs.raw hsc
  obtain ⟨H, hHe⟩ : ∃ z, z = s.heap := ⟨_, rfl⟩
  obtain ⟨locs, hLe⟩ : ∃ z : List Loc, z = [] := ⟨_, rfl⟩
  rw [← hHe, ← hLe]
  have hI : gI K A s G H locs := by rw [hHe, hLe]; exact hI
  clear hHe hLe
  refine lv_aload_n hx hb dX3_addSlab_0 rfl (lv_at hl 0 rfl) ?_
  refine g_get S hE hI (C := RX3) (T := TX3) (N := 5) (ref := "StonecutterYard$Stock") (fun w h => (List.mem_cons_of_mem _ (List.mem_append_left _ (List.mem_append_right _ h)))) hs.1.1 rfl 2 (by decide) (List.mem_cons_of_mem _ (List.mem_append_left _ (List.mem_append_left _ (List.mem_of_getElem? (i := 0) rfl)))) (fun _ h9 => h9) (v := .int (nI (ySc y))) rfl dX3_addSlab_1 ?_
  refine lv_aload_n hx hb dX3_addSlab_4 rfl (lv_at hl 0 rfl) ?_
  refine g_get S hE hI (C := RX3) (T := TX3) (N := 5) (ref := "StonecutterYard$Stock") (fun w h => (List.mem_cons_of_mem _ (List.mem_append_left _ (List.mem_append_right _ h)))) hs.1.1 rfl 0 (by decide) (List.mem_cons_of_mem _ (List.mem_append_left _ (List.mem_append_left _ (List.mem_of_getElem? (i := 1) rfl)))) (fun _ h9 => h9) (v := .ref (L 1 0)) rfl dX3_addSlab_5 ?_
  refine g_alen S hE hI (k := 2) hs.1.2.1 rfl (v := nI 44) rfl dX3_addSlab_8 ?_
  refine lv_icmp_lt (tgt := 14) hx hb dX3_addSlab_9 (by decide) (fun c_9 => ?_) (fun c_9 => ?_)
  · skip
    have c_9 : (ySc y) < 44 := (nI_ltI (a := (ySc y)) (b := 44) (by omega) (by omega)).mp c_9
    refine lv_aload_n hx hb dX3_addSlab_14 rfl (lv_at hl 0 rfl) ?_
    refine lv_dup hx hb dX3_addSlab_15 rfl ?_
    refine g_get S hE hI (C := RX3) (T := TX3) (N := 5) (ref := "StonecutterYard$Stock") (fun w h => (List.mem_cons_of_mem _ (List.mem_append_left _ (List.mem_append_right _ h)))) hs.1.1 rfl 2 (by decide) (List.mem_cons_of_mem _ (List.mem_append_left _ (List.mem_append_left _ (List.mem_of_getElem? (i := 0) rfl)))) (fun _ h9 => h9) (v := .int (nI (ySc y))) rfl dX3_addSlab_16 ?_
    refine lv_iconst (v := nI 1) hx hb dX3_addSlab_19 (by decide) ?_
    refine t_iadd hx hb dX3_addSlab_20 (nI_add _ _) ?_
    refine g_put S hE hI (C := RX3) (T := TX3) (N := 5) (ref := "StonecutterYard$Stock") (fun w h => (List.mem_cons_of_mem _ (List.mem_append_left _ (List.mem_append_right _ h)))) tyX3 tyX3_ok nmX3 hs.1.1 rfl 2 (by decide) (List.mem_cons_of_mem _ (List.mem_append_left _ (List.mem_append_left _ (List.mem_of_getElem? (i := 0) rfl)))) (fun _ h9 => h9) rfl rfl rfl (Nat.le_of_ble_eq_true rfl) dX3_addSlab_21 (fun H locs hI => ?_)
    have hI : gI K A s (gset G (r, 0, 0) (L 0 0) (.inr (4, [.ref (L 1 0), .ref (L 2 0), .int (nI ((ySc y) + 1)), .int (nI (yKc y)), .int (nI (yF y))]))) H locs := hI
    obtain ⟨G_1, hG_1⟩ : ∃ z, z = gset G (r, 0, 0) (L 0 0) (.inr (4, [.ref (L 1 0), .ref (L 2 0), .int (nI ((ySc y) + 1)), .int (nI (yKc y)), .int (nI (yF y))])) := ⟨_, rfl⟩
    rw [← hG_1] at hI
    have aS_G_1 : G_1 (r, 1, 0) = some ((L 1 0), cR (K.2.1 2) 44 (fRef 44 (L 3))) := by rw [hG_1, gset_ne (g_tne hs.1.2.1 hs.1.1 (by simp))]; exact hs.1.2.1
    have aK_G_1 : G_1 (r, 2, 0) = some ((L 2 0), cR (K.2.1 3) 6 (fRef 6 (L 5))) := by rw [hG_1, gset_ne (g_tne hs.1.2.2.1 hs.1.1 (by simp))]; exact hs.1.2.2.1
    have n_G_1 : G_1 (r, 3, ySc y) = some ((L 3 (ySc y)), .inr (3, [.int (nI (sW u0)), .int (nI (sH u0)), .int (nI (sG u0)), .int (sF u0), .int (nI (sT u0)), .int (nI ((sL u0).length)), .ref (L 4 (ySc y))])) := by rw [hG_1, gset_ne (g_tne hr3 hs.1.1 (by simp))]; exact hr3
    have st_G_1 : G_1 (r, 0, 0) = some ((L 0 0), .inr (4, [.ref (L 1 0), .ref (L 2 0), .int (nI ((ySc y) + 1)), .int (nI (yKc y)), .int (nI (yF y))])) := by rw [hG_1]; exact gset_eq _ _ _ _
    refine lv_aload_n hx hb dX3_addSlab_24 rfl (lv_at hl 0 rfl) ?_
    refine lv_aload_n hx hb dX3_addSlab_25 rfl (lv_at hl 0 rfl) ?_
    refine g_get S hE hI (C := RX3) (T := TX3) (N := 5) (ref := "StonecutterYard$Stock") (fun w h => (List.mem_cons_of_mem _ (List.mem_append_left _ (List.mem_append_right _ h)))) st_G_1 rfl 2 (by decide) (List.mem_cons_of_mem _ (List.mem_append_left _ (List.mem_append_left _ (List.mem_of_getElem? (i := 0) rfl)))) (fun _ h9 => h9) (v := .int (nI ((ySc y) + 1))) rfl dX3_addSlab_26 ?_
    refine lv_iconst (v := nI 1) hx hb dX3_addSlab_29 (by decide) ?_
    refine t_isub hx hb dX3_addSlab_30 (v := nI (ySc y)) (by rw [pk_sub (by omega)]; rfl) ?_
    have hh1 : StockH K r L G_1 (ySc y + 1) (yKc y) (yF y) := ⟨st_G_1, aS_G_1, aK_G_1, hsc, hs.1.2.2.2.2⟩
    refine g_callV (As := [.int (nI (ySc y))]) (rest := []) (b := (L 0 0)) (n := 1) S hE hI hA (c_slabIn l K _ r L (ySc y + 1) (yKc y) (yF y) (ySc y) hh1 (Nat.lt_succ_self _)) gX3_addSlab_X3_slabOrNull rfl (by decide +kernel) ⟨Nat.le_of_ble_eq_true rfl, Nat.le_of_ble_eq_true rfl⟩ (g_hro hE hI st_G_1 rfl) rfl hl.1 rfl (Nat.le_of_ble_eq_true rfl) dX3_addSlab_31 ⟨Nat.le_of_ble_eq_true rfl, Nat.le_of_ble_eq_true rfl⟩ (fun E ce q9 Gx H1 locs1 hx9 => hx9.elim) (fun rv Gc_31 H locs hp hI => ?_)
    obtain ⟨rfl, hq9⟩ := hp
    rw [hq9] at hI
    refine W.eq (g2 := F0 m 34 ls [.ref (L 3 (ySc y))]) rfl ?_
    refine lv_astore (lv' := [(5, .ref (L 3 (ySc y))), (0, .ref (L 0 0)), (1, .int (nI w)), (2, .int (nI h)), (3, .int (nI g)), (4, .int f)]) hx hb dX3_addSlab_34 hl (by decide) rfl (fun ls hl => ?_)
    refine lv_aload hx hb dX3_addSlab_36 (lv_at hl 0 rfl) ?_
    refine lv_ifnull hx hb dX3_addSlab_38 ?_
    refine lv_aload hx hb dX3_addSlab_41 (lv_at hl 0 rfl) ?_
    refine lv_iload_n hx hb dX3_addSlab_43 rfl (lv_at hl 2 rfl) ?_
    refine lv_iload_n hx hb dX3_addSlab_44 rfl (lv_at hl 3 rfl) ?_
    refine lv_iload_n hx hb dX3_addSlab_45 rfl (lv_at hl 4 rfl) ?_
    refine lv_iload hx hb dX3_addSlab_46 (lv_at hl 5 rfl) ?_
    refine g_callV (As := [.int (nI w), .int (nI h), .int (nI g), .int f]) (rest := []) (b := (L 3 (ySc y))) (n := 4) S hE hI hA (c_X2_begin l K _ (r, 3, ySc y) (L 3 (ySc y)) u0 (L 4 (ySc y)) w h g f n_G_1) gX3_addSlab_X2_begin rfl (by decide +kernel) ⟨Nat.le_of_ble_eq_true rfl, Nat.le_of_ble_eq_true rfl⟩ (g_hro hE hI n_G_1 rfl) rfl hl.1 rfl (Nat.le_of_ble_eq_true rfl) dX3_addSlab_48 ⟨Nat.le_of_ble_eq_true rfl, Nat.le_of_ble_eq_true rfl⟩ (fun E ce q9 Gx H1 locs1 hx9 => hx9.elim) (fun rv Gc_48 H locs hp hI => ?_)
    obtain ⟨rfl, hGc⟩ := hp
    refine W.eq (g2 := F0 m 51 ls []) rfl ?_
    refine lv_aload hx hb dX3_addSlab_51 (lv_at hl 0 rfl) ?_
    exact g_aret S hI hr (Or.inl ⟨_, rfl⟩) (Or.inr ⟨_, rfl⟩) hlocks (Nat.zero_le _) (Nat.zero_le _) dX3_addSlab_53 ⟨rfl, by rw [hGc, hG_1]; exact hs.addS hsc hu rfl, by rw [hGc, hG_1]; exact Ag.rf.st.st⟩
  · skip
    have c_9 : 44 ≤ (ySc y) := Nat.not_lt.mp (fun z => c_9 ((nI_ltI (a := (ySc y)) (b := 44) (by omega) (by omega)).mpr z))
    exact absurd c_9 (by omega)
set_option maxHeartbeats 4000000 in
set_option maxRecDepth 100000 in
/-- Stock.addKind(length, breadth, price) -/
theorem c_X3_addKind (l : Launch) (K : gK) (G : gW) (r : Nat) (L : Nat → Nat → Nat) (y : YV) (a b pr : Nat) (hs : StockG K true r L G y) (hsc : yKc y < 6) (hu : kOK (a, b, 0, 0, pr, 0, 0, 0)) : gM l yX3_addKind wsX3_addKind 3 63 0 0 K [.ref (L 0 0), .int (nI a), .int (nI b), .int (nI pr)] G (fun v G1 => v = none ∧ StockG K true r L G1 (yAddK y (a, b, 0, 0, pr, 0, 0, 0)) ∧ Ag r G G1) (gNo) := by
  refine gM.of (cc := cX3_addKind) (maxL := 5) (ret := none) (by decide) rfl (Nat.le_of_ble_eq_true rfl) ?_
  intro p e s m below meth c A S hr hlocks htab hname hE hA hI ls hl
  have hx := S.1
  have hb := S.2.1
  have hml := S.2.2.1
  have hl : lv_has ls 5 [(0, .ref (L 0 0)), (1, .int (nI a)), (2, .int (nI b)), (3, .int (nI pr))] := hl
  have h44 := hs.1.2.2.2.1
  have h6 := hs.1.2.2.2.2.1
  have hf2 := hs.1.2.2.2.2.2
  obtain ⟨k0, hr5, hk0⟩ := hs.rawk hsc
  have hk0 := hk0 rfl (Nat.le_refl _)
  subst hk0
  obtain ⟨H, hHe⟩ : ∃ z, z = s.heap := ⟨_, rfl⟩
  obtain ⟨locs, hLe⟩ : ∃ z : List Loc, z = [] := ⟨_, rfl⟩
  rw [← hHe, ← hLe]
  have hI : gI K A s G H locs := by rw [hHe, hLe]; exact hI
  clear hHe hLe
  refine lv_aload_n hx hb dX3_addKind_0 rfl (lv_at hl 0 rfl) ?_
  refine g_get S hE hI (C := RX3) (T := TX3) (N := 5) (ref := "StonecutterYard$Stock") (fun w h => (List.mem_cons_of_mem _ (List.mem_append_left _ (List.mem_append_right _ h)))) hs.1.1 rfl 3 (by decide) (List.mem_cons_of_mem _ (List.mem_append_left _ (List.mem_append_left _ (List.mem_of_getElem? (i := 0) rfl)))) (fun _ h9 => h9) (v := .int (nI (yKc y))) rfl dX3_addKind_1 ?_
  refine lv_aload_n hx hb dX3_addKind_4 rfl (lv_at hl 0 rfl) ?_
  refine g_get S hE hI (C := RX3) (T := TX3) (N := 5) (ref := "StonecutterYard$Stock") (fun w h => (List.mem_cons_of_mem _ (List.mem_append_left _ (List.mem_append_right _ h)))) hs.1.1 rfl 1 (by decide) (List.mem_cons_of_mem _ (List.mem_append_left _ (List.mem_append_left _ (List.mem_of_getElem? (i := 1) rfl)))) (fun _ h9 => h9) (v := .ref (L 2 0)) rfl dX3_addKind_5 ?_
  refine g_alen S hE hI (k := 3) hs.1.2.2.1 rfl (v := nI 6) rfl dX3_addKind_8 ?_
  refine lv_icmp_lt (tgt := 13) hx hb dX3_addKind_9 (by decide) (fun c_9 => ?_) (fun c_9 => ?_)
  · skip
    have c_9 : (yKc y) < 6 := (nI_ltI (a := (yKc y)) (b := 6) (by omega) (by omega)).mp c_9
    refine lv_aload_n hx hb dX3_addKind_13 rfl (lv_at hl 0 rfl) ?_
    refine lv_dup hx hb dX3_addKind_14 rfl ?_
    refine g_get S hE hI (C := RX3) (T := TX3) (N := 5) (ref := "StonecutterYard$Stock") (fun w h => (List.mem_cons_of_mem _ (List.mem_append_left _ (List.mem_append_right _ h)))) hs.1.1 rfl 3 (by decide) (List.mem_cons_of_mem _ (List.mem_append_left _ (List.mem_append_left _ (List.mem_of_getElem? (i := 0) rfl)))) (fun _ h9 => h9) (v := .int (nI (yKc y))) rfl dX3_addKind_15 ?_
    refine lv_iconst (v := nI 1) hx hb dX3_addKind_18 (by decide) ?_
    refine t_iadd hx hb dX3_addKind_19 (nI_add _ _) ?_
    refine g_put S hE hI (C := RX3) (T := TX3) (N := 5) (ref := "StonecutterYard$Stock") (fun w h => (List.mem_cons_of_mem _ (List.mem_append_left _ (List.mem_append_right _ h)))) tyX3 tyX3_ok nmX3 hs.1.1 rfl 3 (by decide) (List.mem_cons_of_mem _ (List.mem_append_left _ (List.mem_append_left _ (List.mem_of_getElem? (i := 0) rfl)))) (fun _ h9 => h9) rfl rfl rfl (Nat.le_of_ble_eq_true rfl) dX3_addKind_20 (fun H locs hI => ?_)
    have hI : gI K A s (gset G (r, 0, 0) (L 0 0) (.inr (4, [.ref (L 1 0), .ref (L 2 0), .int (nI (ySc y)), .int (nI ((yKc y) + 1)), .int (nI (yF y))]))) H locs := hI
    obtain ⟨G_1, hG_1⟩ : ∃ z, z = gset G (r, 0, 0) (L 0 0) (.inr (4, [.ref (L 1 0), .ref (L 2 0), .int (nI (ySc y)), .int (nI ((yKc y) + 1)), .int (nI (yF y))])) := ⟨_, rfl⟩
    rw [← hG_1] at hI
    have aS_G_1 : G_1 (r, 1, 0) = some ((L 1 0), cR (K.2.1 2) 44 (fRef 44 (L 3))) := by rw [hG_1, gset_ne (g_tne hs.1.2.1 hs.1.1 (by simp))]; exact hs.1.2.1
    have aK_G_1 : G_1 (r, 2, 0) = some ((L 2 0), cR (K.2.1 3) 6 (fRef 6 (L 5))) := by rw [hG_1, gset_ne (g_tne hs.1.2.2.1 hs.1.1 (by simp))]; exact hs.1.2.2.1
    have n_G_1 : G_1 (r, 5, yKc y) = some ((L 5 (yKc y)), .inr (1, [.int (nI (kL kZ)), .int (nI (kB kZ)), .int (nI (kW kZ)), .int (nI (kF kZ)), .int (nI (kP kZ)), .int (nI (kN kZ)), .int (nI (kT kZ)), .int (nI (kD kZ))])) := by rw [hG_1, gset_ne (g_tne hr5 hs.1.1 (by simp))]; exact hr5
    have st_G_1 : G_1 (r, 0, 0) = some ((L 0 0), .inr (4, [.ref (L 1 0), .ref (L 2 0), .int (nI (ySc y)), .int (nI ((yKc y) + 1)), .int (nI (yF y))])) := by rw [hG_1]; exact gset_eq _ _ _ _
    refine lv_aload_n hx hb dX3_addKind_23 rfl (lv_at hl 0 rfl) ?_
    refine lv_aload_n hx hb dX3_addKind_24 rfl (lv_at hl 0 rfl) ?_
    refine g_get S hE hI (C := RX3) (T := TX3) (N := 5) (ref := "StonecutterYard$Stock") (fun w h => (List.mem_cons_of_mem _ (List.mem_append_left _ (List.mem_append_right _ h)))) st_G_1 rfl 3 (by decide) (List.mem_cons_of_mem _ (List.mem_append_left _ (List.mem_append_left _ (List.mem_of_getElem? (i := 0) rfl)))) (fun _ h9 => h9) (v := .int (nI ((yKc y) + 1))) rfl dX3_addKind_25 ?_
    refine lv_iconst (v := nI 1) hx hb dX3_addKind_28 (by decide) ?_
    refine t_isub hx hb dX3_addKind_29 (v := nI (yKc y)) (by rw [pk_sub (by omega)]; rfl) ?_
    have hh1 : StockH K r L G_1 (ySc y) (yKc y + 1) (yF y) := ⟨st_G_1, aS_G_1, aK_G_1, hs.1.2.2.2.1, hsc, hs.1.2.2.2.2.2⟩
    refine g_callV (As := [.int (nI (yKc y))]) (rest := []) (b := (L 0 0)) (n := 1) S hE hI hA (c_kindIn l K _ r L (ySc y) (yKc y + 1) (yF y) (yKc y) hh1 (Nat.lt_succ_self _)) gX3_addKind_X3_kindOrNull rfl (by decide +kernel) ⟨Nat.le_of_ble_eq_true rfl, Nat.le_of_ble_eq_true rfl⟩ (g_hro hE hI st_G_1 rfl) rfl hl.1 rfl (Nat.le_of_ble_eq_true rfl) dX3_addKind_30 ⟨Nat.le_of_ble_eq_true rfl, Nat.le_of_ble_eq_true rfl⟩ (fun E ce q9 Gx H1 locs1 hx9 => hx9.elim) (fun rv Gc_30 H locs hp hI => ?_)
    obtain ⟨rfl, hq9⟩ := hp
    rw [hq9] at hI
    refine W.eq (g2 := F0 m 33 ls [.ref (L 5 (yKc y))]) rfl ?_
    refine lv_astore (lv' := [(4, .ref (L 5 (yKc y))), (0, .ref (L 0 0)), (1, .int (nI a)), (2, .int (nI b)), (3, .int (nI pr))]) hx hb dX3_addKind_33 hl (by decide) rfl (fun ls hl => ?_)
    refine lv_aload hx hb dX3_addKind_35 (lv_at hl 0 rfl) ?_
    refine lv_ifnull hx hb dX3_addKind_37 ?_
    refine lv_aload hx hb dX3_addKind_40 (lv_at hl 0 rfl) ?_
    refine lv_iload_n hx hb dX3_addKind_42 rfl (lv_at hl 2 rfl) ?_
    refine lv_iload_n hx hb dX3_addKind_43 rfl (lv_at hl 3 rfl) ?_
    refine lv_iload_n hx hb dX3_addKind_44 rfl (lv_at hl 4 rfl) ?_
    refine g_callV (As := [.int (nI a), .int (nI b), .int (nI pr)]) (rest := []) (b := (L 5 (yKc y))) (n := 3) S hE hI hA (c_X0_begin l K _ (r, 5, yKc y) (L 5 (yKc y)) kZ a b pr n_G_1) gX3_addKind_X0_begin rfl (by decide +kernel) ⟨Nat.le_of_ble_eq_true rfl, Nat.le_of_ble_eq_true rfl⟩ (g_hro hE hI n_G_1 rfl) rfl hl.1 rfl (Nat.le_of_ble_eq_true rfl) dX3_addKind_45 ⟨Nat.le_of_ble_eq_true rfl, Nat.le_of_ble_eq_true rfl⟩ (fun E ce q9 Gx H1 locs1 hx9 => hx9.elim) (fun rv Gc_45 H locs hp hI => ?_)
    obtain ⟨rfl, hGc⟩ := hp
    refine W.eq (g2 := F0 m 48 ls []) rfl ?_
    exact g_vret S hI hr hlocks (Nat.zero_le _) (Nat.zero_le _) dX3_addKind_48 ⟨rfl, by rw [hGc, hG_1]; exact hs.addK hsc hu, by rw [hGc, hG_1]; exact Ag.rf.st.st⟩
  · skip
    have c_9 : 6 ≤ (yKc y) := Nat.not_lt.mp (fun z => c_9 ((nI_ltI (a := (yKc y)) (b := 6) (by omega) (by omega)).mpr z))
    exact absurd c_9 (by omega)
set_option maxHeartbeats 4000000 in
set_option maxRecDepth 100000 in
/-- Stock.setPrice(number, price) -/
theorem c_X3_setPrice (l : Launch) (K : gK) (G : gW) (z : Bool) (r : Nat) (L : Nat → Nat → Nat) (y : YV) (i pr : Nat) (hs : StockG K z r L G y) (hi : i < yKc y) (hpr : 1 ≤ pr ∧ pr ≤ 999) : gM l yX3_setPrice wsX3_setPrice 3 61 0 0 K [.ref (L 0 0), .int (nI i), .int (nI pr)] G (fun v G1 => v = none ∧ StockG K z r L G1 (ySetK y i (kL (yK y i), kB (yK y i), kW (yK y i), kF (yK y i), pr, kN (yK y i), kT (yK y i), kD (yK y i))) ∧ Ag r G G1) (gNo) := by
  refine gM.of (cc := cX3_setPrice) (maxL := 4) (ret := none) (by decide) rfl (Nat.le_of_ble_eq_true rfl) ?_
  intro p e s m below meth c A S hr hlocks htab hname hE hA hI ls hl
  have hx := S.1
  have hb := S.2.1
  have hml := S.2.2.1
  have hl : lv_has ls 4 [(0, .ref (L 0 0)), (1, .int (nI i)), (2, .int (nI pr))] := hl
  have h44 := hs.1.2.2.2.1
  have h6 := hs.1.2.2.2.2.1
  have hf2 := hs.1.2.2.2.2.2
  obtain ⟨H, hHe⟩ : ∃ z, z = s.heap := ⟨_, rfl⟩
  obtain ⟨locs, hLe⟩ : ∃ z : List Loc, z = [] := ⟨_, rfl⟩
  rw [← hHe, ← hLe]
  have hI : gI K A s G H locs := by rw [hHe, hLe]; exact hI
  clear hHe hLe
  refine lv_aload_n hx hb dX3_setPrice_0 rfl (lv_at hl 0 rfl) ?_
  refine lv_iload_n hx hb dX3_setPrice_1 rfl (lv_at hl 1 rfl) ?_
  refine g_callV (As := [.int (nI i)]) (rest := []) (b := (L 0 0)) (n := 1) S hE hI hA (c_kindIn l K _ r L (ySc y) (yKc y) (yF y) i hs.1 hi) gX3_setPrice_X3_kindOrNull rfl (by decide +kernel) ⟨Nat.le_of_ble_eq_true rfl, Nat.le_of_ble_eq_true rfl⟩ (g_hro hE hI hs.1.1 rfl) rfl hl.1 rfl (Nat.le_of_ble_eq_true rfl) dX3_setPrice_2 ⟨Nat.le_of_ble_eq_true rfl, Nat.le_of_ble_eq_true rfl⟩ (fun E ce q9 Gx H1 locs1 hx9 => hx9.elim) (fun rv Gc_2 H locs hp hI => ?_)
  obtain ⟨rfl, hq9⟩ := hp
  rw [hq9] at hI
  obtain ⟨hkd, hkok⟩ := hs.kind hi
  have hkok9 := hkok
  obtain ⟨k1, k2, k3, k4, k5, k6, k7, k8, k9⟩ := hkok9
  refine W.eq (g2 := F0 m 5 ls [.ref (L 5 i)]) rfl ?_
  refine lv_astore_n (lv' := [(3, .ref (L 5 i)), (0, .ref (L 0 0)), (1, .int (nI i)), (2, .int (nI pr))]) hx hb dX3_setPrice_5 rfl hl (by decide) rfl (fun ls hl => ?_)
  refine lv_aload_n hx hb dX3_setPrice_6 rfl (lv_at hl 0 rfl) ?_
  refine lv_ifnull hx hb dX3_setPrice_7 ?_
  refine lv_aload_n hx hb dX3_setPrice_10 rfl (lv_at hl 0 rfl) ?_
  refine lv_iload_n hx hb dX3_setPrice_11 rfl (lv_at hl 3 rfl) ?_
  refine g_putN S hE hI (C := RX0) (T := TX0) (N := 8) (ref := "StonecutterYard$Kind") (host := "StonecutterYard") (fun w h => (List.mem_cons_of_mem _ (List.mem_append_left _ (List.mem_append_right _ h)))) tyX0 tyX0_ok nmX0 hkd rfl 4 (by decide) (List.mem_of_getElem? (i := 19) rfl) (fun _ h9 => h9) rfl rfl rfl (Nat.le_of_ble_eq_true rfl) dX3_setPrice_12 (fun H locs hI => ?_)
  have hI : gI K A s (gset G (r, 5, i) (L 5 i) (.inr (1, [.int (nI (kL (yK y i))), .int (nI (kB (yK y i))), .int (nI (kW (yK y i))), .int (nI (kF (yK y i))), .int (nI pr), .int (nI (kN (yK y i))), .int (nI (kT (yK y i))), .int (nI (kD (yK y i)))]))) H locs := hI
  obtain ⟨G_1, hG_1⟩ : ∃ z, z = gset G (r, 5, i) (L 5 i) (.inr (1, [.int (nI (kL (yK y i))), .int (nI (kB (yK y i))), .int (nI (kW (yK y i))), .int (nI (kF (yK y i))), .int (nI pr), .int (nI (kN (yK y i))), .int (nI (kT (yK y i))), .int (nI (kD (yK y i)))])) := ⟨_, rfl⟩
  rw [← hG_1] at hI
  have st_G_1 : G_1 (r, 0, 0) = some ((L 0 0), .inr (4, [.ref (L 1 0), .ref (L 2 0), .int (nI (ySc y)), .int (nI (yKc y)), .int (nI (yF y))])) := by rw [hG_1, gset_ne (g_tne hs.1.1 hkd (by simp))]; exact hs.1.1
  have aS_G_1 : G_1 (r, 1, 0) = some ((L 1 0), cR (K.2.1 2) 44 (fRef 44 (L 3))) := by rw [hG_1, gset_ne (g_tne hs.1.2.1 hkd (by simp))]; exact hs.1.2.1
  have aK_G_1 : G_1 (r, 2, 0) = some ((L 2 0), cR (K.2.1 3) 6 (fRef 6 (L 5))) := by rw [hG_1, gset_ne (g_tne hs.1.2.2.1 hkd (by simp))]; exact hs.1.2.2.1
  have k_G_1 : G_1 (r, 5, i) = some ((L 5 i), .inr (1, [.int (nI (kL (yK y i))), .int (nI (kB (yK y i))), .int (nI (kW (yK y i))), .int (nI (kF (yK y i))), .int (nI pr), .int (nI (kN (yK y i))), .int (nI (kT (yK y i))), .int (nI (kD (yK y i)))])) := by rw [hG_1]; exact gset_eq _ _ _ _
  exact g_vret S hI hr hlocks (Nat.zero_le _) (Nat.zero_le _) dX3_setPrice_15 ⟨rfl, by rw [hG_1]; exact hs.setK (k := (kL (yK y i), kB (yK y i), kW (yK y i), kF (yK y i), pr, kN (yK y i), kT (yK y i), kD (yK y i))) hi ⟨k1, k2, k3, k4, k5, k6, hpr.1, hpr.2, k9⟩, by rw [hG_1]; exact Ag.rf.st⟩
set_option maxHeartbeats 4000000 in
set_option maxRecDepth 100000 in
/-- Stock.canCut(slab, isDown, place) -/
theorem c_X3_canCut (l : Launch) (K : gK) (G : gW) (r : Nat) (L : Nat → Nat → Nat) (sc kc kf : Nat) (t : gTag) (h1 : Nat) (u : SV) (pa : Nat) (dn : Bool) (x : Int32) (hh : StockH K r L G sc kc kf) (hg : G t = some (h1, cS u pa)) (hwh : (1 ≤ sW u ∧ sW u ≤ 24) ∧ 1 ≤ sH u ∧ sH u ≤ 24) : gM l yX3_canCut wsX3_canCut 3 61 0 0 K [.ref (L 0 0), .ref h1, .int (bI dn), .int x] G (fun v G1 => v = some (.int (bI (canI (yLen u dn) kf x))) ∧ G1 = G) (gNo) := by
  refine gM.of (cc := cX3_canCut) (maxL := 4) (ret := (some .boolean)) (by decide) rfl (Nat.le_of_ble_eq_true rfl) ?_
  intro p e s m below meth c A S hr hlocks htab hname hE hA hI ls hl
  have hx := S.1
  have hb := S.2.1
  have hml := S.2.2.1
  have hl : lv_has ls 4 [(0, .ref (L 0 0)), (1, .ref h1), (2, .int (bI dn)), (3, .int x)] := hl
  have hlen : yLen u dn ≤ 24 := by unfold yLen; split <;> omega
  have hkf := hh.2.2.2.2.2
  have hlen1 : 1 ≤ yLen u dn := by unfold yLen; split <;> omega
  obtain ⟨H, hHe⟩ : ∃ z, z = s.heap := ⟨_, rfl⟩
  obtain ⟨locs, hLe⟩ : ∃ z : List Loc, z = [] := ⟨_, rfl⟩
  rw [← hHe, ← hLe]
  have hI : gI K A s G H locs := by rw [hHe, hLe]; exact hI
  clear hHe hLe
  refine lv_iload_n hx hb dX3_canCut_0 rfl (lv_at hl 3 rfl) ?_
  refine lv_iconst (v := nI 1) hx hb dX3_canCut_1 (by decide) ?_
  refine lv_icmp_lt (tgt := 25) hx hb dX3_canCut_2 (by decide) (fun c_2 => ?_) (fun c_2 => ?_)
  · skip
    have hcan : canI (yLen u dn) kf x = false := canI_lt c_2
    refine lv_iconst (v := nI 0) hx hb dX3_canCut_25 (by decide) ?_
    exact g_zret S hI hr hlocks (Nat.zero_le _) (Nat.zero_le _) (Or.inl rfl) dX3_canCut_26 ⟨by rw [hcan]; rfl, rfl⟩
  · skip
    refine lv_aload_n hx hb dX3_canCut_5 rfl (lv_at hl 1 rfl) ?_
    refine lv_iload_n hx hb dX3_canCut_6 rfl (lv_at hl 2 rfl) ?_
    refine g_callV (As := [.int (bI dn)]) (rest := []) (b := h1) (n := 1) S hE hI hA (c_X2_along l K _ t h1 u pa dn hg) gX3_canCut_X2_along rfl (by decide +kernel) ⟨Nat.le_of_ble_eq_true rfl, Nat.le_of_ble_eq_true rfl⟩ (g_hro hE hI hg rfl) rfl hl.1 rfl (Nat.le_of_ble_eq_true rfl) dX3_canCut_7 ⟨Nat.le_of_ble_eq_true rfl, Nat.le_of_ble_eq_true rfl⟩ (fun E ce q9 Gx H1 locs1 hx9 => hx9.elim) (fun rv Gc_7 H locs hp hI => ?_)
    obtain ⟨rfl, hq9⟩ := hp
    rw [hq9] at hI
    refine W.eq (g2 := F0 m 10 ls [.int (nI (yLen u dn))]) rfl ?_
    refine lv_iload_n hx hb dX3_canCut_10 rfl (lv_at hl 3 rfl) ?_
    refine lv_isub hx hb dX3_canCut_11 ?_
    refine lv_aload_n hx hb dX3_canCut_12 rfl (lv_at hl 0 rfl) ?_
    refine g_get S hE hI (C := RX3) (T := TX3) (N := 5) (ref := "StonecutterYard$Stock") (fun w h => (List.mem_cons_of_mem _ (List.mem_append_left _ (List.mem_append_right _ h)))) hh.1 rfl 4 (by decide) (List.mem_cons_of_mem _ (List.mem_append_left _ (List.mem_append_left _ (List.mem_of_getElem? (i := 0) rfl)))) (fun _ h9 => h9) (v := .int (nI kf)) rfl dX3_canCut_13 ?_
    refine lv_isub hx hb dX3_canCut_16 ?_
    refine lv_iconst (v := nI 1) hx hb dX3_canCut_17 (by decide) ?_
    refine lv_icmp_lt (tgt := 25) hx hb dX3_canCut_18 (by decide) (fun c_18 => ?_) (fun c_18 => ?_)
    · skip
      have hcan : canI (yLen u dn) kf x = false := (canI_iff c_2 hlen1 hlen hkf).mp c_18
      refine lv_iconst (v := nI 0) hx hb dX3_canCut_25 (by decide) ?_
      exact g_zret S hI hr hlocks (Nat.zero_le _) (Nat.zero_le _) (Or.inl rfl) dX3_canCut_26 ⟨by rw [hcan]; rfl, rfl⟩
    · skip
      have hcan : canI (yLen u dn) kf x = true := Bool.not_eq_false _ |>.mp (fun z9 => c_18 ((canI_iff c_2 hlen1 hlen hkf).mpr z9))
      refine lv_iconst (v := nI 1) hx hb dX3_canCut_21 (by decide) ?_
      refine lv_goto (tgt := 26) hx hb dX3_canCut_22 (by decide) ?_
      exact g_zret S hI hr hlocks (Nat.zero_le _) (Nat.zero_le _) (Or.inr rfl) dX3_canCut_26 ⟨by rw [hcan]; rfl, rfl⟩
set_option maxHeartbeats 4000000 in
set_option maxRecDepth 100000 in
/-- Stock.cutSlab(number, true, place) -/
theorem c_cutD (l : Launch) (K : gK) (G : gW) (z : Bool) (r : Nat) (L : Nat → Nat → Nat) (y : YV) (i x : Nat) (hs : StockG K z r L G y) (hi : i < ySc y) (hx24 : x ≤ 24) (hroom : canC (yLen (yS y i) true) (yF y) x = true → ySc y ≤ 42) : gM l yX3_cutSlab wsX3_cutSlab 4 89 0 0 K [.ref (L 0 0), .int (nI i), .int (bI true), .int (nI x)] G (fun v G1 => v = some (.int (nI (yCutR y i true x))) ∧ StockG K z r L G1 (yCut y i true x) ∧ Ag r G G1) (gNo) := by
  refine gM.of (cc := cX3_cutSlab) (maxL := 9) (ret := (some .int)) (by decide) rfl (Nat.le_of_ble_eq_true rfl) ?_
  intro p e s m below meth c A S hr hlocks htab hname hE hA hI ls hl
  have hx := S.1
  have hb := S.2.1
  have hml := S.2.2.1
  have hl : lv_has ls 9 [(0, .ref (L 0 0)), (1, .int (nI i)), (2, .int (bI true)), (3, .int (nI x))] := hl
  have h44 := hs.1.2.2.2.1
  have h6 := hs.1.2.2.2.2.1
  have hf2 := hs.1.2.2.2.2.2
  obtain ⟨H, hHe⟩ : ∃ z, z = s.heap := ⟨_, rfl⟩
  obtain ⟨locs, hLe⟩ : ∃ z : List Loc, z = [] := ⟨_, rfl⟩
  rw [← hHe, ← hLe]
  have hI : gI K A s G H locs := by rw [hHe, hLe]; exact hI
  clear hHe hLe
  refine lv_aload_n hx hb dX3_cutSlab_0 rfl (lv_at hl 0 rfl) ?_
  refine lv_iload_n hx hb dX3_cutSlab_1 rfl (lv_at hl 1 rfl) ?_
  refine g_callV (As := [.int (nI i)]) (rest := []) (b := (L 0 0)) (n := 1) S hE hI hA (c_slabIn l K _ r L (ySc y) (yKc y) (yF y) i hs.1 hi) gX3_cutSlab_X3_slabOrNull rfl (by decide +kernel) ⟨Nat.le_of_ble_eq_true rfl, Nat.le_of_ble_eq_true rfl⟩ (g_hro hE hI hs.1.1 rfl) rfl hl.1 rfl (Nat.le_of_ble_eq_true rfl) dX3_cutSlab_2 ⟨Nat.le_of_ble_eq_true rfl, Nat.le_of_ble_eq_true rfl⟩ (fun E ce q9 Gx H1 locs1 hx9 => hx9.elim) (fun rv Gc_2 H locs hp hI => ?_)
  obtain ⟨rfl, hq9⟩ := hp
  rw [hq9] at hI
  obtain ⟨P, hsl, hpt, hpk, hsok⟩ := hs.slab hi
  have hsok9 := hsok
  obtain ⟨s1, s2, s3, s4, s5, s6, s7, s8⟩ := hsok9
  refine W.eq (g2 := F0 m 5 ls [.ref (L 3 i)]) rfl ?_
  refine lv_astore (lv' := [(4, .ref (L 3 i)), (0, .ref (L 0 0)), (1, .int (nI i)), (2, .int (bI true)), (3, .int (nI x))]) hx hb dX3_cutSlab_5 hl (by decide) rfl (fun ls hl => ?_)
  refine lv_aload hx hb dX3_cutSlab_7 (lv_at hl 0 rfl) ?_
  refine lv_ifnull hx hb dX3_cutSlab_9 ?_
  refine lv_aload_n hx hb dX3_cutSlab_12 rfl (lv_at hl 1 rfl) ?_
  refine lv_aload hx hb dX3_cutSlab_13 (lv_at hl 0 rfl) ?_
  refine lv_iload_n hx hb dX3_cutSlab_15 rfl (lv_at hl 3 rfl) ?_
  refine lv_iload_n hx hb dX3_cutSlab_16 rfl (lv_at hl 4 rfl) ?_
  refine g_callV (As := [.ref (L 3 i), .int (bI true), .int (nI x)]) (rest := []) (b := (L 0 0)) (n := 3) S hE hI hA (c_X3_canCut l K _ r L (ySc y) (yKc y) (yF y) (r, 3, i) (L 3 i) (yS y i) (L 4 i) true (nI x) hs.1 hsl ⟨⟨s1, s2⟩, s3, s4⟩) gX3_cutSlab_X3_canCut rfl (by decide +kernel) ⟨Nat.le_of_ble_eq_true rfl, Nat.le_of_ble_eq_true rfl⟩ (g_hro hE hI hs.1.1 rfl) rfl hl.1 rfl (Nat.le_of_ble_eq_true rfl) dX3_cutSlab_17 ⟨Nat.le_of_ble_eq_true rfl, Nat.le_of_ble_eq_true rfl⟩ (fun E ce q9 Gx H1 locs1 hx9 => hx9.elim) (fun rv Gc_17 H locs hp hI => ?_)
  obtain ⟨rfl, hq9⟩ := hp
  rw [hq9] at hI
  rw [canI_nI (by omega)]
  refine W.eq (g2 := F0 m 20 ls [.int (bI (canC (yLen (yS y i) true) (yF y) x))]) rfl ?_
  refine lv_if_ne (tgt := 25) hx hb dX3_cutSlab_20 (by decide) (fun c_20 => ?_) (fun c_20 => ?_)
  · skip
    have c_20 : (canC (yLen (yS y i) true) (yF y) x) = true := bI_1.mp c_20
    have hcan : canC (yLen (yS y i) true) (yF y) x = true := c_20
    have hcn := of_decide_eq_true hcan
    have hcn : 1 ≤ x ∧ x + yF y < sW (yS y i) := hcn
    have hsc9 := hroom hcan
    have hsc42 : ySc y < 44 := by omega
    have hsc43 : ySc y + 1 < 44 := by omega
    have hok1 : sOK (x, sH (yS y i), sG (yS y i), nI i, 0, []) := sOK.part (by omega) (by omega) s5 (by decide) (fun q hq => by cases hq)
    have hok2 : sOK (sW (yS y i) - (x + yF y), sH (yS y i), sG (yS y i), nI i, 0, []) := sOK.part (by omega) (by omega) s5 (by decide) (fun q hq => by cases hq)
    refine lv_aload_n hx hb dX3_cutSlab_25 rfl (lv_at hl 1 rfl) ?_
    refine g_get S hE hI (C := RX3) (T := TX3) (N := 5) (ref := "StonecutterYard$Stock") (fun w h => (List.mem_cons_of_mem _ (List.mem_append_left _ (List.mem_append_right _ h)))) hs.1.1 rfl 2 (by decide) (List.mem_cons_of_mem _ (List.mem_append_left _ (List.mem_append_left _ (List.mem_append_left _ (List.mem_of_getElem? (i := 0) rfl))))) (fun _ h9 => h9) (v := .int (nI (ySc y))) rfl dX3_cutSlab_26 ?_
    refine lv_istore (lv' := [(5, .int (nI (ySc y))), (4, .ref (L 3 i)), (0, .ref (L 0 0)), (1, .int (nI i)), (2, .int (bI true)), (3, .int (nI x))]) hx hb dX3_cutSlab_29 hl (by decide) rfl (fun ls hl => ?_)
    refine lv_iload_n hx hb dX3_cutSlab_31 rfl (lv_at hl 5 rfl) ?_
    refine lv_aload_n hx hb dX3_cutSlab_32 rfl (lv_at hl 2 rfl) ?_
    refine g_get S hE hI (C := RX3) (T := TX3) (N := 5) (ref := "StonecutterYard$Stock") (fun w h => (List.mem_cons_of_mem _ (List.mem_append_left _ (List.mem_append_right _ h)))) hs.1.1 rfl 4 (by decide) (List.mem_cons_of_mem _ (List.mem_append_left _ (List.mem_append_left _ (List.mem_append_left _ (List.mem_of_getElem? (i := 1) rfl))))) (fun _ h9 => h9) (v := .int (nI (yF y))) rfl dX3_cutSlab_33 ?_
    refine t_iadd hx hb dX3_cutSlab_36 (nI_add _ _) ?_
    refine lv_istore (lv' := [(6, .int (nI (x + (yF y)))), (5, .int (nI (ySc y))), (4, .ref (L 3 i)), (0, .ref (L 0 0)), (1, .int (nI i)), (2, .int (bI true)), (3, .int (nI x))]) hx hb dX3_cutSlab_37 hl (by decide) rfl (fun ls hl => ?_)
    refine lv_iload_n hx hb dX3_cutSlab_39 rfl (lv_at hl 5 rfl) ?_
    refine lv_if_eq (tgt := 89) hx hb dX3_cutSlab_40 (by decide) (fun c_40 => ?_) (fun c_40 => ?_)
    · skip
      have c_40 : true = false := bI_0.mp c_40
      exact absurd c_40 (by decide)
    · skip
      have c_40 : true = true := bI_1.mp c_40
      refine lv_aload_n hx hb dX3_cutSlab_43 rfl (lv_at hl 3 rfl) ?_
      refine lv_iload_n hx hb dX3_cutSlab_44 rfl (lv_at hl 6 rfl) ?_
      refine lv_aload hx hb dX3_cutSlab_45 (lv_at hl 2 rfl) ?_
      refine g_getN S hE hI (C := RX2) (T := TX2) (N := 7) (ref := "StonecutterYard$Slab") (host := "StonecutterYard") (fun w h => (List.mem_cons_of_mem _ (List.mem_append_right _ h))) hsl rfl 1 (by decide) (List.mem_of_getElem? (i := 20) rfl) (fun _ h9 => h9) (v := .int (nI (sH (yS y i)))) rfl dX3_cutSlab_47 ?_
      refine lv_aload hx hb dX3_cutSlab_50 (lv_at hl 2 rfl) ?_
      refine g_getN S hE hI (C := RX2) (T := TX2) (N := 7) (ref := "StonecutterYard$Slab") (host := "StonecutterYard") (fun w h => (List.mem_cons_of_mem _ (List.mem_append_right _ h))) hsl rfl 2 (by decide) (List.mem_of_getElem? (i := 21) rfl) (fun _ h9 => h9) (v := .int (nI (sG (yS y i)))) rfl dX3_cutSlab_52 ?_
      refine lv_iload_n hx hb dX3_cutSlab_55 rfl (lv_at hl 4 rfl) ?_
      refine g_callV (As := [.int (nI x), .int (nI (sH (yS y i))), .int (nI (sG (yS y i))), .int (nI i)]) (rest := []) (b := (L 0 0)) (n := 4) S hE hI hA (c_X3_addSlab l K _ z r L y x (sH (yS y i)) (sG (yS y i)) (nI i) hs hsc42 hok1) gX3_cutSlab_X3_addSlab rfl (by decide +kernel) ⟨Nat.le_of_ble_eq_true rfl, Nat.le_of_ble_eq_true rfl⟩ (g_hro hE hI hs.1.1 rfl) rfl hl.1 rfl (Nat.le_of_ble_eq_true rfl) dX3_cutSlab_56 ⟨Nat.le_of_ble_eq_true rfl, Nat.le_of_ble_eq_true rfl⟩ (fun E ce q9 Gx H1 locs1 hx9 => hx9.elim) (fun rv Gc_56 H locs hp hI => ?_)
      obtain ⟨rfl, hs1, ha1⟩ := hp
      obtain ⟨P_u_Gc_56, hsl_u_Gc_56, hpt_u_Gc_56, hpk_u_Gc_56, hso_u_Gc_56⟩ := hs1.get (i := i) (u := (yS y i)) (by show i < ySc y + 1; omega) (fU_ne (by omega))
      refine W.eq (g2 := F0 m 59 ls [.ref (L 3 (ySc y))]) rfl ?_
      refine lv_astore (lv' := [(7, .ref (L 3 (ySc y))), (6, .int (nI (x + (yF y)))), (5, .int (nI (ySc y))), (4, .ref (L 3 i)), (0, .ref (L 0 0)), (1, .int (nI i)), (2, .int (bI true)), (3, .int (nI x))]) hx hb dX3_cutSlab_59 hl (by decide) rfl (fun ls hl => ?_)
      refine lv_aload_n hx hb dX3_cutSlab_61 rfl (lv_at hl 4 rfl) ?_
      refine lv_aload hx hb dX3_cutSlab_62 (lv_at hl 3 rfl) ?_
      refine g_getN S hE hI (C := RX2) (T := TX2) (N := 7) (ref := "StonecutterYard$Slab") (host := "StonecutterYard") (fun w h => (List.mem_cons_of_mem _ (List.mem_append_right _ h))) hsl_u_Gc_56 rfl 0 (by decide) (List.mem_of_getElem? (i := 22) rfl) (fun _ h9 => h9) (v := .int (nI (sW (yS y i)))) rfl dX3_cutSlab_64 ?_
      refine lv_iload hx hb dX3_cutSlab_67 (lv_at hl 1 rfl) ?_
      refine t_isub hx hb dX3_cutSlab_69 (v := nI (sW (yS y i) - (x + yF y))) (pk_sub (by omega)) ?_
      refine lv_aload hx hb dX3_cutSlab_70 (lv_at hl 3 rfl) ?_
      refine g_getN S hE hI (C := RX2) (T := TX2) (N := 7) (ref := "StonecutterYard$Slab") (host := "StonecutterYard") (fun w h => (List.mem_cons_of_mem _ (List.mem_append_right _ h))) hsl_u_Gc_56 rfl 1 (by decide) (List.mem_of_getElem? (i := 20) rfl) (fun _ h9 => h9) (v := .int (nI (sH (yS y i)))) rfl dX3_cutSlab_72 ?_
      refine lv_aload hx hb dX3_cutSlab_75 (lv_at hl 3 rfl) ?_
      refine g_getN S hE hI (C := RX2) (T := TX2) (N := 7) (ref := "StonecutterYard$Slab") (host := "StonecutterYard") (fun w h => (List.mem_cons_of_mem _ (List.mem_append_right _ h))) hsl_u_Gc_56 rfl 2 (by decide) (List.mem_of_getElem? (i := 21) rfl) (fun _ h9 => h9) (v := .int (nI (sG (yS y i)))) rfl dX3_cutSlab_77 ?_
      refine lv_iload_n hx hb dX3_cutSlab_80 rfl (lv_at hl 5 rfl) ?_
      refine g_callV (As := [.int (nI (sW (yS y i) - (x + yF y))), .int (nI (sH (yS y i))), .int (nI (sG (yS y i))), .int (nI i)]) (rest := []) (b := (L 0 0)) (n := 4) S hE hI hA (c_X3_addSlab l K _ z r L (yAddS y (x, sH (yS y i), sG (yS y i), nI i, 0, [])) (sW (yS y i) - (x + yF y)) (sH (yS y i)) (sG (yS y i)) (nI i) hs1 hsc43 hok2) gX3_cutSlab_X3_addSlab rfl (by decide +kernel) ⟨Nat.le_of_ble_eq_true rfl, Nat.le_of_ble_eq_true rfl⟩ (g_hro hE hI hs1.1.1 rfl) rfl hl.1 rfl (Nat.le_of_ble_eq_true rfl) dX3_cutSlab_81 ⟨Nat.le_of_ble_eq_true rfl, Nat.le_of_ble_eq_true rfl⟩ (fun E ce q9 Gx H1 locs1 hx9 => hx9.elim) (fun rv Gc_81 H locs hp hI => ?_)
      obtain ⟨rfl, hs2, ha2⟩ := hp
      obtain ⟨P_u_Gc_81, hsl_u_Gc_81, hpt_u_Gc_81, hpk_u_Gc_81, hso_u_Gc_81⟩ := hs2.get (i := i) (u := (yS y i)) (by show i < ySc y + 1 + 1; omega) ((fU_ne (by show i ≠ ySc y + 1; omega)).trans (fU_ne (by omega)))
      refine W.eq (g2 := F0 m 84 ls [.ref (L 3 (ySc y + 1))]) rfl ?_
      refine lv_astore (lv' := [(8, .ref (L 3 (ySc y + 1))), (7, .ref (L 3 (ySc y))), (6, .int (nI (x + (yF y)))), (5, .int (nI (ySc y))), (4, .ref (L 3 i)), (0, .ref (L 0 0)), (1, .int (nI i)), (2, .int (bI true)), (3, .int (nI x))]) hx hb dX3_cutSlab_84 hl (by decide) rfl (fun ls hl => ?_)
      refine lv_goto (tgt := 132) hx hb dX3_cutSlab_86 (by decide) ?_
      refine lv_aload hx hb dX3_cutSlab_132 (lv_at hl 4 rfl) ?_
      refine lv_iconst (v := nI 1) hx hb dX3_cutSlab_134 (by decide) ?_
      refine g_putN S hE hI (C := RX2) (T := TX2) (N := 7) (ref := "StonecutterYard$Slab") (host := "StonecutterYard") (fun w h => (List.mem_cons_of_mem _ (List.mem_append_right _ h))) tyX2 tyX2_ok nmX2 hsl_u_Gc_81 rfl 4 (by decide) (List.mem_of_getElem? (i := 23) rfl) (fun _ h9 => h9) rfl rfl rfl (Nat.le_of_ble_eq_true rfl) dX3_cutSlab_135 (fun H locs hI => ?_)
      have hI : gI K A s (gset Gc_81 (r, 3, i) (L 3 i) (.inr (3, [.int (nI (sW (yS y i))), .int (nI (sH (yS y i))), .int (nI (sG (yS y i))), .int (sF (yS y i)), .int (nI 1), .int (nI ((sL (yS y i)).length)), .ref (L 4 i)]))) H locs := hI
      obtain ⟨G_1, hG_1⟩ : ∃ z, z = gset Gc_81 (r, 3, i) (L 3 i) (.inr (3, [.int (nI (sW (yS y i))), .int (nI (sH (yS y i))), .int (nI (sG (yS y i))), .int (sF (yS y i)), .int (nI 1), .int (nI ((sL (yS y i)).length)), .ref (L 4 i)])) := ⟨_, rfl⟩
      rw [← hG_1] at hI
      have st_G_1 : G_1 (r, 0, 0) = some ((L 0 0), .inr (4, [.ref (L 1 0), .ref (L 2 0), .int (nI (ySc (yAddS (yAddS y (x, sH (yS y i), sG (yS y i), nI i, 0, [])) (sW (yS y i) - (x + yF y), sH (yS y i), sG (yS y i), nI i, 0, [])))), .int (nI (yKc (yAddS (yAddS y (x, sH (yS y i), sG (yS y i), nI i, 0, [])) (sW (yS y i) - (x + yF y), sH (yS y i), sG (yS y i), nI i, 0, [])))), .int (nI (yF (yAddS (yAddS y (x, sH (yS y i), sG (yS y i), nI i, 0, [])) (sW (yS y i) - (x + yF y), sH (yS y i), sG (yS y i), nI i, 0, []))))])) := by rw [hG_1, gset_ne (g_tne hs2.1.1 hsl_u_Gc_81 (by simp))]; exact hs2.1.1
      have aS_G_1 : G_1 (r, 1, 0) = some ((L 1 0), cR (K.2.1 2) 44 (fRef 44 (L 3))) := by rw [hG_1, gset_ne (g_tne hs2.1.2.1 hsl_u_Gc_81 (by simp))]; exact hs2.1.2.1
      have aK_G_1 : G_1 (r, 2, 0) = some ((L 2 0), cR (K.2.1 3) 6 (fRef 6 (L 5))) := by rw [hG_1, gset_ne (g_tne hs2.1.2.2.1 hsl_u_Gc_81 (by simp))]; exact hs2.1.2.2.1
      have up_G_1 : G_1 (r, 4, i) = some ((L 4 i), cI K 6 P_u_Gc_81) := by rw [hG_1, gset_ne (g_tne hpt_u_Gc_81 hsl_u_Gc_81 (by simp))]; exact hpt_u_Gc_81
      have u_G_1 : G_1 (r, 3, i) = some ((L 3 i), .inr (3, [.int (nI (sW (yS y i))), .int (nI (sH (yS y i))), .int (nI (sG (yS y i))), .int (sF (yS y i)), .int (nI 1), .int (nI ((sL (yS y i)).length)), .ref (L 4 i)])) := by rw [hG_1]; exact gset_eq _ _ _ _
      have hs3 : StockG K z r L G_1 (ySetS (yAddS (yAddS y (x, sH (yS y i), sG (yS y i), nI i, 0, [])) (sW (yS y i) - (x + yF y), sH (yS y i), sG (yS y i), nI i, 0, [])) i (sState (yS y i) 1)) := by rw [hG_1]; exact hs2.setS (by omega) (P' := P_u_Gc_81) (fun _ => ⟨hsok.state (by decide), hpk_u_Gc_81⟩) (gset_eq _ _ _ _) ((gset_ne (by simp)).trans hpt_u_Gc_81) (fun t _ h3 _ => gset_ne h3)
      have ha3 : Ag r G G_1 := by rw [hG_1]; exact (ha1.tr ha2).st
      obtain ⟨P_u_G_1, hsl_u_G_1, hpt_u_G_1, hpk_u_G_1, hso_u_G_1⟩ := hs3.get (i := i) (u := (sState (yS y i) 1)) (by show i < ySc y + 1 + 1; omega) fU_eq
      obtain ⟨P_nr_G_1, hsl_nr_G_1, hpt_nr_G_1, hpk_nr_G_1, hso_nr_G_1⟩ := hs3.get (i := ySc y) (u := (x, sH (yS y i), sG (yS y i), nI i, 0, [])) (by show ySc y < ySc y + 1 + 1; omega) ((fU_ne (by omega)).trans ((fU_ne (by show ySc y ≠ ySc y + 1; omega)).trans fU_eq))
      refine lv_aload hx hb dX3_cutSlab_138 (lv_at hl 1 rfl) ?_
      refine lv_ifnull hx hb dX3_cutSlab_140 ?_
      refine lv_aload hx hb dX3_cutSlab_143 (lv_at hl 0 rfl) ?_
      refine lv_ifnull hx hb dX3_cutSlab_145 ?_
      refine lv_aload hx hb dX3_cutSlab_148 (lv_at hl 4 rfl) ?_
      refine lv_aload hx hb dX3_cutSlab_150 (lv_at hl 1 rfl) ?_
      refine lv_iconst (v := nI 0) hx hb dX3_cutSlab_152 (by decide) ?_
      refine lv_iconst (v := nI 0) hx hb dX3_cutSlab_153 (by decide) ?_
      refine g_callV (As := [.ref (L 3 (ySc y)), .int (nI 0), .int (nI 0)]) (rest := []) (b := (L 3 i)) (n := 3) S hE hI hA (c_X2_passFlaws l K _ (r, 3, i) (r, 4, i) (r, 3, ySc y) (r, 4, ySc y) (L 3 i) (L 3 (ySc y)) (sState (yS y i) 1) (x, sH (yS y i), sG (yS y i), nI i, 0, []) (L 4 i) (L 4 (ySc y)) P_u_G_1 P_nr_G_1 0 0 hsl_u_G_1 hpt_u_G_1 hsl_nr_G_1 hpt_nr_G_1 (by simp; omega) (by simp; omega) hpk_u_G_1 rfl ⟨by decide, by decide, by show x ≤ 24; omega, by show (sH (yS y i)) ≤ 24; omega⟩) gX3_cutSlab_X2_passFlaws rfl (by decide +kernel) ⟨Nat.le_of_ble_eq_true rfl, Nat.le_of_ble_eq_true rfl⟩ (g_hro hE hI hsl_u_G_1 rfl) rfl hl.1 rfl (Nat.le_of_ble_eq_true rfl) dX3_cutSlab_154 ⟨Nat.le_of_ble_eq_true rfl, Nat.le_of_ble_eq_true rfl⟩ (fun E ce q9 Gx H1 locs1 hx9 => hx9.elim) (fun rv Gc_154 H locs hp hI => ?_)
      obtain ⟨rfl, gN, hpN, hGc4⟩ := hp
      have hs4 : StockG K z r L Gc_154 (ySetS (ySetS (yAddS (yAddS y (x, sH (yS y i), sG (yS y i), nI i, 0, [])) (sW (yS y i) - (x + yF y), sH (yS y i), sG (yS y i), nI i, 0, [])) i (sState (yS y i) 1)) (ySc y) (cutN (yS y i) i true x)) := by rw [hGc4]; exact hs3.setS (by omega) (P' := gN) (fun _ => ⟨sOK.part (by omega) (by omega) s5 (Nat.le_trans (pass_len _ _ _ _ _) s7) (fun q hq => pass_in hq), hpN⟩) ((gset_ne (by simp)).trans (gset_eq _ _ _ _)) (gset_eq _ _ _ _) (fun t _ h3 h4 => (gset_ne h4).trans (gset_ne h3))
      have ha4 : Ag r G Gc_154 := by rw [hGc4]; exact ha3.st.st
      obtain ⟨P_u_Gc_154, hsl_u_Gc_154, hpt_u_Gc_154, hpk_u_Gc_154, hso_u_Gc_154⟩ := hs4.get (i := i) (u := (sState (yS y i) 1)) (by show i < ySc y + 1 + 1; omega) ((fU_ne (by omega)).trans fU_eq)
      obtain ⟨P_fr_Gc_154, hsl_fr_Gc_154, hpt_fr_Gc_154, hpk_fr_Gc_154, hso_fr_Gc_154⟩ := hs4.get (i := ySc y + 1) (u := (sW (yS y i) - (x + yF y), sH (yS y i), sG (yS y i), nI i, 0, [])) (by show ySc y + 1 < ySc y + 1 + 1; omega) ((fU_ne (by omega)).trans ((fU_ne (by omega)).trans fU_eq))
      refine W.eq (g2 := F0 m 157 ls []) rfl ?_
      refine lv_aload hx hb dX3_cutSlab_157 (lv_at hl 4 rfl) ?_
      refine lv_aload hx hb dX3_cutSlab_159 (lv_at hl 0 rfl) ?_
      refine lv_iload_n hx hb dX3_cutSlab_161 rfl (lv_at hl 7 rfl) ?_
      refine lv_if_eq (tgt := 170) hx hb dX3_cutSlab_162 (by decide) (fun c_162 => ?_) (fun c_162 => ?_)
      · skip
        have c_162 : true = false := bI_0.mp c_162
        exact absurd c_162 (by decide)
      · skip
        have c_162 : true = true := bI_1.mp c_162
        refine lv_iload hx hb dX3_cutSlab_165 (lv_at hl 2 rfl) ?_
        refine lv_goto (tgt := 171) hx hb dX3_cutSlab_167 (by decide) ?_
        refine lv_iload_n hx hb dX3_cutSlab_171 rfl (lv_at hl 7 rfl) ?_
        refine lv_if_eq (tgt := 179) hx hb dX3_cutSlab_172 (by decide) (fun c_172 => ?_) (fun c_172 => ?_)
        · skip
          have c_172 : true = false := bI_0.mp c_172
          exact absurd c_172 (by decide)
        · skip
          have c_172 : true = true := bI_1.mp c_172
          refine lv_iconst (v := nI 0) hx hb dX3_cutSlab_175 (by decide) ?_
          refine lv_goto (tgt := 181) hx hb dX3_cutSlab_176 (by decide) ?_
          refine g_callV (As := [.ref (L 3 (ySc y + 1)), .int (nI (x + (yF y))), .int (nI 0)]) (rest := []) (b := (L 3 i)) (n := 3) S hE hI hA (c_X2_passFlaws l K _ (r, 3, i) (r, 4, i) (r, 3, ySc y + 1) (r, 4, ySc y + 1) (L 3 i) (L 3 (ySc y + 1)) (sState (yS y i) 1) (sW (yS y i) - (x + yF y), sH (yS y i), sG (yS y i), nI i, 0, []) (L 4 i) (L 4 (ySc y + 1)) P_u_Gc_154 P_fr_Gc_154 (x + yF y) 0 hsl_u_Gc_154 hpt_u_Gc_154 hsl_fr_Gc_154 hpt_fr_Gc_154 (by simp; omega) (by simp; omega) hpk_u_Gc_154 rfl ⟨by omega, by omega, by show (sW (yS y i) - (x + yF y)) ≤ 24; omega, by show (sH (yS y i)) ≤ 24; omega⟩) gX3_cutSlab_X2_passFlaws rfl (by decide +kernel) ⟨Nat.le_of_ble_eq_true rfl, Nat.le_of_ble_eq_true rfl⟩ (g_hro hE hI hsl_u_Gc_154 rfl) rfl hl.1 rfl (Nat.le_of_ble_eq_true rfl) dX3_cutSlab_181 ⟨Nat.le_of_ble_eq_true rfl, Nat.le_of_ble_eq_true rfl⟩ (fun E ce q9 Gx H1 locs1 hx9 => hx9.elim) (fun rv Gc_181 H locs hp hI => ?_)
          obtain ⟨rfl, gF, hpF, hGc5⟩ := hp
          have hs5 : StockG K z r L Gc_181 (ySetS (ySetS (ySetS (yAddS (yAddS y (x, sH (yS y i), sG (yS y i), nI i, 0, [])) (sW (yS y i) - (x + yF y), sH (yS y i), sG (yS y i), nI i, 0, [])) i (sState (yS y i) 1)) (ySc y) (cutN (yS y i) i true x)) (ySc y + 1) (cutF (yS y i) i true (x + yF y))) := by rw [hGc5]; exact hs4.setS (by omega) (P' := gF) (fun _ => ⟨sOK.part (by omega) (by omega) s5 (Nat.le_trans (pass_len _ _ _ _ _) s7) (fun q hq => pass_in hq), hpF⟩) ((gset_ne (by simp)).trans (gset_eq _ _ _ _)) (gset_eq _ _ _ _) (fun t _ h3 h4 => (gset_ne h4).trans (gset_ne h3))
          have ha5 : Ag r G Gc_181 := by rw [hGc5]; exact ha4.st.st
          refine W.eq (g2 := F0 m 184 ls []) rfl ?_
          refine lv_iload hx hb dX3_cutSlab_184 (lv_at hl 3 rfl) ?_
          have hcc := yCut_yes (y := y) (i := i) (dn := true) (x := x) hcan
          have hs6 : StockG K z r L Gc_181 (yCut y i true x) := by rw [hcc]; exact hs5.cg rfl rfl rfl (fun j hj => cut_fn hi _ _ _ _ _ j) (fun j hj => rfl)
          exact g_iret S hI hr hlocks (Nat.zero_le _) (Nat.zero_le _) dX3_cutSlab_186 ⟨by rw [yCutR_yes hcan], hs6, ha5⟩
  · skip
    have c_20 : (canC (yLen (yS y i) true) (yF y) x) = false := bI_0.mp c_20
    refine lv_iload_n hx hb dX3_cutSlab_23 rfl (lv_at hl 2 rfl) ?_
    exact g_iret S hI hr hlocks (Nat.zero_le _) (Nat.zero_le _) dX3_cutSlab_24 ⟨by rw [yCutR_no c_20], by rw [yCut_no c_20]; exact hs, Ag.rf⟩
set_option maxHeartbeats 4000000 in
set_option maxRecDepth 100000 in
/-- Stock.cutSlab(number, false, place) -/
theorem c_cutA (l : Launch) (K : gK) (G : gW) (z : Bool) (r : Nat) (L : Nat → Nat → Nat) (y : YV) (i x : Nat) (hs : StockG K z r L G y) (hi : i < ySc y) (hx24 : x ≤ 24) (hroom : canC (yLen (yS y i) false) (yF y) x = true → ySc y ≤ 42) : gM l yX3_cutSlab wsX3_cutSlab 4 89 0 0 K [.ref (L 0 0), .int (nI i), .int (bI false), .int (nI x)] G (fun v G1 => v = some (.int (nI (yCutR y i false x))) ∧ StockG K z r L G1 (yCut y i false x) ∧ Ag r G G1) (gNo) := by
  refine gM.of (cc := cX3_cutSlab) (maxL := 9) (ret := (some .int)) (by decide) rfl (Nat.le_of_ble_eq_true rfl) ?_
  intro p e s m below meth c A S hr hlocks htab hname hE hA hI ls hl
  have hx := S.1
  have hb := S.2.1
  have hml := S.2.2.1
  have hl : lv_has ls 9 [(0, .ref (L 0 0)), (1, .int (nI i)), (2, .int (bI false)), (3, .int (nI x))] := hl
  have h44 := hs.1.2.2.2.1
  have h6 := hs.1.2.2.2.2.1
  have hf2 := hs.1.2.2.2.2.2
  obtain ⟨H, hHe⟩ : ∃ z, z = s.heap := ⟨_, rfl⟩
  obtain ⟨locs, hLe⟩ : ∃ z : List Loc, z = [] := ⟨_, rfl⟩
  rw [← hHe, ← hLe]
  have hI : gI K A s G H locs := by rw [hHe, hLe]; exact hI
  clear hHe hLe
  refine lv_aload_n hx hb dX3_cutSlab_0 rfl (lv_at hl 0 rfl) ?_
  refine lv_iload_n hx hb dX3_cutSlab_1 rfl (lv_at hl 1 rfl) ?_
  refine g_callV (As := [.int (nI i)]) (rest := []) (b := (L 0 0)) (n := 1) S hE hI hA (c_slabIn l K _ r L (ySc y) (yKc y) (yF y) i hs.1 hi) gX3_cutSlab_X3_slabOrNull rfl (by decide +kernel) ⟨Nat.le_of_ble_eq_true rfl, Nat.le_of_ble_eq_true rfl⟩ (g_hro hE hI hs.1.1 rfl) rfl hl.1 rfl (Nat.le_of_ble_eq_true rfl) dX3_cutSlab_2 ⟨Nat.le_of_ble_eq_true rfl, Nat.le_of_ble_eq_true rfl⟩ (fun E ce q9 Gx H1 locs1 hx9 => hx9.elim) (fun rv Gc_2 H locs hp hI => ?_)
  obtain ⟨rfl, hq9⟩ := hp
  rw [hq9] at hI
  obtain ⟨P, hsl, hpt, hpk, hsok⟩ := hs.slab hi
  have hsok9 := hsok
  obtain ⟨s1, s2, s3, s4, s5, s6, s7, s8⟩ := hsok9
  refine W.eq (g2 := F0 m 5 ls [.ref (L 3 i)]) rfl ?_
  refine lv_astore (lv' := [(4, .ref (L 3 i)), (0, .ref (L 0 0)), (1, .int (nI i)), (2, .int (bI false)), (3, .int (nI x))]) hx hb dX3_cutSlab_5 hl (by decide) rfl (fun ls hl => ?_)
  refine lv_aload hx hb dX3_cutSlab_7 (lv_at hl 0 rfl) ?_
  refine lv_ifnull hx hb dX3_cutSlab_9 ?_
  refine lv_aload_n hx hb dX3_cutSlab_12 rfl (lv_at hl 1 rfl) ?_
  refine lv_aload hx hb dX3_cutSlab_13 (lv_at hl 0 rfl) ?_
  refine lv_iload_n hx hb dX3_cutSlab_15 rfl (lv_at hl 3 rfl) ?_
  refine lv_iload_n hx hb dX3_cutSlab_16 rfl (lv_at hl 4 rfl) ?_
  refine g_callV (As := [.ref (L 3 i), .int (bI false), .int (nI x)]) (rest := []) (b := (L 0 0)) (n := 3) S hE hI hA (c_X3_canCut l K _ r L (ySc y) (yKc y) (yF y) (r, 3, i) (L 3 i) (yS y i) (L 4 i) false (nI x) hs.1 hsl ⟨⟨s1, s2⟩, s3, s4⟩) gX3_cutSlab_X3_canCut rfl (by decide +kernel) ⟨Nat.le_of_ble_eq_true rfl, Nat.le_of_ble_eq_true rfl⟩ (g_hro hE hI hs.1.1 rfl) rfl hl.1 rfl (Nat.le_of_ble_eq_true rfl) dX3_cutSlab_17 ⟨Nat.le_of_ble_eq_true rfl, Nat.le_of_ble_eq_true rfl⟩ (fun E ce q9 Gx H1 locs1 hx9 => hx9.elim) (fun rv Gc_17 H locs hp hI => ?_)
  obtain ⟨rfl, hq9⟩ := hp
  rw [hq9] at hI
  rw [canI_nI (by omega)]
  refine W.eq (g2 := F0 m 20 ls [.int (bI (canC (yLen (yS y i) false) (yF y) x))]) rfl ?_
  refine lv_if_ne (tgt := 25) hx hb dX3_cutSlab_20 (by decide) (fun c_20 => ?_) (fun c_20 => ?_)
  · skip
    have c_20 : (canC (yLen (yS y i) false) (yF y) x) = true := bI_1.mp c_20
    have hcan : canC (yLen (yS y i) false) (yF y) x = true := c_20
    have hcn := of_decide_eq_true hcan
    have hcn : 1 ≤ x ∧ x + yF y < sH (yS y i) := hcn
    have hsc9 := hroom hcan
    have hsc42 : ySc y < 44 := by omega
    have hsc43 : ySc y + 1 < 44 := by omega
    have hok1 : sOK (sW (yS y i), x, sG (yS y i), nI i, 0, []) := sOK.part (by omega) (by omega) s5 (by decide) (fun q hq => by cases hq)
    have hok2 : sOK (sW (yS y i), sH (yS y i) - (x + yF y), sG (yS y i), nI i, 0, []) := sOK.part (by omega) (by omega) s5 (by decide) (fun q hq => by cases hq)
    refine lv_aload_n hx hb dX3_cutSlab_25 rfl (lv_at hl 1 rfl) ?_
    refine g_get S hE hI (C := RX3) (T := TX3) (N := 5) (ref := "StonecutterYard$Stock") (fun w h => (List.mem_cons_of_mem _ (List.mem_append_left _ (List.mem_append_right _ h)))) hs.1.1 rfl 2 (by decide) (List.mem_cons_of_mem _ (List.mem_append_left _ (List.mem_append_left _ (List.mem_append_left _ (List.mem_of_getElem? (i := 0) rfl))))) (fun _ h9 => h9) (v := .int (nI (ySc y))) rfl dX3_cutSlab_26 ?_
    refine lv_istore (lv' := [(5, .int (nI (ySc y))), (4, .ref (L 3 i)), (0, .ref (L 0 0)), (1, .int (nI i)), (2, .int (bI false)), (3, .int (nI x))]) hx hb dX3_cutSlab_29 hl (by decide) rfl (fun ls hl => ?_)
    refine lv_iload_n hx hb dX3_cutSlab_31 rfl (lv_at hl 5 rfl) ?_
    refine lv_aload_n hx hb dX3_cutSlab_32 rfl (lv_at hl 2 rfl) ?_
    refine g_get S hE hI (C := RX3) (T := TX3) (N := 5) (ref := "StonecutterYard$Stock") (fun w h => (List.mem_cons_of_mem _ (List.mem_append_left _ (List.mem_append_right _ h)))) hs.1.1 rfl 4 (by decide) (List.mem_cons_of_mem _ (List.mem_append_left _ (List.mem_append_left _ (List.mem_append_left _ (List.mem_of_getElem? (i := 1) rfl))))) (fun _ h9 => h9) (v := .int (nI (yF y))) rfl dX3_cutSlab_33 ?_
    refine t_iadd hx hb dX3_cutSlab_36 (nI_add _ _) ?_
    refine lv_istore (lv' := [(6, .int (nI (x + (yF y)))), (5, .int (nI (ySc y))), (4, .ref (L 3 i)), (0, .ref (L 0 0)), (1, .int (nI i)), (2, .int (bI false)), (3, .int (nI x))]) hx hb dX3_cutSlab_37 hl (by decide) rfl (fun ls hl => ?_)
    refine lv_iload_n hx hb dX3_cutSlab_39 rfl (lv_at hl 5 rfl) ?_
    refine lv_if_eq (tgt := 89) hx hb dX3_cutSlab_40 (by decide) (fun c_40 => ?_) (fun c_40 => ?_)
    · skip
      have c_40 : false = false := bI_0.mp c_40
      refine lv_aload_n hx hb dX3_cutSlab_89 rfl (lv_at hl 3 rfl) ?_
      refine lv_aload hx hb dX3_cutSlab_90 (lv_at hl 2 rfl) ?_
      refine g_getN S hE hI (C := RX2) (T := TX2) (N := 7) (ref := "StonecutterYard$Slab") (host := "StonecutterYard") (fun w h => (List.mem_cons_of_mem _ (List.mem_append_right _ h))) hsl rfl 0 (by decide) (List.mem_of_getElem? (i := 22) rfl) (fun _ h9 => h9) (v := .int (nI (sW (yS y i)))) rfl dX3_cutSlab_92 ?_
      refine lv_iload_n hx hb dX3_cutSlab_95 rfl (lv_at hl 6 rfl) ?_
      refine lv_aload hx hb dX3_cutSlab_96 (lv_at hl 2 rfl) ?_
      refine g_getN S hE hI (C := RX2) (T := TX2) (N := 7) (ref := "StonecutterYard$Slab") (host := "StonecutterYard") (fun w h => (List.mem_cons_of_mem _ (List.mem_append_right _ h))) hsl rfl 2 (by decide) (List.mem_of_getElem? (i := 21) rfl) (fun _ h9 => h9) (v := .int (nI (sG (yS y i)))) rfl dX3_cutSlab_98 ?_
      refine lv_iload_n hx hb dX3_cutSlab_101 rfl (lv_at hl 4 rfl) ?_
      refine g_callV (As := [.int (nI (sW (yS y i))), .int (nI x), .int (nI (sG (yS y i))), .int (nI i)]) (rest := []) (b := (L 0 0)) (n := 4) S hE hI hA (c_X3_addSlab l K _ z r L y (sW (yS y i)) x (sG (yS y i)) (nI i) hs hsc42 hok1) gX3_cutSlab_X3_addSlab rfl (by decide +kernel) ⟨Nat.le_of_ble_eq_true rfl, Nat.le_of_ble_eq_true rfl⟩ (g_hro hE hI hs.1.1 rfl) rfl hl.1 rfl (Nat.le_of_ble_eq_true rfl) dX3_cutSlab_102 ⟨Nat.le_of_ble_eq_true rfl, Nat.le_of_ble_eq_true rfl⟩ (fun E ce q9 Gx H1 locs1 hx9 => hx9.elim) (fun rv Gc_102 H locs hp hI => ?_)
      obtain ⟨rfl, hs1, ha1⟩ := hp
      obtain ⟨P_u_Gc_102, hsl_u_Gc_102, hpt_u_Gc_102, hpk_u_Gc_102, hso_u_Gc_102⟩ := hs1.get (i := i) (u := (yS y i)) (by show i < ySc y + 1; omega) (fU_ne (by omega))
      refine W.eq (g2 := F0 m 105 ls [.ref (L 3 (ySc y))]) rfl ?_
      refine lv_astore (lv' := [(7, .ref (L 3 (ySc y))), (6, .int (nI (x + (yF y)))), (5, .int (nI (ySc y))), (4, .ref (L 3 i)), (0, .ref (L 0 0)), (1, .int (nI i)), (2, .int (bI false)), (3, .int (nI x))]) hx hb dX3_cutSlab_105 hl (by decide) rfl (fun ls hl => ?_)
      refine lv_aload_n hx hb dX3_cutSlab_107 rfl (lv_at hl 4 rfl) ?_
      refine lv_aload hx hb dX3_cutSlab_108 (lv_at hl 3 rfl) ?_
      refine g_getN S hE hI (C := RX2) (T := TX2) (N := 7) (ref := "StonecutterYard$Slab") (host := "StonecutterYard") (fun w h => (List.mem_cons_of_mem _ (List.mem_append_right _ h))) hsl_u_Gc_102 rfl 0 (by decide) (List.mem_of_getElem? (i := 22) rfl) (fun _ h9 => h9) (v := .int (nI (sW (yS y i)))) rfl dX3_cutSlab_110 ?_
      refine lv_aload hx hb dX3_cutSlab_113 (lv_at hl 3 rfl) ?_
      refine g_getN S hE hI (C := RX2) (T := TX2) (N := 7) (ref := "StonecutterYard$Slab") (host := "StonecutterYard") (fun w h => (List.mem_cons_of_mem _ (List.mem_append_right _ h))) hsl_u_Gc_102 rfl 1 (by decide) (List.mem_of_getElem? (i := 20) rfl) (fun _ h9 => h9) (v := .int (nI (sH (yS y i)))) rfl dX3_cutSlab_115 ?_
      refine lv_iload hx hb dX3_cutSlab_118 (lv_at hl 1 rfl) ?_
      refine t_isub hx hb dX3_cutSlab_120 (v := nI (sH (yS y i) - (x + yF y))) (pk_sub (by omega)) ?_
      refine lv_aload hx hb dX3_cutSlab_121 (lv_at hl 3 rfl) ?_
      refine g_getN S hE hI (C := RX2) (T := TX2) (N := 7) (ref := "StonecutterYard$Slab") (host := "StonecutterYard") (fun w h => (List.mem_cons_of_mem _ (List.mem_append_right _ h))) hsl_u_Gc_102 rfl 2 (by decide) (List.mem_of_getElem? (i := 21) rfl) (fun _ h9 => h9) (v := .int (nI (sG (yS y i)))) rfl dX3_cutSlab_123 ?_
      refine lv_iload_n hx hb dX3_cutSlab_126 rfl (lv_at hl 5 rfl) ?_
      refine g_callV (As := [.int (nI (sW (yS y i))), .int (nI (sH (yS y i) - (x + yF y))), .int (nI (sG (yS y i))), .int (nI i)]) (rest := []) (b := (L 0 0)) (n := 4) S hE hI hA (c_X3_addSlab l K _ z r L (yAddS y (sW (yS y i), x, sG (yS y i), nI i, 0, [])) (sW (yS y i)) (sH (yS y i) - (x + yF y)) (sG (yS y i)) (nI i) hs1 hsc43 hok2) gX3_cutSlab_X3_addSlab rfl (by decide +kernel) ⟨Nat.le_of_ble_eq_true rfl, Nat.le_of_ble_eq_true rfl⟩ (g_hro hE hI hs1.1.1 rfl) rfl hl.1 rfl (Nat.le_of_ble_eq_true rfl) dX3_cutSlab_127 ⟨Nat.le_of_ble_eq_true rfl, Nat.le_of_ble_eq_true rfl⟩ (fun E ce q9 Gx H1 locs1 hx9 => hx9.elim) (fun rv Gc_127 H locs hp hI => ?_)
      obtain ⟨rfl, hs2, ha2⟩ := hp
      obtain ⟨P_u_Gc_127, hsl_u_Gc_127, hpt_u_Gc_127, hpk_u_Gc_127, hso_u_Gc_127⟩ := hs2.get (i := i) (u := (yS y i)) (by show i < ySc y + 1 + 1; omega) ((fU_ne (by show i ≠ ySc y + 1; omega)).trans (fU_ne (by omega)))
      refine W.eq (g2 := F0 m 130 ls [.ref (L 3 (ySc y + 1))]) rfl ?_
      refine lv_astore (lv' := [(8, .ref (L 3 (ySc y + 1))), (7, .ref (L 3 (ySc y))), (6, .int (nI (x + (yF y)))), (5, .int (nI (ySc y))), (4, .ref (L 3 i)), (0, .ref (L 0 0)), (1, .int (nI i)), (2, .int (bI false)), (3, .int (nI x))]) hx hb dX3_cutSlab_130 hl (by decide) rfl (fun ls hl => ?_)
      refine lv_aload hx hb dX3_cutSlab_132 (lv_at hl 4 rfl) ?_
      refine lv_iconst (v := nI 1) hx hb dX3_cutSlab_134 (by decide) ?_
      refine g_putN S hE hI (C := RX2) (T := TX2) (N := 7) (ref := "StonecutterYard$Slab") (host := "StonecutterYard") (fun w h => (List.mem_cons_of_mem _ (List.mem_append_right _ h))) tyX2 tyX2_ok nmX2 hsl_u_Gc_127 rfl 4 (by decide) (List.mem_of_getElem? (i := 23) rfl) (fun _ h9 => h9) rfl rfl rfl (Nat.le_of_ble_eq_true rfl) dX3_cutSlab_135 (fun H locs hI => ?_)
      have hI : gI K A s (gset Gc_127 (r, 3, i) (L 3 i) (.inr (3, [.int (nI (sW (yS y i))), .int (nI (sH (yS y i))), .int (nI (sG (yS y i))), .int (sF (yS y i)), .int (nI 1), .int (nI ((sL (yS y i)).length)), .ref (L 4 i)]))) H locs := hI
      obtain ⟨G_1, hG_1⟩ : ∃ z, z = gset Gc_127 (r, 3, i) (L 3 i) (.inr (3, [.int (nI (sW (yS y i))), .int (nI (sH (yS y i))), .int (nI (sG (yS y i))), .int (sF (yS y i)), .int (nI 1), .int (nI ((sL (yS y i)).length)), .ref (L 4 i)])) := ⟨_, rfl⟩
      rw [← hG_1] at hI
      have st_G_1 : G_1 (r, 0, 0) = some ((L 0 0), .inr (4, [.ref (L 1 0), .ref (L 2 0), .int (nI (ySc (yAddS (yAddS y (sW (yS y i), x, sG (yS y i), nI i, 0, [])) (sW (yS y i), sH (yS y i) - (x + yF y), sG (yS y i), nI i, 0, [])))), .int (nI (yKc (yAddS (yAddS y (sW (yS y i), x, sG (yS y i), nI i, 0, [])) (sW (yS y i), sH (yS y i) - (x + yF y), sG (yS y i), nI i, 0, [])))), .int (nI (yF (yAddS (yAddS y (sW (yS y i), x, sG (yS y i), nI i, 0, [])) (sW (yS y i), sH (yS y i) - (x + yF y), sG (yS y i), nI i, 0, []))))])) := by rw [hG_1, gset_ne (g_tne hs2.1.1 hsl_u_Gc_127 (by simp))]; exact hs2.1.1
      have aS_G_1 : G_1 (r, 1, 0) = some ((L 1 0), cR (K.2.1 2) 44 (fRef 44 (L 3))) := by rw [hG_1, gset_ne (g_tne hs2.1.2.1 hsl_u_Gc_127 (by simp))]; exact hs2.1.2.1
      have aK_G_1 : G_1 (r, 2, 0) = some ((L 2 0), cR (K.2.1 3) 6 (fRef 6 (L 5))) := by rw [hG_1, gset_ne (g_tne hs2.1.2.2.1 hsl_u_Gc_127 (by simp))]; exact hs2.1.2.2.1
      have up_G_1 : G_1 (r, 4, i) = some ((L 4 i), cI K 6 P_u_Gc_127) := by rw [hG_1, gset_ne (g_tne hpt_u_Gc_127 hsl_u_Gc_127 (by simp))]; exact hpt_u_Gc_127
      have u_G_1 : G_1 (r, 3, i) = some ((L 3 i), .inr (3, [.int (nI (sW (yS y i))), .int (nI (sH (yS y i))), .int (nI (sG (yS y i))), .int (sF (yS y i)), .int (nI 1), .int (nI ((sL (yS y i)).length)), .ref (L 4 i)])) := by rw [hG_1]; exact gset_eq _ _ _ _
      have hs3 : StockG K z r L G_1 (ySetS (yAddS (yAddS y (sW (yS y i), x, sG (yS y i), nI i, 0, [])) (sW (yS y i), sH (yS y i) - (x + yF y), sG (yS y i), nI i, 0, [])) i (sState (yS y i) 1)) := by rw [hG_1]; exact hs2.setS (by omega) (P' := P_u_Gc_127) (fun _ => ⟨hsok.state (by decide), hpk_u_Gc_127⟩) (gset_eq _ _ _ _) ((gset_ne (by simp)).trans hpt_u_Gc_127) (fun t _ h3 _ => gset_ne h3)
      have ha3 : Ag r G G_1 := by rw [hG_1]; exact (ha1.tr ha2).st
      obtain ⟨P_u_G_1, hsl_u_G_1, hpt_u_G_1, hpk_u_G_1, hso_u_G_1⟩ := hs3.get (i := i) (u := (sState (yS y i) 1)) (by show i < ySc y + 1 + 1; omega) fU_eq
      obtain ⟨P_nr_G_1, hsl_nr_G_1, hpt_nr_G_1, hpk_nr_G_1, hso_nr_G_1⟩ := hs3.get (i := ySc y) (u := (sW (yS y i), x, sG (yS y i), nI i, 0, [])) (by show ySc y < ySc y + 1 + 1; omega) ((fU_ne (by omega)).trans ((fU_ne (by show ySc y ≠ ySc y + 1; omega)).trans fU_eq))
      refine lv_aload hx hb dX3_cutSlab_138 (lv_at hl 1 rfl) ?_
      refine lv_ifnull hx hb dX3_cutSlab_140 ?_
      refine lv_aload hx hb dX3_cutSlab_143 (lv_at hl 0 rfl) ?_
      refine lv_ifnull hx hb dX3_cutSlab_145 ?_
      refine lv_aload hx hb dX3_cutSlab_148 (lv_at hl 4 rfl) ?_
      refine lv_aload hx hb dX3_cutSlab_150 (lv_at hl 1 rfl) ?_
      refine lv_iconst (v := nI 0) hx hb dX3_cutSlab_152 (by decide) ?_
      refine lv_iconst (v := nI 0) hx hb dX3_cutSlab_153 (by decide) ?_
      refine g_callV (As := [.ref (L 3 (ySc y)), .int (nI 0), .int (nI 0)]) (rest := []) (b := (L 3 i)) (n := 3) S hE hI hA (c_X2_passFlaws l K _ (r, 3, i) (r, 4, i) (r, 3, ySc y) (r, 4, ySc y) (L 3 i) (L 3 (ySc y)) (sState (yS y i) 1) (sW (yS y i), x, sG (yS y i), nI i, 0, []) (L 4 i) (L 4 (ySc y)) P_u_G_1 P_nr_G_1 0 0 hsl_u_G_1 hpt_u_G_1 hsl_nr_G_1 hpt_nr_G_1 (by simp; omega) (by simp; omega) hpk_u_G_1 rfl ⟨by decide, by decide, by show (sW (yS y i)) ≤ 24; omega, by show x ≤ 24; omega⟩) gX3_cutSlab_X2_passFlaws rfl (by decide +kernel) ⟨Nat.le_of_ble_eq_true rfl, Nat.le_of_ble_eq_true rfl⟩ (g_hro hE hI hsl_u_G_1 rfl) rfl hl.1 rfl (Nat.le_of_ble_eq_true rfl) dX3_cutSlab_154 ⟨Nat.le_of_ble_eq_true rfl, Nat.le_of_ble_eq_true rfl⟩ (fun E ce q9 Gx H1 locs1 hx9 => hx9.elim) (fun rv Gc_154 H locs hp hI => ?_)
      obtain ⟨rfl, gN, hpN, hGc4⟩ := hp
      have hs4 : StockG K z r L Gc_154 (ySetS (ySetS (yAddS (yAddS y (sW (yS y i), x, sG (yS y i), nI i, 0, [])) (sW (yS y i), sH (yS y i) - (x + yF y), sG (yS y i), nI i, 0, [])) i (sState (yS y i) 1)) (ySc y) (cutN (yS y i) i false x)) := by rw [hGc4]; exact hs3.setS (by omega) (P' := gN) (fun _ => ⟨sOK.part (by omega) (by omega) s5 (Nat.le_trans (pass_len _ _ _ _ _) s7) (fun q hq => pass_in hq), hpN⟩) ((gset_ne (by simp)).trans (gset_eq _ _ _ _)) (gset_eq _ _ _ _) (fun t _ h3 h4 => (gset_ne h4).trans (gset_ne h3))
      have ha4 : Ag r G Gc_154 := by rw [hGc4]; exact ha3.st.st
      obtain ⟨P_u_Gc_154, hsl_u_Gc_154, hpt_u_Gc_154, hpk_u_Gc_154, hso_u_Gc_154⟩ := hs4.get (i := i) (u := (sState (yS y i) 1)) (by show i < ySc y + 1 + 1; omega) ((fU_ne (by omega)).trans fU_eq)
      obtain ⟨P_fr_Gc_154, hsl_fr_Gc_154, hpt_fr_Gc_154, hpk_fr_Gc_154, hso_fr_Gc_154⟩ := hs4.get (i := ySc y + 1) (u := (sW (yS y i), sH (yS y i) - (x + yF y), sG (yS y i), nI i, 0, [])) (by show ySc y + 1 < ySc y + 1 + 1; omega) ((fU_ne (by omega)).trans ((fU_ne (by omega)).trans fU_eq))
      refine W.eq (g2 := F0 m 157 ls []) rfl ?_
      refine lv_aload hx hb dX3_cutSlab_157 (lv_at hl 4 rfl) ?_
      refine lv_aload hx hb dX3_cutSlab_159 (lv_at hl 0 rfl) ?_
      refine lv_iload_n hx hb dX3_cutSlab_161 rfl (lv_at hl 7 rfl) ?_
      refine lv_if_eq (tgt := 170) hx hb dX3_cutSlab_162 (by decide) (fun c_162 => ?_) (fun c_162 => ?_)
      · skip
        have c_162 : false = false := bI_0.mp c_162
        refine lv_iconst (v := nI 0) hx hb dX3_cutSlab_170 (by decide) ?_
        refine lv_iload_n hx hb dX3_cutSlab_171 rfl (lv_at hl 7 rfl) ?_
        refine lv_if_eq (tgt := 179) hx hb dX3_cutSlab_172 (by decide) (fun c_172 => ?_) (fun c_172 => ?_)
        · skip
          have c_172 : false = false := bI_0.mp c_172
          refine lv_iload hx hb dX3_cutSlab_179 (lv_at hl 2 rfl) ?_
          refine g_callV (As := [.ref (L 3 (ySc y + 1)), .int (nI 0), .int (nI (x + (yF y)))]) (rest := []) (b := (L 3 i)) (n := 3) S hE hI hA (c_X2_passFlaws l K _ (r, 3, i) (r, 4, i) (r, 3, ySc y + 1) (r, 4, ySc y + 1) (L 3 i) (L 3 (ySc y + 1)) (sState (yS y i) 1) (sW (yS y i), sH (yS y i) - (x + yF y), sG (yS y i), nI i, 0, []) (L 4 i) (L 4 (ySc y + 1)) P_u_Gc_154 P_fr_Gc_154 0 (x + yF y) hsl_u_Gc_154 hpt_u_Gc_154 hsl_fr_Gc_154 hpt_fr_Gc_154 (by simp; omega) (by simp; omega) hpk_u_Gc_154 rfl ⟨by omega, by omega, by show (sW (yS y i)) ≤ 24; omega, by show (sH (yS y i) - (x + yF y)) ≤ 24; omega⟩) gX3_cutSlab_X2_passFlaws rfl (by decide +kernel) ⟨Nat.le_of_ble_eq_true rfl, Nat.le_of_ble_eq_true rfl⟩ (g_hro hE hI hsl_u_Gc_154 rfl) rfl hl.1 rfl (Nat.le_of_ble_eq_true rfl) dX3_cutSlab_181 ⟨Nat.le_of_ble_eq_true rfl, Nat.le_of_ble_eq_true rfl⟩ (fun E ce q9 Gx H1 locs1 hx9 => hx9.elim) (fun rv Gc_181 H locs hp hI => ?_)
          obtain ⟨rfl, gF, hpF, hGc5⟩ := hp
          have hs5 : StockG K z r L Gc_181 (ySetS (ySetS (ySetS (yAddS (yAddS y (sW (yS y i), x, sG (yS y i), nI i, 0, [])) (sW (yS y i), sH (yS y i) - (x + yF y), sG (yS y i), nI i, 0, [])) i (sState (yS y i) 1)) (ySc y) (cutN (yS y i) i false x)) (ySc y + 1) (cutF (yS y i) i false (x + yF y))) := by rw [hGc5]; exact hs4.setS (by omega) (P' := gF) (fun _ => ⟨sOK.part (by omega) (by omega) s5 (Nat.le_trans (pass_len _ _ _ _ _) s7) (fun q hq => pass_in hq), hpF⟩) ((gset_ne (by simp)).trans (gset_eq _ _ _ _)) (gset_eq _ _ _ _) (fun t _ h3 h4 => (gset_ne h4).trans (gset_ne h3))
          have ha5 : Ag r G Gc_181 := by rw [hGc5]; exact ha4.st.st
          refine W.eq (g2 := F0 m 184 ls []) rfl ?_
          refine lv_iload hx hb dX3_cutSlab_184 (lv_at hl 3 rfl) ?_
          have hcc := yCut_yes (y := y) (i := i) (dn := false) (x := x) hcan
          have hs6 : StockG K z r L Gc_181 (yCut y i false x) := by rw [hcc]; exact hs5.cg rfl rfl rfl (fun j hj => cut_fn hi _ _ _ _ _ j) (fun j hj => rfl)
          exact g_iret S hI hr hlocks (Nat.zero_le _) (Nat.zero_le _) dX3_cutSlab_186 ⟨by rw [yCutR_yes hcan], hs6, ha5⟩
        · skip
          have c_172 : false = true := bI_1.mp c_172
          exact absurd c_172 (by decide)
      · skip
        have c_162 : false = true := bI_1.mp c_162
        exact absurd c_162 (by decide)
    · skip
      have c_40 : false = true := bI_1.mp c_40
      exact absurd c_40 (by decide)
  · skip
    have c_20 : (canC (yLen (yS y i) false) (yF y) x) = false := bI_0.mp c_20
    refine lv_iload_n hx hb dX3_cutSlab_23 rfl (lv_at hl 2 rfl) ?_
    exact g_iret S hI hr hlocks (Nat.zero_le _) (Nat.zero_le _) dX3_cutSlab_24 ⟨by rw [yCutR_no c_20], by rw [yCut_no c_20]; exact hs, Ag.rf⟩
