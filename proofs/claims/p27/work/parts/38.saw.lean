/-! the Saw: five cells of region q -/
abbrev cW (a b c d kf : Nat) : va_E := .inr (2, [.ref a, .ref b, .ref c, .ref d, .int (nI kf)])
def SawG (K : gK) (q : Nat) (M : Nat → Nat) (G : gW) (W C T N : Nat → Int32) (kf : Nat) : Prop :=
  G (q, 10, 0) = some (M 0, cW (M 1) (M 2) (M 3) (M 4) kf) ∧ G (q, 10, 1) = some (M 1, cI K 625 W) ∧ G (q, 10, 2) = some (M 2, cI K 625 C) ∧ G (q, 10, 3) = some (M 3, cI K 625 T) ∧ G (q, 10, 4) = some (M 4, cI K 625 N)
theorem SawG.moved {K : gK} {q : Nat} {M : Nat → Nat} {G G' : gW} {W C T N : Nat → Int32} {kf : Nat} (h : SawG K q M G W C T N kf) (hg : ∀ t : gTag, t.1 = q → G' t = G t) : SawG K q M G' W C T N kf :=
  ⟨(hg _ rfl).trans h.1, (hg _ rfl).trans h.2.1, (hg _ rfl).trans h.2.2.1, (hg _ rfl).trans h.2.2.2.1, (hg _ rfl).trans h.2.2.2.2⟩
theorem cut_gt {w kf p : Nat} (hw : w ≤ 24) (hk : kf ≤ 2) (hp : p ≤ 30) : nI w - nI kf - nI p < nI p ↔ w < kf + p + p := by
  have e1 : (nI w - nI kf).toInt = w - kf := by
    rw [Int32.toInt_sub, nI_toInt (by omega), nI_toInt (by omega)]
    exact Int.bmod_eq_of_le (by omega) (by omega)
  have e2 : (nI w - nI kf - nI p).toInt = w - kf - p := by
    rw [Int32.toInt_sub, e1, nI_toInt (by omega)]
    exact Int.bmod_eq_of_le (by omega) (by omega)
  rw [Int32.lt_iff_toInt_lt, e2, nI_toInt (by omega)]
  omega
theorem half_nI : ∀ w, w < 25 → 1 ≤ w → ∀ kf, kf < 3 → (nI w - nI kf) / nI 2 = nI ((w - kf) / 2) := by decide +kernel
theorem pickV_b {W : Nat → Nat → Nat} {kf w h p0 B : Nat} (hp : p0 ≤ B) (hW : ∀ a b, 1 ≤ a → 1 ≤ b → a ≤ w → b ≤ h → W a b ≤ B) (hh : 1 ≤ h) : ∀ {n : Nat}, n ≤ half w kf → (pickV W kf w h p0 n).1 ≤ B + B
  | 0, _ => Nat.le_trans hp (Nat.le_add_right _ _)
  | n + 1, hn => by
    have hn9 : n + 1 ≤ (w - kf) / 2 := hn
    rw [pickV]
    split
    · exact Nat.add_le_add (hW _ _ (by omega) hh (by omega) (Nat.le_refl _)) (hW _ _ (by omega) hh (by omega) (Nat.le_refl _))
    · exact pickV_b hp hW hh (Nat.le_of_succ_le hn)
theorem pickH_b {W : Nat → Nat → Nat} {kf w h B : Nat} {q0 : Nat × cutT} (hp : q0.1 ≤ B + B) (hW : ∀ a b, 1 ≤ a → 1 ≤ b → a ≤ w → b ≤ h → W a b ≤ B) (hh : 1 ≤ w) : ∀ {n : Nat}, n ≤ half h kf → (pickH W kf w h q0 n).1 ≤ B + B
  | 0, _ => hp
  | n + 1, hn => by
    have hn9 : n + 1 ≤ (h - kf) / 2 := hn
    rw [pickH]
    split
    · exact Nat.add_le_add (hW _ _ hh (by omega) (Nat.le_refl _) (by omega)) (hW _ _ hh (by omega) (Nat.le_refl _) (by omega))
    · exact pickH_b hp hW hh (Nat.le_of_succ_le hn)
/-- a table holds a function over the pieces -/
abbrev tb (f : Nat → Int32) (w h : Nat) : Int32 := f (w * 25 + h)
theorem tb_upd {f : Nat → Int32} {w h a b : Nat} {x : Int32} (hb : b ≤ 24) (hh : h ≤ 24) (hn : ¬ (a = w ∧ b = h)) : tb (upd f (w * 25 + h) x) a b = tb f a b := pk_un (by omega)
theorem tb_eq {f : Nat → Int32} {w h : Nat} {x : Int32} : tb (upd f (w * 25 + h) x) w h = x := pk_us
theorem cE_none {k : cutT} (h : k = none ∨ (∃ n, n < 1000 ∧ k = some (true, n)) ∨ ∃ n, n < 1000 ∧ k = some (false, n)) : cE k = -1 ↔ k = none := by
  rcases h with rfl | ⟨n, hn, rfl⟩ | ⟨n, hn, rfl⟩
  · exact ⟨fun _ => rfl, fun _ => rfl⟩
  · exact ⟨fun z => absurd z (nI_m1 (by omega)), fun z => by cases z⟩
  · exact ⟨fun z => absurd z (nI_m1 (by omega)), fun z => by cases z⟩
set_option maxHeartbeats 4000000 in
set_option maxRecDepth 100000 in
/-- Saw.read(table, wide, high) -/
theorem c_X1_read (l : Launch) (K : gK) (G : gW) (t : gTag) (a : Nat) (f : Nat → Int32) (w h : Nat) (hg : G t = some (a, cI K 625 f)) (hwh : w ≤ 24 ∧ h ≤ 24) : gM l yX1_read wsX1_read 2 40 0 0 K [.ref a, .int (nI w), .int (nI h)] G (fun v G1 => v = some (.int (tb f w h)) ∧ G1 = G) (gNo) := by
  refine gM.of (cc := cX1_read) (maxL := 4) (ret := (some .int)) (by decide) rfl (Nat.le_of_ble_eq_true rfl) ?_
  intro p e s m below meth c A S hr hlocks htab hname hE hA hI ls hl
  have hx := S.1
  have hb := S.2.1
  have hml := S.2.2.1
  have hl : lv_has ls 4 [(0, .ref a), (1, .int (nI w)), (2, .int (nI h))] := hl
  obtain ⟨H, hHe⟩ : ∃ z, z = s.heap := ⟨_, rfl⟩
  obtain ⟨locs, hLe⟩ : ∃ z : List Loc, z = [] := ⟨_, rfl⟩
  rw [← hHe, ← hLe]
  have hI : gI K A s G H locs := by rw [hHe, hLe]; exact hI
  clear hHe hLe
  refine lv_iload_n hx hb dX1_read_0 rfl (lv_at hl 1 rfl) ?_
  refine lv_bipush (v := nI 25) hx hb dX1_read_1 (by decide) ?_
  refine t_imul hx hb dX1_read_3 (pk_mul _ _) ?_
  refine lv_iload_n hx hb dX1_read_4 rfl (lv_at hl 2 rfl) ?_
  refine t_iadd hx hb dX1_read_5 (nI_add _ _) ?_
  refine lv_istore_n (lv' := [(3, .int (nI ((w * 25) + h))), (0, .ref a), (1, .int (nI w)), (2, .int (nI h))]) hx hb dX1_read_6 rfl hl (by decide) rfl (fun ls hl => ?_)
  refine lv_iload_n hx hb dX1_read_7 rfl (lv_at hl 0 rfl) ?_
  refine lv_if_lt (tgt := 23) hx hb dX1_read_8 (by decide) (fun c_8 => ?_) (fun c_8 => ?_)
  · skip
    have c_8 : ((w * 25) + h) < 0 := (nI_ltI (a := ((w * 25) + h)) (b := 0) (by omega) (by omega)).mp c_8
    exact absurd c_8 (by omega)
  · skip
    have c_8 : 0 ≤ ((w * 25) + h) := Nat.not_lt.mp (fun z => c_8 ((nI_ltI (a := ((w * 25) + h)) (b := 0) (by omega) (by omega)).mpr z))
    refine lv_iload_n hx hb dX1_read_11 rfl (lv_at hl 0 rfl) ?_
    refine lv_aload_n hx hb dX1_read_12 rfl (lv_at hl 1 rfl) ?_
    refine g_alen S hE hI (k := 0) hg rfl (v := nI 625) rfl dX1_read_13 ?_
    refine lv_icmp_ge (tgt := 23) hx hb dX1_read_14 (by decide) (fun c_14 => ?_) (fun c_14 => ?_)
    · skip
      have c_14 : 625 ≤ ((w * 25) + h) := (nI_leI (a := 625) (b := ((w * 25) + h)) (by omega) (by omega)).mp c_14
      exact absurd c_14 (by omega)
    · skip
      have c_14 : ((w * 25) + h) < 625 := Nat.not_le.mp (fun z => c_14 ((nI_leI (a := 625) (b := ((w * 25) + h)) (by omega) (by omega)).mpr z))
      refine lv_aload_n hx hb dX1_read_17 rfl (lv_at hl 1 rfl) ?_
      refine lv_iload_n hx hb dX1_read_18 rfl (lv_at hl 0 rfl) ?_
      refine g_iald S hE hI (j := (w * 25) + h) (f := f) hg rfl (by omega) (by decide) dX1_read_19 ?_
      refine lv_goto (tgt := 24) hx hb dX1_read_20 (by decide) ?_
      exact g_iret S hI hr hlocks (Nat.zero_le _) (Nat.zero_le _) dX1_read_24 ⟨rfl, rfl⟩
set_option maxHeartbeats 4000000 in
set_option maxRecDepth 100000 in
/-- Saw.write(table, wide, high, value) -/
theorem c_X1_write (l : Launch) (K : gK) (G : gW) (t : gTag) (a : Nat) (f : Nat → Int32) (w h : Nat) (x : Int32) (hg : G t = some (a, cI K 625 f)) (hwh : w ≤ 24 ∧ h ≤ 24) : gM l yX1_write wsX1_write 2 40 0 0 K [.ref a, .int (nI w), .int (nI h), .int x] G (fun v G1 => v = none ∧ G1 = gset G t a (cI K 625 (upd f (w * 25 + h) x))) (gNo) := by
  refine gM.of (cc := cX1_write) (maxL := 5) (ret := none) (by decide) rfl (Nat.le_of_ble_eq_true rfl) ?_
  intro p e s m below meth c A S hr hlocks htab hname hE hA hI ls hl
  have hx := S.1
  have hb := S.2.1
  have hml := S.2.2.1
  have hl : lv_has ls 5 [(0, .ref a), (1, .int (nI w)), (2, .int (nI h)), (3, .int x)] := hl
  obtain ⟨H, hHe⟩ : ∃ z, z = s.heap := ⟨_, rfl⟩
  obtain ⟨locs, hLe⟩ : ∃ z : List Loc, z = [] := ⟨_, rfl⟩
  rw [← hHe, ← hLe]
  have hI : gI K A s G H locs := by rw [hHe, hLe]; exact hI
  clear hHe hLe
  refine lv_iload_n hx hb dX1_write_0 rfl (lv_at hl 1 rfl) ?_
  refine lv_bipush (v := nI 25) hx hb dX1_write_1 (by decide) ?_
  refine t_imul hx hb dX1_write_3 (pk_mul _ _) ?_
  refine lv_iload_n hx hb dX1_write_4 rfl (lv_at hl 2 rfl) ?_
  refine t_iadd hx hb dX1_write_5 (nI_add _ _) ?_
  refine lv_istore (lv' := [(4, .int (nI ((w * 25) + h))), (0, .ref a), (1, .int (nI w)), (2, .int (nI h)), (3, .int x)]) hx hb dX1_write_6 hl (by decide) rfl (fun ls hl => ?_)
  refine lv_iload hx hb dX1_write_8 (lv_at hl 0 rfl) ?_
  refine lv_if_lt (tgt := 25) hx hb dX1_write_10 (by decide) (fun c_10 => ?_) (fun c_10 => ?_)
  · skip
    have c_10 : ((w * 25) + h) < 0 := (nI_ltI (a := ((w * 25) + h)) (b := 0) (by omega) (by omega)).mp c_10
    exact absurd c_10 (by omega)
  · skip
    have c_10 : 0 ≤ ((w * 25) + h) := Nat.not_lt.mp (fun z => c_10 ((nI_ltI (a := ((w * 25) + h)) (b := 0) (by omega) (by omega)).mpr z))
    refine lv_iload hx hb dX1_write_13 (lv_at hl 0 rfl) ?_
    refine lv_aload_n hx hb dX1_write_15 rfl (lv_at hl 1 rfl) ?_
    refine g_alen S hE hI (k := 0) hg rfl (v := nI 625) rfl dX1_write_16 ?_
    refine lv_icmp_ge (tgt := 25) hx hb dX1_write_17 (by decide) (fun c_17 => ?_) (fun c_17 => ?_)
    · skip
      have c_17 : 625 ≤ ((w * 25) + h) := (nI_leI (a := 625) (b := ((w * 25) + h)) (by omega) (by omega)).mp c_17
      exact absurd c_17 (by omega)
    · skip
      have c_17 : ((w * 25) + h) < 625 := Nat.not_le.mp (fun z => c_17 ((nI_leI (a := 625) (b := ((w * 25) + h)) (by omega) (by omega)).mpr z))
      refine lv_aload_n hx hb dX1_write_20 rfl (lv_at hl 1 rfl) ?_
      refine lv_iload hx hb dX1_write_21 (lv_at hl 0 rfl) ?_
      refine lv_iload_n hx hb dX1_write_23 rfl (lv_at hl 4 rfl) ?_
      refine g_iast S hE hI (j := (w * 25) + h) (f := f) hg rfl (by omega) (Nat.le_of_ble_eq_true rfl) dX1_write_24 (fun H locs hI => ?_)
      have hI : gI K A s (gset G t a (.inl (K.2.1 0, 625, .inl (upd f ((w * 25) + h) x)))) H locs := hI
      obtain ⟨G_1, hG_1⟩ : ∃ z, z = gset G t a (.inl (K.2.1 0, 625, .inl (upd f ((w * 25) + h) x))) := ⟨_, rfl⟩
      rw [← hG_1] at hI
      have o_G_1 : G_1 t = some (a, .inl (K.2.1 0, 625, .inl (upd f ((w * 25) + h) x))) := by rw [hG_1]; exact gset_eq _ _ _ _
      exact g_vret S hI hr hlocks (Nat.zero_le _) (Nat.zero_le _) dX1_write_25 ⟨rfl, by rw [hG_1]⟩
set_option maxHeartbeats 4000000 in
set_option maxRecDepth 100000 in
/-- Saw.worthOf(wide, high) -/
theorem c_X1_worthOf (l : Launch) (K : gK) (G : gW) (q : Nat) (M : Nat → Nat) (vW vC vT vN : Nat → Int32) (kf : Nat) (w h : Nat) (hw : SawG K q M G vW vC vT vN kf) (hwh : w ≤ 24 ∧ h ≤ 24) : gM l yX1_worthOf wsX1_worthOf 3 63 0 0 K [.ref (M 0), .int (nI w), .int (nI h)] G (fun v G1 => v = some (.int (tb vW w h)) ∧ G1 = G) (gNo) := by
  refine gM.of (cc := cX1_worthOf) (maxL := 3) (ret := (some .int)) (by decide) rfl (Nat.le_of_ble_eq_true rfl) ?_
  intro p e s m below meth c A S hr hlocks htab hname hE hA hI ls hl
  have hx := S.1
  have hb := S.2.1
  have hml := S.2.2.1
  have hl : lv_has ls 3 [(0, .ref (M 0)), (1, .int (nI w)), (2, .int (nI h))] := hl
  obtain ⟨H, hHe⟩ : ∃ z, z = s.heap := ⟨_, rfl⟩
  obtain ⟨locs, hLe⟩ : ∃ z : List Loc, z = [] := ⟨_, rfl⟩
  rw [← hHe, ← hLe]
  have hI : gI K A s G H locs := by rw [hHe, hLe]; exact hI
  clear hHe hLe
  refine lv_aload_n hx hb dX1_worthOf_0 rfl (lv_at hl 0 rfl) ?_
  refine g_get S hE hI (C := RX1) (T := TX1) (N := 5) (ref := "StonecutterYard$Saw") (fun w h => (List.mem_cons_of_mem _ (List.mem_append_right _ h))) hw.1 rfl 0 (by decide) (List.mem_cons_of_mem _ (List.mem_append_left _ (List.mem_of_getElem? (i := 0) rfl))) (fun _ h9 => h9) (v := .ref (M 1)) rfl dX1_worthOf_1 ?_
  refine lv_iload_n hx hb dX1_worthOf_4 rfl (lv_at hl 1 rfl) ?_
  refine lv_iload_n hx hb dX1_worthOf_5 rfl (lv_at hl 2 rfl) ?_
  refine g_callS (As := [.ref (M 1), .int (nI w), .int (nI h)]) (rest := []) (n := 3) S hE hI hA (c_X1_read l K _ (q, 10, 1) (M 1) vW w h hw.2.1 hwh) gX1_worthOf_X1_read rfl (by decide +kernel) ⟨Nat.le_of_ble_eq_true rfl, Nat.le_of_ble_eq_true rfl⟩ rfl hl.1 rfl (Nat.le_of_ble_eq_true rfl) dX1_worthOf_6 ⟨Nat.le_of_ble_eq_true rfl, Nat.le_of_ble_eq_true rfl⟩ (fun E ce q9 Gx H1 locs1 hx9 => hx9.elim) (fun rv Gc_6 H locs hp hI => ?_)
  obtain ⟨rfl, hq9⟩ := hp
  rw [hq9] at hI
  refine W.eq (g2 := F0 m 9 ls [.int (tb vW w h)]) rfl ?_
  exact g_iret S hI hr hlocks (Nat.zero_le _) (Nat.zero_le _) dX1_worthOf_9 ⟨rfl, rfl⟩
set_option maxHeartbeats 4000000 in
set_option maxRecDepth 100000 in
/-- Saw.cutOf(wide, high) -/
theorem c_X1_cutOf (l : Launch) (K : gK) (G : gW) (q : Nat) (M : Nat → Nat) (vW vC vT vN : Nat → Int32) (kf : Nat) (w h : Nat) (hw : SawG K q M G vW vC vT vN kf) (hwh : w ≤ 24 ∧ h ≤ 24) : gM l yX1_cutOf wsX1_cutOf 3 63 0 0 K [.ref (M 0), .int (nI w), .int (nI h)] G (fun v G1 => v = some (.int (tb vC w h)) ∧ G1 = G) (gNo) := by
  refine gM.of (cc := cX1_cutOf) (maxL := 3) (ret := (some .int)) (by decide) rfl (Nat.le_of_ble_eq_true rfl) ?_
  intro p e s m below meth c A S hr hlocks htab hname hE hA hI ls hl
  have hx := S.1
  have hb := S.2.1
  have hml := S.2.2.1
  have hl : lv_has ls 3 [(0, .ref (M 0)), (1, .int (nI w)), (2, .int (nI h))] := hl
  obtain ⟨H, hHe⟩ : ∃ z, z = s.heap := ⟨_, rfl⟩
  obtain ⟨locs, hLe⟩ : ∃ z : List Loc, z = [] := ⟨_, rfl⟩
  rw [← hHe, ← hLe]
  have hI : gI K A s G H locs := by rw [hHe, hLe]; exact hI
  clear hHe hLe
  refine lv_aload_n hx hb dX1_cutOf_0 rfl (lv_at hl 0 rfl) ?_
  refine g_get S hE hI (C := RX1) (T := TX1) (N := 5) (ref := "StonecutterYard$Saw") (fun w h => (List.mem_cons_of_mem _ (List.mem_append_right _ h))) hw.1 rfl 1 (by decide) (List.mem_cons_of_mem _ (List.mem_append_left _ (List.mem_of_getElem? (i := 0) rfl))) (fun _ h9 => h9) (v := .ref (M 2)) rfl dX1_cutOf_1 ?_
  refine lv_iload_n hx hb dX1_cutOf_4 rfl (lv_at hl 1 rfl) ?_
  refine lv_iload_n hx hb dX1_cutOf_5 rfl (lv_at hl 2 rfl) ?_
  refine g_callS (As := [.ref (M 2), .int (nI w), .int (nI h)]) (rest := []) (n := 3) S hE hI hA (c_X1_read l K _ (q, 10, 2) (M 2) vC w h hw.2.2.1 hwh) gX1_cutOf_X1_read rfl (by decide +kernel) ⟨Nat.le_of_ble_eq_true rfl, Nat.le_of_ble_eq_true rfl⟩ rfl hl.1 rfl (Nat.le_of_ble_eq_true rfl) dX1_cutOf_6 ⟨Nat.le_of_ble_eq_true rfl, Nat.le_of_ble_eq_true rfl⟩ (fun E ce q9 Gx H1 locs1 hx9 => hx9.elim) (fun rv Gc_6 H locs hp hI => ?_)
  obtain ⟨rfl, hq9⟩ := hp
  rw [hq9] at hI
  refine W.eq (g2 := F0 m 9 ls [.int (tb vC w h)]) rfl ?_
  exact g_iret S hI hr hlocks (Nat.zero_le _) (Nat.zero_le _) dX1_cutOf_9 ⟨rfl, rfl⟩
set_option maxHeartbeats 4000000 in
set_option maxRecDepth 100000 in
/-- Saw.measurePiece(wide, high, stone, price) -/
theorem c_X1_measurePiece (l : Launch) (K : gK) (G : gW) (q : Nat) (M : Nat → Nat) (vW vC vT vN : Nat → Int32) (kf : Nat) (w h : Nat) (so : Int32) (p0 : Nat) (F : Nat → Nat → Nat) (hw : SawG K q M G vW vC vT vN kf) (hwh : (1 ≤ w ∧ w ≤ 24) ∧ (1 ≤ h ∧ h ≤ 24) ∧ kf ≤ 2 ∧ p0 ≤ 999) (hB : ∀ a b, 1 ≤ a → 1 ≤ b → a ≤ w → b ≤ h → F a b ≤ 600000) (hF : ∀ a b, 1 ≤ a → 1 ≤ b → a ≤ w → b ≤ h → a + b < w + h → tb vW a b = nI (F a b)) : gM l yX1_measurePiece wsX1_measurePiece 4 85 0 0 K [.ref (M 0), .int (nI w), .int (nI h), .int so, .int (nI p0)] G (fun v G1 => v = none ∧ SawG K q M G1 (upd vW (w * 25 + h) (nI (pick F kf w h p0).1)) (upd vC (w * 25 + h) (cE (pick F kf w h p0).2)) (upd vT (w * 25 + h) (if (pick F kf w h p0).2 = none then so else -1)) vN kf ∧ Ag q G G1) (gNo) := by
  refine gM.of (cc := cX1_measurePiece) (maxL := 11) (ret := none) (by decide) rfl (Nat.le_of_ble_eq_true rfl) ?_
  intro p e s m below meth c A S hr hlocks htab hname hE hA hI ls hl
  have hx := S.1
  have hb := S.2.1
  have hml := S.2.2.1
  have hl : lv_has ls 11 [(0, .ref (M 0)), (1, .int (nI w)), (2, .int (nI h)), (3, .int so), (4, .int (nI p0))] := hl
  obtain ⟨⟨hw1, hw24⟩, ⟨hh1, hh24⟩, hkf2, hp999⟩ := hwh
  obtain ⟨H, hHe⟩ : ∃ z, z = s.heap := ⟨_, rfl⟩
  obtain ⟨locs, hLe⟩ : ∃ z : List Loc, z = [] := ⟨_, rfl⟩
  rw [← hHe, ← hLe]
  have hI : gI K A s G H locs := by rw [hHe, hLe]; exact hI
  clear hHe hLe
  refine lv_iload hx hb dX1_measurePiece_0 (lv_at hl 4 rfl) ?_
  refine lv_istore (lv' := [(5, .int (nI p0)), (0, .ref (M 0)), (1, .int (nI w)), (2, .int (nI h)), (3, .int so), (4, .int (nI p0))]) hx hb dX1_measurePiece_2 hl (by decide) rfl (fun ls hl => ?_)
  refine lv_iconst (v := (-1)) hx hb dX1_measurePiece_4 (by decide) ?_
  refine lv_istore (lv' := [(6, .int (-1)), (5, .int (nI p0)), (0, .ref (M 0)), (1, .int (nI w)), (2, .int (nI h)), (3, .int so), (4, .int (nI p0))]) hx hb dX1_measurePiece_5 hl (by decide) rfl (fun ls hl => ?_)
  refine lv_iload_n hx hb dX1_measurePiece_7 rfl (lv_at hl 3 rfl) ?_
  refine lv_aload_n hx hb dX1_measurePiece_8 rfl (lv_at hl 2 rfl) ?_
  refine g_get S hE hI (C := RX1) (T := TX1) (N := 5) (ref := "StonecutterYard$Saw") (fun w h => (List.mem_cons_of_mem _ (List.mem_append_right _ h))) hw.1 rfl 4 (by decide) (List.mem_cons_of_mem _ (List.mem_append_left _ (List.mem_of_getElem? (i := 0) rfl))) (fun _ h9 => h9) (v := .int (nI kf)) rfl dX1_measurePiece_9 ?_
  refine lv_isub hx hb dX1_measurePiece_12 ?_
  refine lv_iconst (v := nI 2) hx hb dX1_measurePiece_13 (by decide) ?_
  refine g_idiv hx hb dX1_measurePiece_14 (by decide) (v := nI ((w - kf) / 2)) (half_nI w (by omega) hw1 kf (by omega)) ?_
  refine lv_istore (lv' := [(7, .int (nI ((w - kf) / 2))), (6, .int (-1)), (5, .int (nI p0)), (0, .ref (M 0)), (1, .int (nI w)), (2, .int (nI h)), (3, .int so), (4, .int (nI p0))]) hx hb dX1_measurePiece_15 hl (by decide) rfl (fun ls hl => ?_)
  refine lv_iload_n hx hb dX1_measurePiece_17 rfl (lv_at hl 5 rfl) ?_
  refine lv_aload_n hx hb dX1_measurePiece_18 rfl (lv_at hl 3 rfl) ?_
  refine g_get S hE hI (C := RX1) (T := TX1) (N := 5) (ref := "StonecutterYard$Saw") (fun w h => (List.mem_cons_of_mem _ (List.mem_append_right _ h))) hw.1 rfl 4 (by decide) (List.mem_cons_of_mem _ (List.mem_append_left _ (List.mem_of_getElem? (i := 0) rfl))) (fun _ h9 => h9) (v := .int (nI kf)) rfl dX1_measurePiece_19 ?_
  refine lv_isub hx hb dX1_measurePiece_22 ?_
  refine lv_iconst (v := nI 2) hx hb dX1_measurePiece_23 (by decide) ?_
  refine g_idiv hx hb dX1_measurePiece_24 (by decide) (v := nI ((h - kf) / 2)) (half_nI h (by omega) hh1 kf (by omega)) ?_
  refine lv_istore (lv' := [(8, .int (nI ((h - kf) / 2))), (7, .int (nI ((w - kf) / 2))), (6, .int (-1)), (5, .int (nI p0)), (0, .ref (M 0)), (1, .int (nI w)), (2, .int (nI h)), (3, .int so), (4, .int (nI p0))]) hx hb dX1_measurePiece_25 hl (by decide) rfl (fun ls hl => ?_)
  refine lv_iconst (v := nI 1) hx hb dX1_measurePiece_27 (by decide) ?_
  refine lv_istore (lv' := [(9, .int (nI 1)), (8, .int (nI ((h - kf) / 2))), (7, .int (nI ((w - kf) / 2))), (6, .int (-1)), (5, .int (nI p0)), (0, .ref (M 0)), (1, .int (nI w)), (2, .int (nI h)), (3, .int so), (4, .int (nI p0))]) hx hb dX1_measurePiece_28 hl (by decide) rfl (fun ls hl => ?_)
  have L30 : ∀ (n : Nat) (i : Nat) (c9 : Nat × cutT) (H : Heap) (locs : List Loc) (ls : Array Slot) (hn : half w kf - i < n) (hc9 : c9 = (pickV F kf w h p0 i)) (hp : i ≤ half w kf), gI K A s G H locs → lv_has ls 11 [(0, .ref (M 0)), (1, .int (nI w)), (2, .int (nI h)), (3, .int so), (4, .int (nI p0)), (5, .int (nI c9.1)), (6, .int (cE c9.2)), (7, .int (nI ((w - kf) / 2))), (8, .int (nI ((h - kf) / 2))), (9, .int (nI (i + 1)))] → W p l e (gRoom 4 85 0 0) s m ([.ref (M 0), .int (nI w), .int (nI h), .int so, .int (nI p0)] : List Value).toArray below meth c H locs 0 0 (gEnd K below (fun v G1 => v = none ∧ SawG K q M G1 (upd vW (w * 25 + h) (nI (pick F kf w h p0).1)) (upd vC (w * 25 + h) (cE (pick F kf w h p0).2)) (upd vT (w * 25 + h) (if (pick F kf w h p0).2 = none then so else -1)) vN kf ∧ Ag q G G1) (gNo) A ([.ref (M 0), .int (nI w), .int (nI h), .int so, .int (nI p0)] : List Value).toArray s 0 0) (F0 m 30 ls []) := by
    clear hI hl
    intro n
    induction n with
    | zero =>
      intro i c9 H locs ls hn hc9 hp hI hl
      exact absurd hn (Nat.not_lt_zero _)
    | succ n ih =>
      intro i c9 H locs ls hn hc9 hp hI hl
      have hb9 : c9.1 ≤ 1200000 := by rw [hc9]; exact pickV_b (B := 600000) (by omega) hB hh1 hp
      have hp9 : i ≤ (w - kf) / 2 := hp
      refine lv_iload hx hb dX1_measurePiece_30 (lv_at hl 9 rfl) ?_
      refine lv_iload hx hb dX1_measurePiece_32 (lv_at hl 7 rfl) ?_
      refine lv_icmp_gt (tgt := 82) hx hb dX1_measurePiece_34 (by decide) (fun c_34 => ?_) (fun c_34 => ?_)
      · skip
        have c_34 : ((w - kf) / 2) < (i + 1) := (nI_ltI (a := ((w - kf) / 2)) (b := (i + 1)) (by omega) (by omega)).mp c_34
        have hend : i = half w kf := by show i = (w - kf) / 2; omega
        refine lv_iconst (v := nI 1) hx hb dX1_measurePiece_82 (by decide) ?_
        refine lv_istore (lv' := [(9, .int (nI 1)), (0, .ref (M 0)), (1, .int (nI w)), (2, .int (nI h)), (3, .int so), (4, .int (nI p0)), (5, .int (nI c9.1)), (6, .int (cE c9.2)), (7, .int (nI ((w - kf) / 2))), (8, .int (nI ((h - kf) / 2)))]) hx hb dX1_measurePiece_83 hl (by decide) rfl (fun ls hl => ?_)
        have L85 : ∀ (n : Nat) (i : Nat) (c9 : Nat × cutT) (H : Heap) (locs : List Loc) (ls : Array Slot) (hn : half h kf - i < n) (hc9 : c9 = (pickH F kf w h (pickV F kf w h p0 (half w kf)) i)) (hp : i ≤ half h kf), gI K A s G H locs → lv_has ls 11 [(0, .ref (M 0)), (1, .int (nI w)), (2, .int (nI h)), (3, .int so), (4, .int (nI p0)), (5, .int (nI c9.1)), (6, .int (cE c9.2)), (7, .int (nI ((w - kf) / 2))), (8, .int (nI ((h - kf) / 2))), (9, .int (nI (i + 1)))] → W p l e (gRoom 4 85 0 0) s m ([.ref (M 0), .int (nI w), .int (nI h), .int so, .int (nI p0)] : List Value).toArray below meth c H locs 0 0 (gEnd K below (fun v G1 => v = none ∧ SawG K q M G1 (upd vW (w * 25 + h) (nI (pick F kf w h p0).1)) (upd vC (w * 25 + h) (cE (pick F kf w h p0).2)) (upd vT (w * 25 + h) (if (pick F kf w h p0).2 = none then so else -1)) vN kf ∧ Ag q G G1) (gNo) A ([.ref (M 0), .int (nI w), .int (nI h), .int so, .int (nI p0)] : List Value).toArray s 0 0) (F0 m 85 ls []) := by
          clear hI hl
          intro n
          induction n with
          | zero =>
            intro i c9 H locs ls hn hc9 hp hI hl
            exact absurd hn (Nat.not_lt_zero _)
          | succ n ih85 =>
            intro i c9 H locs ls hn hc9 hp hI hl
            have hb9 : c9.1 ≤ 1200000 := by rw [hc9]; exact pickH_b (B := 600000) (pickV_b (B := 600000) (by omega) hB hh1 (Nat.le_refl _)) hB hw1 hp
            have hp9 : i ≤ (h - kf) / 2 := hp
            refine lv_iload hx hb dX1_measurePiece_85 (lv_at hl 9 rfl) ?_
            refine lv_iload hx hb dX1_measurePiece_87 (lv_at hl 8 rfl) ?_
            refine lv_icmp_gt (tgt := 140) hx hb dX1_measurePiece_89 (by decide) (fun c_89 => ?_) (fun c_89 => ?_)
            · skip
              have c_89 : ((h - kf) / 2) < (i + 1) := (nI_ltI (a := ((h - kf) / 2)) (b := (i + 1)) (by omega) (by omega)).mp c_89
              have hend : i = half h kf := by show i = (h - kf) / 2; omega
              have hc8 : c9 = (pick F kf w h p0) := by rw [hc9, show i = half h kf from hend]; rfl
              rw [hc8] at hl
              have hkd := pick_in (W := F) (kf := kf) (w := w) (h := h) (p0 := p0)
              have hkn : (pick F kf w h p0).2 = none ∨ (∃ n, n < 1000 ∧ (pick F kf w h p0).2 = some (true, n)) ∨ ∃ n, n < 1000 ∧ (pick F kf w h p0).2 = some (false, n) := hkd.elim (fun e9 => Or.inl (by rw [e9])) (fun z8 => z8.elim (fun ⟨k, e1, e2, e3, _⟩ => Or.inr (Or.inl ⟨k, by omega, e3⟩)) (fun ⟨k, e1, e2, e3, _⟩ => Or.inr (Or.inr ⟨k, by omega, e3⟩)))
              refine lv_aload_n hx hb dX1_measurePiece_140 rfl (lv_at hl 0 rfl) ?_
              refine g_get S hE hI (C := RX1) (T := TX1) (N := 5) (ref := "StonecutterYard$Saw") (fun w h => (List.mem_cons_of_mem _ (List.mem_append_right _ h))) hw.1 rfl 0 (by decide) (List.mem_cons_of_mem _ (List.mem_append_left _ (List.mem_of_getElem? (i := 1) rfl))) (fun _ h9 => h9) (v := .ref (M 1)) rfl dX1_measurePiece_141 ?_
              refine lv_iload_n hx hb dX1_measurePiece_144 rfl (lv_at hl 1 rfl) ?_
              refine lv_iload_n hx hb dX1_measurePiece_145 rfl (lv_at hl 2 rfl) ?_
              refine lv_iload hx hb dX1_measurePiece_146 (lv_at hl 5 rfl) ?_
              refine g_callS (As := [.ref (M 1), .int (nI w), .int (nI h), .int (nI ((pick F kf w h p0).1))]) (rest := []) (n := 4) S hE hI hA (c_X1_write l K _ (q, 10, 1) (M 1) vW w h (nI (pick F kf w h p0).1) hw.2.1 ⟨by omega, by omega⟩) gX1_measurePiece_X1_write rfl (by decide +kernel) ⟨Nat.le_of_ble_eq_true rfl, Nat.le_of_ble_eq_true rfl⟩ rfl hl.1 rfl (Nat.le_of_ble_eq_true rfl) dX1_measurePiece_148 ⟨Nat.le_of_ble_eq_true rfl, Nat.le_of_ble_eq_true rfl⟩ (fun E ce q9 Gx H1 locs1 hx9 => hx9.elim) (fun rv Gc_148 H locs hp hI => ?_)
              obtain ⟨rfl, hGc_148⟩ := hp
              have sw_Gc148 : Gc_148 (q, 10, 0) = some ((M 0), .inr (2, [.ref (M 1), .ref (M 2), .ref (M 3), .ref (M 4), .int (nI kf)])) := by rw [hGc_148, gset_ne (by simp)]; exact hw.1
              have aW_Gc148 : Gc_148 (q, 10, 1) = some ((M 1), cI K 625 (upd vW (w * 25 + h) (nI (pick F kf w h p0).1))) := by rw [hGc_148]; exact gset_eq _ _ _ _
              have aC_Gc148 : Gc_148 (q, 10, 2) = some ((M 2), cI K 625 vC) := by rw [hGc_148, gset_ne (by simp)]; exact hw.2.2.1
              have aT_Gc148 : Gc_148 (q, 10, 3) = some ((M 3), cI K 625 vT) := by rw [hGc_148, gset_ne (by simp)]; exact hw.2.2.2.1
              have aN_Gc148 : Gc_148 (q, 10, 4) = some ((M 4), cI K 625 vN) := by rw [hGc_148, gset_ne (by simp)]; exact hw.2.2.2.2
              refine W.eq (g2 := F0 m 151 ls []) rfl ?_
              refine lv_aload_n hx hb dX1_measurePiece_151 rfl (lv_at hl 0 rfl) ?_
              refine g_get S hE hI (C := RX1) (T := TX1) (N := 5) (ref := "StonecutterYard$Saw") (fun w h => (List.mem_cons_of_mem _ (List.mem_append_right _ h))) sw_Gc148 rfl 1 (by decide) (List.mem_cons_of_mem _ (List.mem_append_left _ (List.mem_of_getElem? (i := 2) rfl))) (fun _ h9 => h9) (v := .ref (M 2)) rfl dX1_measurePiece_152 ?_
              refine lv_iload_n hx hb dX1_measurePiece_155 rfl (lv_at hl 1 rfl) ?_
              refine lv_iload_n hx hb dX1_measurePiece_156 rfl (lv_at hl 2 rfl) ?_
              refine lv_iload hx hb dX1_measurePiece_157 (lv_at hl 6 rfl) ?_
              refine g_callS (As := [.ref (M 2), .int (nI w), .int (nI h), .int (cE (pick F kf w h p0).2)]) (rest := []) (n := 4) S hE hI hA (c_X1_write l K _ (q, 10, 2) (M 2) vC w h (cE (pick F kf w h p0).2) aC_Gc148 ⟨by omega, by omega⟩) gX1_measurePiece_X1_write rfl (by decide +kernel) ⟨Nat.le_of_ble_eq_true rfl, Nat.le_of_ble_eq_true rfl⟩ rfl hl.1 rfl (Nat.le_of_ble_eq_true rfl) dX1_measurePiece_159 ⟨Nat.le_of_ble_eq_true rfl, Nat.le_of_ble_eq_true rfl⟩ (fun E ce q9 Gx H1 locs1 hx9 => hx9.elim) (fun rv Gc_159 H locs hp hI => ?_)
              obtain ⟨rfl, hGc_159⟩ := hp
              have sw_Gc159 : Gc_159 (q, 10, 0) = some ((M 0), .inr (2, [.ref (M 1), .ref (M 2), .ref (M 3), .ref (M 4), .int (nI kf)])) := by rw [hGc_159, gset_ne (by simp)]; exact sw_Gc148
              have aW_Gc159 : Gc_159 (q, 10, 1) = some ((M 1), cI K 625 (upd vW (w * 25 + h) (nI (pick F kf w h p0).1))) := by rw [hGc_159, gset_ne (by simp)]; exact aW_Gc148
              have aC_Gc159 : Gc_159 (q, 10, 2) = some ((M 2), cI K 625 (upd vC (w * 25 + h) (cE (pick F kf w h p0).2))) := by rw [hGc_159]; exact gset_eq _ _ _ _
              have aT_Gc159 : Gc_159 (q, 10, 3) = some ((M 3), cI K 625 vT) := by rw [hGc_159, gset_ne (by simp)]; exact aT_Gc148
              have aN_Gc159 : Gc_159 (q, 10, 4) = some ((M 4), cI K 625 vN) := by rw [hGc_159, gset_ne (by simp)]; exact aN_Gc148
              refine W.eq (g2 := F0 m 162 ls []) rfl ?_
              refine lv_aload_n hx hb dX1_measurePiece_162 rfl (lv_at hl 0 rfl) ?_
              refine g_get S hE hI (C := RX1) (T := TX1) (N := 5) (ref := "StonecutterYard$Saw") (fun w h => (List.mem_cons_of_mem _ (List.mem_append_right _ h))) sw_Gc159 rfl 2 (by decide) (List.mem_cons_of_mem _ (List.mem_append_left _ (List.mem_of_getElem? (i := 3) rfl))) (fun _ h9 => h9) (v := .ref (M 3)) rfl dX1_measurePiece_163 ?_
              refine lv_iload_n hx hb dX1_measurePiece_166 rfl (lv_at hl 1 rfl) ?_
              refine lv_iload_n hx hb dX1_measurePiece_167 rfl (lv_at hl 2 rfl) ?_
              refine lv_iload hx hb dX1_measurePiece_168 (lv_at hl 6 rfl) ?_
              refine lv_iconst (v := (-1)) hx hb dX1_measurePiece_170 (by decide) ?_
              refine lv_icmp_ne (tgt := 178) hx hb dX1_measurePiece_171 (by decide) (fun c_171 => ?_) (fun c_171 => ?_)
              · skip
                have hsv : (if (pick F kf w h p0).2 = none then so else -1) = -1 := if_neg (fun z9 => c_171 ((cE_none hkn).mpr z9))
                refine lv_iconst (v := (-1)) hx hb dX1_measurePiece_178 (by decide) ?_
                refine W.eq (g2 := F0 m 179 ls [.int (if (pick F kf w h p0).2 = none then so else -1), .int (nI h), .int (nI w), .ref (M 3)]) (by rw [hsv]) ?_
                refine g_callS (As := [.ref (M 3), .int (nI w), .int (nI h), .int (if (pick F kf w h p0).2 = none then so else -1)]) (rest := []) (n := 4) S hE hI hA (c_X1_write l K _ (q, 10, 3) (M 3) vT w h (if (pick F kf w h p0).2 = none then so else -1) aT_Gc159 ⟨by omega, by omega⟩) gX1_measurePiece_X1_write rfl (by decide +kernel) ⟨Nat.le_of_ble_eq_true rfl, Nat.le_of_ble_eq_true rfl⟩ rfl hl.1 rfl (Nat.le_of_ble_eq_true rfl) dX1_measurePiece_179 ⟨Nat.le_of_ble_eq_true rfl, Nat.le_of_ble_eq_true rfl⟩ (fun E ce q9 Gx H1 locs1 hx9 => hx9.elim) (fun rv Gc_179 H locs hp hI => ?_)
                obtain ⟨rfl, hGc_179⟩ := hp
                have sw_Gc179 : Gc_179 (q, 10, 0) = some ((M 0), .inr (2, [.ref (M 1), .ref (M 2), .ref (M 3), .ref (M 4), .int (nI kf)])) := by rw [hGc_179, gset_ne (by simp)]; exact sw_Gc159
                have aW_Gc179 : Gc_179 (q, 10, 1) = some ((M 1), cI K 625 (upd vW (w * 25 + h) (nI (pick F kf w h p0).1))) := by rw [hGc_179, gset_ne (by simp)]; exact aW_Gc159
                have aC_Gc179 : Gc_179 (q, 10, 2) = some ((M 2), cI K 625 (upd vC (w * 25 + h) (cE (pick F kf w h p0).2))) := by rw [hGc_179, gset_ne (by simp)]; exact aC_Gc159
                have aT_Gc179 : Gc_179 (q, 10, 3) = some ((M 3), cI K 625 (upd vT (w * 25 + h) (if (pick F kf w h p0).2 = none then so else -1))) := by rw [hGc_179]; exact gset_eq _ _ _ _
                have aN_Gc179 : Gc_179 (q, 10, 4) = some ((M 4), cI K 625 vN) := by rw [hGc_179, gset_ne (by simp)]; exact aN_Gc159
                refine W.eq (g2 := F0 m 182 ls []) rfl ?_
                exact g_vret S hI hr hlocks (Nat.zero_le _) (Nat.zero_le _) dX1_measurePiece_182 ⟨rfl, ⟨sw_Gc179, aW_Gc179, aC_Gc179, aT_Gc179, aN_Gc179⟩, by rw [hGc_179, hGc_159, hGc_148]; exact Ag.rf.st.st.st⟩
              · skip
                have hsv : (if (pick F kf w h p0).2 = none then so else -1) = so := if_pos ((cE_none hkn).mp c_171)
                refine lv_iload_n hx hb dX1_measurePiece_174 rfl (lv_at hl 3 rfl) ?_
                refine lv_goto (tgt := 179) hx hb dX1_measurePiece_175 (by decide) ?_
                refine W.eq (g2 := F0 m 179 ls [.int (if (pick F kf w h p0).2 = none then so else -1), .int (nI h), .int (nI w), .ref (M 3)]) (by rw [hsv]) ?_
                refine g_callS (As := [.ref (M 3), .int (nI w), .int (nI h), .int (if (pick F kf w h p0).2 = none then so else -1)]) (rest := []) (n := 4) S hE hI hA (c_X1_write l K _ (q, 10, 3) (M 3) vT w h (if (pick F kf w h p0).2 = none then so else -1) aT_Gc159 ⟨by omega, by omega⟩) gX1_measurePiece_X1_write rfl (by decide +kernel) ⟨Nat.le_of_ble_eq_true rfl, Nat.le_of_ble_eq_true rfl⟩ rfl hl.1 rfl (Nat.le_of_ble_eq_true rfl) dX1_measurePiece_179 ⟨Nat.le_of_ble_eq_true rfl, Nat.le_of_ble_eq_true rfl⟩ (fun E ce q9 Gx H1 locs1 hx9 => hx9.elim) (fun rv Gc_179 H locs hp hI => ?_)
                obtain ⟨rfl, hGc_179⟩ := hp
                have sw_Gc179 : Gc_179 (q, 10, 0) = some ((M 0), .inr (2, [.ref (M 1), .ref (M 2), .ref (M 3), .ref (M 4), .int (nI kf)])) := by rw [hGc_179, gset_ne (by simp)]; exact sw_Gc159
                have aW_Gc179 : Gc_179 (q, 10, 1) = some ((M 1), cI K 625 (upd vW (w * 25 + h) (nI (pick F kf w h p0).1))) := by rw [hGc_179, gset_ne (by simp)]; exact aW_Gc159
                have aC_Gc179 : Gc_179 (q, 10, 2) = some ((M 2), cI K 625 (upd vC (w * 25 + h) (cE (pick F kf w h p0).2))) := by rw [hGc_179, gset_ne (by simp)]; exact aC_Gc159
                have aT_Gc179 : Gc_179 (q, 10, 3) = some ((M 3), cI K 625 (upd vT (w * 25 + h) (if (pick F kf w h p0).2 = none then so else -1))) := by rw [hGc_179]; exact gset_eq _ _ _ _
                have aN_Gc179 : Gc_179 (q, 10, 4) = some ((M 4), cI K 625 vN) := by rw [hGc_179, gset_ne (by simp)]; exact aN_Gc159
                refine W.eq (g2 := F0 m 182 ls []) rfl ?_
                exact g_vret S hI hr hlocks (Nat.zero_le _) (Nat.zero_le _) dX1_measurePiece_182 ⟨rfl, ⟨sw_Gc179, aW_Gc179, aC_Gc179, aT_Gc179, aN_Gc179⟩, by rw [hGc_179, hGc_159, hGc_148]; exact Ag.rf.st.st.st⟩
            · skip
              have c_89 : (i + 1) ≤ ((h - kf) / 2) := Nat.not_lt.mp (fun z => c_89 ((nI_ltI (a := ((h - kf) / 2)) (b := (i + 1)) (by omega) (by omega)).mpr z))
              have c_90 : kf + (i + 1) + (i + 1) ≤ h := by omega
              have hB1 := hB w (i + 1) hw1 (by omega) (Nat.le_refl _) (by omega)
              have hB2 := hB w (h - kf - (i + 1)) hw1 (by omega) (Nat.le_refl _) (by omega)
              refine lv_aload_n hx hb dX1_measurePiece_92 rfl (lv_at hl 0 rfl) ?_
              refine lv_iload_n hx hb dX1_measurePiece_93 rfl (lv_at hl 1 rfl) ?_
              refine lv_iload hx hb dX1_measurePiece_94 (lv_at hl 9 rfl) ?_
              refine g_callV (As := [.int (nI w), .int (nI (i + 1))]) (rest := []) (b := (M 0)) (n := 2) S hE hI hA (c_X1_worthOf l K _ q M vW vC vT vN kf w (i + 1) hw ⟨by omega, by omega⟩) gX1_measurePiece_X1_worthOf rfl (by decide +kernel) ⟨Nat.le_of_ble_eq_true rfl, Nat.le_of_ble_eq_true rfl⟩ (g_hro hE hI hw.1 rfl) rfl hl.1 rfl (Nat.le_of_ble_eq_true rfl) dX1_measurePiece_96 ⟨Nat.le_of_ble_eq_true rfl, Nat.le_of_ble_eq_true rfl⟩ (fun E ce q9 Gx H1 locs1 hx9 => hx9.elim) (fun rv Gc_96 H locs hp hI => ?_)
              obtain ⟨rfl, hq9⟩ := hp
              rw [hq9] at hI
              rw [hF w (i + 1) hw1 (by omega) (Nat.le_refl _) (by omega) (by omega)]
              refine W.eq (g2 := F0 m 99 ls [.int (nI (F w (i + 1)))]) rfl ?_
              refine lv_aload_n hx hb dX1_measurePiece_99 rfl (lv_at hl 0 rfl) ?_
              refine lv_iload_n hx hb dX1_measurePiece_100 rfl (lv_at hl 1 rfl) ?_
              refine lv_iload_n hx hb dX1_measurePiece_101 rfl (lv_at hl 2 rfl) ?_
              refine lv_aload_n hx hb dX1_measurePiece_102 rfl (lv_at hl 0 rfl) ?_
              refine g_get S hE hI (C := RX1) (T := TX1) (N := 5) (ref := "StonecutterYard$Saw") (fun w h => (List.mem_cons_of_mem _ (List.mem_append_right _ h))) hw.1 rfl 4 (by decide) (List.mem_cons_of_mem _ (List.mem_append_left _ (List.mem_of_getElem? (i := 0) rfl))) (fun _ h9 => h9) (v := .int (nI kf)) rfl dX1_measurePiece_103 ?_
              refine lv_isub hx hb dX1_measurePiece_106 ?_
              refine lv_iload hx hb dX1_measurePiece_107 (lv_at hl 9 rfl) ?_
              refine t_isub hx hb dX1_measurePiece_109 (v := nI (h - kf - (i + 1))) (by rw [pk_sub (by omega), pk_sub (by omega)]) ?_
              refine g_callV (As := [.int (nI w), .int (nI (h - kf - (i + 1)))]) (rest := [.int (nI (F w (i + 1)))]) (b := (M 0)) (n := 2) S hE hI hA (c_X1_worthOf l K _ q M vW vC vT vN kf w (h - kf - (i + 1)) hw ⟨by omega, by omega⟩) gX1_measurePiece_X1_worthOf rfl (by decide +kernel) ⟨Nat.le_of_ble_eq_true rfl, Nat.le_of_ble_eq_true rfl⟩ (g_hro hE hI hw.1 rfl) rfl hl.1 rfl (Nat.le_of_ble_eq_true rfl) dX1_measurePiece_110 ⟨Nat.le_of_ble_eq_true rfl, Nat.le_of_ble_eq_true rfl⟩ (fun E ce q9 Gx H1 locs1 hx9 => hx9.elim) (fun rv Gc_110 H locs hp hI => ?_)
              obtain ⟨rfl, hq9⟩ := hp
              rw [hq9] at hI
              rw [hF w (h - kf - (i + 1)) hw1 (by omega) (Nat.le_refl _) (by omega) (by omega)]
              refine W.eq (g2 := F0 m 113 ls [.int (nI (F w (h - kf - (i + 1)))), .int (nI (F w (i + 1)))]) rfl ?_
              refine t_iadd hx hb dX1_measurePiece_113 (nI_add _ _) ?_
              refine lv_istore (lv' := [(10, .int (nI ((F w (i + 1)) + (F w (h - kf - (i + 1)))))), (0, .ref (M 0)), (1, .int (nI w)), (2, .int (nI h)), (3, .int so), (4, .int (nI p0)), (5, .int (nI c9.1)), (6, .int (cE c9.2)), (7, .int (nI ((w - kf) / 2))), (8, .int (nI ((h - kf) / 2))), (9, .int (nI (i + 1)))]) hx hb dX1_measurePiece_114 hl (by decide) rfl (fun ls hl => ?_)
              refine lv_iload hx hb dX1_measurePiece_116 (lv_at hl 0 rfl) ?_
              refine lv_iload hx hb dX1_measurePiece_118 (lv_at hl 6 rfl) ?_
              refine lv_icmp_le (tgt := 134) hx hb dX1_measurePiece_120 (by decide) (fun c_120 => ?_) (fun c_120 => ?_)
              · skip
                have c_120 : ((F w (i + 1)) + (F w (h - kf - (i + 1)))) ≤ c9.1 := (nI_leI (a := ((F w (i + 1)) + (F w (h - kf - (i + 1))))) (b := c9.1) (by omega) (by omega)).mp c_120
                refine lv_iinc (v := nI ((i + 1) + 1)) (lv' := [(9, .int (nI ((i + 1) + 1))), (10, .int (nI ((F w (i + 1)) + (F w (h - kf - (i + 1)))))), (0, .ref (M 0)), (1, .int (nI w)), (2, .int (nI h)), (3, .int so), (4, .int (nI p0)), (5, .int (nI c9.1)), (6, .int (cE c9.2)), (7, .int (nI ((w - kf) / 2))), (8, .int (nI ((h - kf) / 2)))]) hx hb dX1_measurePiece_134 hl (k := 10) rfl (nI_add _ 1) (by decide) rfl (fun ls hl => ?_)
                refine lv_goto (tgt := 85) hx hb dX1_measurePiece_137 (by decide) ?_
                exact ih85 (i + 1) c9 H locs ls (by show (h - kf) / 2 - (i + 1) < _; have hn9 : (h - kf) / 2 - i < n + 1 := hn; omega) (by rw [hc9, pickH_no (by rw [← hc9]; exact c_120)]) (by show i + 1 ≤ (h - kf) / 2; omega) hI (lv_sub hl [2,3,4,5,6,7,8,9,10,0] rfl)
              · skip
                have c_120 : c9.1 < ((F w (i + 1)) + (F w (h - kf - (i + 1)))) := Nat.not_le.mp (fun z => c_120 ((nI_leI (a := ((F w (i + 1)) + (F w (h - kf - (i + 1))))) (b := c9.1) (by omega) (by omega)).mpr z))
                refine lv_iload hx hb dX1_measurePiece_123 (lv_at hl 0 rfl) ?_
                refine lv_istore (lv' := [(5, .int (nI ((F w (i + 1)) + (F w (h - kf - (i + 1)))))), (10, .int (nI ((F w (i + 1)) + (F w (h - kf - (i + 1)))))), (0, .ref (M 0)), (1, .int (nI w)), (2, .int (nI h)), (3, .int so), (4, .int (nI p0)), (6, .int (cE c9.2)), (7, .int (nI ((w - kf) / 2))), (8, .int (nI ((h - kf) / 2))), (9, .int (nI (i + 1)))]) hx hb dX1_measurePiece_125 hl (by decide) rfl (fun ls hl => ?_)
                refine lv_bipush (v := nI 100) hx hb dX1_measurePiece_127 (by decide) ?_
                refine lv_iload hx hb dX1_measurePiece_129 (lv_at hl 10 rfl) ?_
                refine t_iadd hx hb dX1_measurePiece_131 (nI_add _ _) ?_
                refine lv_istore (lv' := [(6, .int (nI (100 + (i + 1)))), (5, .int (nI ((F w (i + 1)) + (F w (h - kf - (i + 1)))))), (10, .int (nI ((F w (i + 1)) + (F w (h - kf - (i + 1)))))), (0, .ref (M 0)), (1, .int (nI w)), (2, .int (nI h)), (3, .int so), (4, .int (nI p0)), (7, .int (nI ((w - kf) / 2))), (8, .int (nI ((h - kf) / 2))), (9, .int (nI (i + 1)))]) hx hb dX1_measurePiece_132 hl (by decide) rfl (fun ls hl => ?_)
                refine lv_iinc (v := nI ((i + 1) + 1)) (lv' := [(9, .int (nI ((i + 1) + 1))), (6, .int (nI (100 + (i + 1)))), (5, .int (nI ((F w (i + 1)) + (F w (h - kf - (i + 1)))))), (10, .int (nI ((F w (i + 1)) + (F w (h - kf - (i + 1)))))), (0, .ref (M 0)), (1, .int (nI w)), (2, .int (nI h)), (3, .int so), (4, .int (nI p0)), (7, .int (nI ((w - kf) / 2))), (8, .int (nI ((h - kf) / 2)))]) hx hb dX1_measurePiece_134 hl (k := 10) rfl (nI_add _ 1) (by decide) rfl (fun ls hl => ?_)
                refine lv_goto (tgt := 85) hx hb dX1_measurePiece_137 (by decide) ?_
                exact ih85 (i + 1) (_, some (false, i + 1)) H locs ls (by show (h - kf) / 2 - (i + 1) < _; have hn9 : (h - kf) / 2 - i < n + 1 := hn; omega) (by rw [pickH_yes (by rw [← hc9]; exact c_120)]) (by show i + 1 ≤ (h - kf) / 2; omega) hI (lv_sub hl [4,5,6,7,8,2,1,9,10,0] rfl)
        exact L85 _ 0 c9 H locs ls (Nat.lt_succ_self _) (by rw [hc9, show i = half w kf from hend]; rfl) (Nat.zero_le _) hI (lv_sub hl [1,2,3,4,5,6,7,8,9,0] rfl)
      · skip
        have c_34 : (i + 1) ≤ ((w - kf) / 2) := Nat.not_lt.mp (fun z => c_34 ((nI_ltI (a := ((w - kf) / 2)) (b := (i + 1)) (by omega) (by omega)).mpr z))
        have c_35 : kf + (i + 1) + (i + 1) ≤ w := by omega
        have hB1 := hB (i + 1) h (by omega) hh1 (by omega) (Nat.le_refl _)
        have hB2 := hB (w - kf - (i + 1)) h (by omega) hh1 (by omega) (Nat.le_refl _)
        refine lv_aload_n hx hb dX1_measurePiece_37 rfl (lv_at hl 0 rfl) ?_
        refine lv_iload hx hb dX1_measurePiece_38 (lv_at hl 9 rfl) ?_
        refine lv_iload_n hx hb dX1_measurePiece_40 rfl (lv_at hl 2 rfl) ?_
        refine g_callV (As := [.int (nI (i + 1)), .int (nI h)]) (rest := []) (b := (M 0)) (n := 2) S hE hI hA (c_X1_worthOf l K _ q M vW vC vT vN kf (i + 1) h hw ⟨by omega, by omega⟩) gX1_measurePiece_X1_worthOf rfl (by decide +kernel) ⟨Nat.le_of_ble_eq_true rfl, Nat.le_of_ble_eq_true rfl⟩ (g_hro hE hI hw.1 rfl) rfl hl.1 rfl (Nat.le_of_ble_eq_true rfl) dX1_measurePiece_41 ⟨Nat.le_of_ble_eq_true rfl, Nat.le_of_ble_eq_true rfl⟩ (fun E ce q9 Gx H1 locs1 hx9 => hx9.elim) (fun rv Gc_41 H locs hp hI => ?_)
        obtain ⟨rfl, hq9⟩ := hp
        rw [hq9] at hI
        rw [hF (i + 1) h (by omega) hh1 (by omega) (Nat.le_refl _) (by omega)]
        refine W.eq (g2 := F0 m 44 ls [.int (nI (F (i + 1) h))]) rfl ?_
        refine lv_aload_n hx hb dX1_measurePiece_44 rfl (lv_at hl 0 rfl) ?_
        refine lv_iload_n hx hb dX1_measurePiece_45 rfl (lv_at hl 1 rfl) ?_
        refine lv_aload_n hx hb dX1_measurePiece_46 rfl (lv_at hl 0 rfl) ?_
        refine g_get S hE hI (C := RX1) (T := TX1) (N := 5) (ref := "StonecutterYard$Saw") (fun w h => (List.mem_cons_of_mem _ (List.mem_append_right _ h))) hw.1 rfl 4 (by decide) (List.mem_cons_of_mem _ (List.mem_append_left _ (List.mem_of_getElem? (i := 0) rfl))) (fun _ h9 => h9) (v := .int (nI kf)) rfl dX1_measurePiece_47 ?_
        refine lv_isub hx hb dX1_measurePiece_50 ?_
        refine lv_iload hx hb dX1_measurePiece_51 (lv_at hl 9 rfl) ?_
        refine t_isub hx hb dX1_measurePiece_53 (v := nI (w - kf - (i + 1))) (by rw [pk_sub (by omega), pk_sub (by omega)]) ?_
        refine lv_iload_n hx hb dX1_measurePiece_54 rfl (lv_at hl 2 rfl) ?_
        refine g_callV (As := [.int (nI (w - kf - (i + 1))), .int (nI h)]) (rest := [.int (nI (F (i + 1) h))]) (b := (M 0)) (n := 2) S hE hI hA (c_X1_worthOf l K _ q M vW vC vT vN kf (w - kf - (i + 1)) h hw ⟨by omega, by omega⟩) gX1_measurePiece_X1_worthOf rfl (by decide +kernel) ⟨Nat.le_of_ble_eq_true rfl, Nat.le_of_ble_eq_true rfl⟩ (g_hro hE hI hw.1 rfl) rfl hl.1 rfl (Nat.le_of_ble_eq_true rfl) dX1_measurePiece_55 ⟨Nat.le_of_ble_eq_true rfl, Nat.le_of_ble_eq_true rfl⟩ (fun E ce q9 Gx H1 locs1 hx9 => hx9.elim) (fun rv Gc_55 H locs hp hI => ?_)
        obtain ⟨rfl, hq9⟩ := hp
        rw [hq9] at hI
        rw [hF (w - kf - (i + 1)) h (by omega) hh1 (by omega) (Nat.le_refl _) (by omega)]
        refine W.eq (g2 := F0 m 58 ls [.int (nI (F (w - kf - (i + 1)) h)), .int (nI (F (i + 1) h))]) rfl ?_
        refine t_iadd hx hb dX1_measurePiece_58 (nI_add _ _) ?_
        refine lv_istore (lv' := [(10, .int (nI ((F (i + 1) h) + (F (w - kf - (i + 1)) h)))), (0, .ref (M 0)), (1, .int (nI w)), (2, .int (nI h)), (3, .int so), (4, .int (nI p0)), (5, .int (nI c9.1)), (6, .int (cE c9.2)), (7, .int (nI ((w - kf) / 2))), (8, .int (nI ((h - kf) / 2))), (9, .int (nI (i + 1)))]) hx hb dX1_measurePiece_59 hl (by decide) rfl (fun ls hl => ?_)
        refine lv_iload hx hb dX1_measurePiece_61 (lv_at hl 0 rfl) ?_
        refine lv_iload hx hb dX1_measurePiece_63 (lv_at hl 6 rfl) ?_
        refine lv_icmp_le (tgt := 76) hx hb dX1_measurePiece_65 (by decide) (fun c_65 => ?_) (fun c_65 => ?_)
        · skip
          have c_65 : ((F (i + 1) h) + (F (w - kf - (i + 1)) h)) ≤ c9.1 := (nI_leI (a := ((F (i + 1) h) + (F (w - kf - (i + 1)) h))) (b := c9.1) (by omega) (by omega)).mp c_65
          refine lv_iinc (v := nI ((i + 1) + 1)) (lv' := [(9, .int (nI ((i + 1) + 1))), (10, .int (nI ((F (i + 1) h) + (F (w - kf - (i + 1)) h)))), (0, .ref (M 0)), (1, .int (nI w)), (2, .int (nI h)), (3, .int so), (4, .int (nI p0)), (5, .int (nI c9.1)), (6, .int (cE c9.2)), (7, .int (nI ((w - kf) / 2))), (8, .int (nI ((h - kf) / 2)))]) hx hb dX1_measurePiece_76 hl (k := 10) rfl (nI_add _ 1) (by decide) rfl (fun ls hl => ?_)
          refine lv_goto (tgt := 30) hx hb dX1_measurePiece_79 (by decide) ?_
          exact ih (i + 1) c9 H locs ls (by show (w - kf) / 2 - (i + 1) < _; have hn9 : (w - kf) / 2 - i < n + 1 := hn; omega) (by rw [hc9, pickV_no (by rw [← hc9]; exact c_65)]) (by show i + 1 ≤ (w - kf) / 2; omega) hI (lv_sub hl [2,3,4,5,6,7,8,9,10,0] rfl)
        · skip
          have c_65 : c9.1 < ((F (i + 1) h) + (F (w - kf - (i + 1)) h)) := Nat.not_le.mp (fun z => c_65 ((nI_leI (a := ((F (i + 1) h) + (F (w - kf - (i + 1)) h))) (b := c9.1) (by omega) (by omega)).mpr z))
          refine lv_iload hx hb dX1_measurePiece_68 (lv_at hl 0 rfl) ?_
          refine lv_istore (lv' := [(5, .int (nI ((F (i + 1) h) + (F (w - kf - (i + 1)) h)))), (10, .int (nI ((F (i + 1) h) + (F (w - kf - (i + 1)) h)))), (0, .ref (M 0)), (1, .int (nI w)), (2, .int (nI h)), (3, .int so), (4, .int (nI p0)), (6, .int (cE c9.2)), (7, .int (nI ((w - kf) / 2))), (8, .int (nI ((h - kf) / 2))), (9, .int (nI (i + 1)))]) hx hb dX1_measurePiece_70 hl (by decide) rfl (fun ls hl => ?_)
          refine lv_iload hx hb dX1_measurePiece_72 (lv_at hl 10 rfl) ?_
          refine lv_istore (lv' := [(6, .int (nI (i + 1))), (5, .int (nI ((F (i + 1) h) + (F (w - kf - (i + 1)) h)))), (10, .int (nI ((F (i + 1) h) + (F (w - kf - (i + 1)) h)))), (0, .ref (M 0)), (1, .int (nI w)), (2, .int (nI h)), (3, .int so), (4, .int (nI p0)), (7, .int (nI ((w - kf) / 2))), (8, .int (nI ((h - kf) / 2))), (9, .int (nI (i + 1)))]) hx hb dX1_measurePiece_74 hl (by decide) rfl (fun ls hl => ?_)
          refine lv_iinc (v := nI ((i + 1) + 1)) (lv' := [(9, .int (nI ((i + 1) + 1))), (6, .int (nI (i + 1))), (5, .int (nI ((F (i + 1) h) + (F (w - kf - (i + 1)) h)))), (10, .int (nI ((F (i + 1) h) + (F (w - kf - (i + 1)) h)))), (0, .ref (M 0)), (1, .int (nI w)), (2, .int (nI h)), (3, .int so), (4, .int (nI p0)), (7, .int (nI ((w - kf) / 2))), (8, .int (nI ((h - kf) / 2)))]) hx hb dX1_measurePiece_76 hl (k := 10) rfl (nI_add _ 1) (by decide) rfl (fun ls hl => ?_)
          refine lv_goto (tgt := 30) hx hb dX1_measurePiece_79 (by decide) ?_
          exact ih (i + 1) (_, some (true, i + 1)) H locs ls (by show (w - kf) / 2 - (i + 1) < _; have hn9 : (w - kf) / 2 - i < n + 1 := hn; omega) (by rw [pickV_yes (by rw [← hc9]; exact c_65)]) (by show i + 1 ≤ (w - kf) / 2; omega) hI (lv_sub hl [4,5,6,7,8,2,1,9,10,0] rfl)
  exact L30 _ 0 (p0, none) H locs ls (Nat.lt_succ_self _) rfl (Nat.zero_le _) hI (lv_sub hl [5,6,7,8,9,4,3,2,1,0] rfl)
