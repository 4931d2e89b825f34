/-! the Saw's tables -/
abbrev stT : Type := Nat → Nat → Option Nat × Nat
def Cell3 (st : stT) (kf : Nat) (vW vC vT : Nat → Int32) (a b : Nat) : Prop := tb vW a b = nI (wV st kf a b) ∧ tb vC a b = cE (qV st kf a b).2 ∧ tb vT a b = (if (qV st kf a b).2 = none then oI (st a b).1 else -1)
def TabI (st : stT) (kf : Nat) (vW vC vT : Nat → Int32) (h w0 h0 : Nat) : Prop := ∀ a b, 1 ≤ a → 1 ≤ b → b ≤ h → (a < w0 ∨ (a = w0 ∧ b < h0)) → Cell3 st kf vW vC vT a b
def TabOK (st : stT) (kf : Nat) (vW vC vT : Nat → Int32) (w h : Nat) : Prop := ∀ a b, 1 ≤ a → 1 ≤ b → a ≤ w → b ≤ h → Cell3 st kf vW vC vT a b
theorem TabI.step {st : stT} {kf : Nat} {vW vC vT : Nat → Int32} {h w0 h0 : Nat} (t : TabI st kf vW vC vT h w0 h0) (h1 : 1 ≤ w0) (h2 : 1 ≤ h0) (h3 : h0 ≤ h) (h4 : h ≤ 24) {so : Int32} {p0 : Nat} (e1 : so = oI (st w0 h0).1) (e2 : p0 = (st w0 h0).2) : TabI st kf (upd vW (w0 * 25 + h0) (nI (pick (wV st kf) kf w0 h0 p0).1)) (upd vC (w0 * 25 + h0) (cE (pick (wV st kf) kf w0 h0 p0).2)) (upd vT (w0 * 25 + h0) (if (pick (wV st kf) kf w0 h0 p0).2 = none then so else -1)) h w0 (h0 + 1) := by
  subst e1; subst e2
  intro a b ha hb hbh hab
  by_cases e : a = w0 ∧ b = h0
  · obtain ⟨rfl, rfl⟩ := e
    unfold Cell3
    rw [tb_eq, tb_eq, tb_eq, wV_eq h1 h2]
    exact ⟨rfl, rfl, rfl⟩
  · unfold Cell3
    rw [tb_upd (by omega) (by omega) e, tb_upd (by omega) (by omega) e, tb_upd (by omega) (by omega) e]
    exact t a b ha hb hbh (by omega)
def NumI (st : stT) (kf j : Nat) (vN : Nat → Int32) (h w0 h0 : Nat) : Prop := ∀ a b, 1 ≤ a → 1 ≤ b → b ≤ h → (a < w0 ∨ (a = w0 ∧ b < h0)) → tb vN a b = nI (nV st kf j a b)
theorem NumI.step {st : stT} {kf j : Nat} {vN : Nat → Int32} {h w0 h0 : Nat} (t : NumI st kf j vN h w0 h0) (h3 : h0 ≤ h) (h4 : h ≤ 24) : NumI st kf j (upd vN (w0 * 25 + h0) (nI (nV st kf j w0 h0))) h w0 (h0 + 1) := by
  intro a b ha hb hbh hab
  by_cases e : a = w0 ∧ b = h0
  · obtain ⟨rfl, rfl⟩ := e
    exact tb_eq
  · rw [tb_upd (by omega) (by omega) e]
    exact t a b ha hb hbh (by omega)
theorem oI_nI {o : Option Nat} {j : Nat} (ho : ∀ n, o = some n → n < 2 ^ 31) (hj : j < 2 ^ 31) : oI o = nI j ↔ o = some j := by
  cases o with
  | none => exact ⟨fun z => absurd z.symm (nI_m1 hj), fun z => by cases z⟩
  | some n => exact ⟨fun z => by rw [(nI_eq (ho n rfl) hj).mp z], fun z => by cases z; rfl⟩
theorem nV_no {st : stT} {kf j a b : Nat} {x : Int32} (h1 : 1 ≤ a) (hx : x = (if (qV st kf a b).2 = none then oI (st a b).1 else -1)) (e : (qV st kf a b).2 = none) (ho : ∀ n, (st a b).1 = some n → n < 2 ^ 31) (hj : j < 2 ^ 31) : (if x = nI j then nI 1 else nI 0) = nI (nV st kf j a b) := by
  rw [hx, if_pos e, nV_none h1 e]
  by_cases c : (st a b).1 = some j
  · rw [if_pos c, if_pos ((oI_nI ho hj).mpr c)]
  · rw [if_neg c, if_neg (fun z => c ((oI_nI ho hj).mp z))]
theorem yStone_le {K : gK} {z : Bool} {r : Nat} {L : Nat → Nat → Nat} {G : gW} {y : YV} (hs : StockG K z r L G y) (w h g : Nat) : (yStone y w h g).2 ≤ 999 := bestN_le (fun j hj => (hs.kind hj).2.2.2.2.2.2.2.2.1)
set_option maxHeartbeats 4000000 in
set_option maxRecDepth 100000 in
/-- Saw.countInPiece: no cut -/
theorem c_cntNo (l : Launch) (K : gK) (G : gW) (q : Nat) (M : Nat → Nat) (vW vC vT vN : Nat → Int32) (kf : Nat) (w h j k : Nat) (hw : SawG K q M G vW vC vT vN kf) (hwh : (1 ≤ w ∧ w ≤ 24) ∧ (1 ≤ h ∧ h ≤ 24) ∧ kf ≤ 2 ∧ j < 1000) (hc : tb vC w h = -1) : gM l yX1_countInPiece wsX1_countInPiece 4 85 0 0 K [.ref (M 0), .int (nI w), .int (nI h), .int (nI j)] G (fun v G1 => v = some (.int (if tb vT w h = nI j then nI 1 else nI 0)) ∧ G1 = G) (gNo) := by
  refine gM.of (cc := cX1_countInPiece) (maxL := 6) (ret := (some .int)) (by decide) rfl (Nat.le_of_ble_eq_true rfl) ?_
  intro p e s m below meth c A S hr hlocks htab hname hE hA hI ls hl
  have hx := S.1
  have hb := S.2.1
  have hml := S.2.2.1
  have hl : lv_has ls 6 [(0, .ref (M 0)), (1, .int (nI w)), (2, .int (nI h)), (3, .int (nI j))] := hl
  obtain ⟨⟨hw1, hw24⟩, ⟨hh1, hh24⟩, hkf2, hj1000⟩ := hwh
  obtain ⟨H, hHe⟩ : ∃ z, z = s.heap := ⟨_, rfl⟩
  obtain ⟨locs, hLe⟩ : ∃ z : List Loc, z = [] := ⟨_, rfl⟩
  rw [← hHe, ← hLe]
  have hI : gI K A s G H locs := by rw [hHe, hLe]; exact hI
  clear hHe hLe
  refine lv_aload_n hx hb dX1_countInPiece_0 rfl (lv_at hl 0 rfl) ?_
  refine lv_iload_n hx hb dX1_countInPiece_1 rfl (lv_at hl 1 rfl) ?_
  refine lv_iload_n hx hb dX1_countInPiece_2 rfl (lv_at hl 2 rfl) ?_
  refine g_callV (As := [.int (nI w), .int (nI h)]) (rest := []) (b := (M 0)) (n := 2) S hE hI hA (c_X1_cutOf l K _ q M vW vC vT vN kf w h hw ⟨hw24, hh24⟩) gX1_countInPiece_X1_cutOf rfl (by decide +kernel) ⟨Nat.le_of_ble_eq_true rfl, Nat.le_of_ble_eq_true rfl⟩ (g_hro hE hI hw.1 rfl) rfl hl.1 rfl (Nat.le_of_ble_eq_true rfl) dX1_countInPiece_3 ⟨Nat.le_of_ble_eq_true rfl, Nat.le_of_ble_eq_true rfl⟩ (fun E ce q9 Gx H1 locs1 hx9 => hx9.elim) (fun rv Gc_3 H locs hp hI => ?_)
  obtain ⟨rfl, hq9⟩ := hp
  rw [hq9] at hI
  rw [hc]
  refine W.eq (g2 := F0 m 6 ls [.int (-1)]) rfl ?_
  refine lv_istore (lv' := [(4, .int (-1)), (0, .ref (M 0)), (1, .int (nI w)), (2, .int (nI h)), (3, .int (nI j))]) hx hb dX1_countInPiece_6 hl (by decide) rfl (fun ls hl => ?_)
  refine lv_iload hx hb dX1_countInPiece_8 (lv_at hl 0 rfl) ?_
  refine lv_iconst (v := (-1)) hx hb dX1_countInPiece_10 (by decide) ?_
  refine lv_icmp_ne (tgt := 33) hx hb dX1_countInPiece_11 (by decide) (fun c_11 => ?_) (fun c_11 => ?_)
  · skip
    exact absurd rfl c_11
  · skip
    refine lv_aload_n hx hb dX1_countInPiece_14 rfl (lv_at hl 1 rfl) ?_
    refine g_get S hE hI (C := RX1) (T := TX1) (N := 5) (ref := "StonecutterYard$Saw") (fun w h => (List.mem_cons_of_mem _ (List.mem_append_right _ h))) hw.1 rfl 2 (by decide) (List.mem_cons_of_mem _ (List.mem_append_left _ (List.mem_of_getElem? (i := 0) rfl))) (fun _ h9 => h9) (v := .ref (M 3)) rfl dX1_countInPiece_15 ?_
    refine lv_iload_n hx hb dX1_countInPiece_18 rfl (lv_at hl 2 rfl) ?_
    refine lv_iload_n hx hb dX1_countInPiece_19 rfl (lv_at hl 3 rfl) ?_
    refine g_callS (As := [.ref (M 3), .int (nI w), .int (nI h)]) (rest := []) (n := 3) S hE hI hA (c_X1_read l K _ (q, 10, 3) (M 3) vT w h hw.2.2.2.1 ⟨hw24, hh24⟩) gX1_countInPiece_X1_read rfl (by decide +kernel) ⟨Nat.le_of_ble_eq_true rfl, Nat.le_of_ble_eq_true rfl⟩ rfl hl.1 rfl (Nat.le_of_ble_eq_true rfl) dX1_countInPiece_20 ⟨Nat.le_of_ble_eq_true rfl, Nat.le_of_ble_eq_true rfl⟩ (fun E ce q9 Gx H1 locs1 hx9 => hx9.elim) (fun rv Gc_20 H locs hp hI => ?_)
    obtain ⟨rfl, hq9⟩ := hp
    rw [hq9] at hI
    refine W.eq (g2 := F0 m 23 ls [.int (tb vT w h)]) rfl ?_
    refine lv_iload_n hx hb dX1_countInPiece_23 rfl (lv_at hl 4 rfl) ?_
    refine lv_icmp_ne (tgt := 31) hx hb dX1_countInPiece_24 (by decide) (fun c_24 => ?_) (fun c_24 => ?_)
    · skip
      have hv9 : (if tb vT w h = nI j then nI 1 else nI 0) = nI 0 := if_neg c_24
      refine lv_iconst (v := nI 0) hx hb dX1_countInPiece_31 (by decide) ?_
      exact g_iret S hI hr hlocks (Nat.zero_le _) (Nat.zero_le _) dX1_countInPiece_32 ⟨by rw [hv9], rfl⟩
    · skip
      have hv9 : (if tb vT w h = nI j then nI 1 else nI 0) = nI 1 := if_pos c_24
      refine lv_iconst (v := nI 1) hx hb dX1_countInPiece_27 (by decide) ?_
      refine lv_goto (tgt := 32) hx hb dX1_countInPiece_28 (by decide) ?_
      exact g_iret S hI hr hlocks (Nat.zero_le _) (Nat.zero_le _) dX1_countInPiece_32 ⟨by rw [hv9], rfl⟩
set_option maxHeartbeats 4000000 in
set_option maxRecDepth 100000 in
/-- Saw.countInPiece: a cut down -/
theorem c_cntV (l : Launch) (K : gK) (G : gW) (q : Nat) (M : Nat → Nat) (vW vC vT vN : Nat → Int32) (kf : Nat) (w h j k : Nat) (hw : SawG K q M G vW vC vT vN kf) (hwh : (1 ≤ w ∧ w ≤ 24) ∧ (1 ≤ h ∧ h ≤ 24) ∧ kf ≤ 2 ∧ j < 1000) (hc : tb vC w h = nI k) (hk : 1 ≤ k ∧ k + k + kf ≤ w) : gM l yX1_countInPiece wsX1_countInPiece 4 85 0 0 K [.ref (M 0), .int (nI w), .int (nI h), .int (nI j)] G (fun v G1 => v = some (.int (tb vN k h + tb vN (w - kf - k) h)) ∧ G1 = G) (gNo) := by
  refine gM.of (cc := cX1_countInPiece) (maxL := 6) (ret := (some .int)) (by decide) rfl (Nat.le_of_ble_eq_true rfl) ?_
  intro p e s m below meth c A S hr hlocks htab hname hE hA hI ls hl
  have hx := S.1
  have hb := S.2.1
  have hml := S.2.2.1
  have hl : lv_has ls 6 [(0, .ref (M 0)), (1, .int (nI w)), (2, .int (nI h)), (3, .int (nI j))] := hl
  obtain ⟨⟨hw1, hw24⟩, ⟨hh1, hh24⟩, hkf2, hj1000⟩ := hwh
  obtain ⟨H, hHe⟩ : ∃ z, z = s.heap := ⟨_, rfl⟩
  obtain ⟨locs, hLe⟩ : ∃ z : List Loc, z = [] := ⟨_, rfl⟩
  rw [← hHe, ← hLe]
  have hI : gI K A s G H locs := by rw [hHe, hLe]; exact hI
  clear hHe hLe
  refine lv_aload_n hx hb dX1_countInPiece_0 rfl (lv_at hl 0 rfl) ?_
  refine lv_iload_n hx hb dX1_countInPiece_1 rfl (lv_at hl 1 rfl) ?_
  refine lv_iload_n hx hb dX1_countInPiece_2 rfl (lv_at hl 2 rfl) ?_
  refine g_callV (As := [.int (nI w), .int (nI h)]) (rest := []) (b := (M 0)) (n := 2) S hE hI hA (c_X1_cutOf l K _ q M vW vC vT vN kf w h hw ⟨hw24, hh24⟩) gX1_countInPiece_X1_cutOf rfl (by decide +kernel) ⟨Nat.le_of_ble_eq_true rfl, Nat.le_of_ble_eq_true rfl⟩ (g_hro hE hI hw.1 rfl) rfl hl.1 rfl (Nat.le_of_ble_eq_true rfl) dX1_countInPiece_3 ⟨Nat.le_of_ble_eq_true rfl, Nat.le_of_ble_eq_true rfl⟩ (fun E ce q9 Gx H1 locs1 hx9 => hx9.elim) (fun rv Gc_3 H locs hp hI => ?_)
  obtain ⟨rfl, hq9⟩ := hp
  rw [hq9] at hI
  rw [hc]
  refine W.eq (g2 := F0 m 6 ls [.int (nI k)]) rfl ?_
  refine lv_istore (lv' := [(4, .int (nI k)), (0, .ref (M 0)), (1, .int (nI w)), (2, .int (nI h)), (3, .int (nI j))]) hx hb dX1_countInPiece_6 hl (by decide) rfl (fun ls hl => ?_)
  refine lv_iload hx hb dX1_countInPiece_8 (lv_at hl 0 rfl) ?_
  refine lv_iconst (v := (-1)) hx hb dX1_countInPiece_10 (by decide) ?_
  refine lv_icmp_ne (tgt := 33) hx hb dX1_countInPiece_11 (by decide) (fun c_11 => ?_) (fun c_11 => ?_)
  · skip
    refine lv_iload hx hb dX1_countInPiece_33 (lv_at hl 0 rfl) ?_
    refine lv_bipush (v := nI 100) hx hb dX1_countInPiece_35 (by decide) ?_
    refine lv_icmp_ge (tgt := 69) hx hb dX1_countInPiece_37 (by decide) (fun c_37 => ?_) (fun c_37 => ?_)
    · skip
      have c_37 : 100 ≤ k := (nI_leI (a := 100) (b := k) (by omega) (by omega)).mp c_37
      exact absurd c_37 (by omega)
    · skip
      have c_37 : k < 100 := Nat.not_le.mp (fun z => c_37 ((nI_leI (a := 100) (b := k) (by omega) (by omega)).mpr z))
      refine lv_aload_n hx hb dX1_countInPiece_40 rfl (lv_at hl 1 rfl) ?_
      refine g_get S hE hI (C := RX1) (T := TX1) (N := 5) (ref := "StonecutterYard$Saw") (fun w h => (List.mem_cons_of_mem _ (List.mem_append_right _ h))) hw.1 rfl 3 (by decide) (List.mem_cons_of_mem _ (List.mem_append_left _ (List.mem_of_getElem? (i := 1) rfl))) (fun _ h9 => h9) (v := .ref (M 4)) rfl dX1_countInPiece_41 ?_
      refine lv_iload hx hb dX1_countInPiece_44 (lv_at hl 0 rfl) ?_
      refine lv_iload_n hx hb dX1_countInPiece_46 rfl (lv_at hl 3 rfl) ?_
      refine g_callS (As := [.ref (M 4), .int (nI k), .int (nI h)]) (rest := []) (n := 3) S hE hI hA (c_X1_read l K _ (q, 10, 4) (M 4) vN k h hw.2.2.2.2 ⟨by omega, by omega⟩) gX1_countInPiece_X1_read rfl (by decide +kernel) ⟨Nat.le_of_ble_eq_true rfl, Nat.le_of_ble_eq_true rfl⟩ rfl hl.1 rfl (Nat.le_of_ble_eq_true rfl) dX1_countInPiece_47 ⟨Nat.le_of_ble_eq_true rfl, Nat.le_of_ble_eq_true rfl⟩ (fun E ce q9 Gx H1 locs1 hx9 => hx9.elim) (fun rv Gc_47 H locs hp hI => ?_)
      obtain ⟨rfl, hq9⟩ := hp
      rw [hq9] at hI
      refine W.eq (g2 := F0 m 50 ls [.int (tb vN k h)]) rfl ?_
      refine lv_aload_n hx hb dX1_countInPiece_50 rfl (lv_at hl 1 rfl) ?_
      refine g_get S hE hI (C := RX1) (T := TX1) (N := 5) (ref := "StonecutterYard$Saw") (fun w h => (List.mem_cons_of_mem _ (List.mem_append_right _ h))) hw.1 rfl 3 (by decide) (List.mem_cons_of_mem _ (List.mem_append_left _ (List.mem_of_getElem? (i := 1) rfl))) (fun _ h9 => h9) (v := .ref (M 4)) rfl dX1_countInPiece_51 ?_
      refine lv_iload_n hx hb dX1_countInPiece_54 rfl (lv_at hl 2 rfl) ?_
      refine lv_aload_n hx hb dX1_countInPiece_55 rfl (lv_at hl 1 rfl) ?_
      refine g_get S hE hI (C := RX1) (T := TX1) (N := 5) (ref := "StonecutterYard$Saw") (fun w h => (List.mem_cons_of_mem _ (List.mem_append_right _ h))) hw.1 rfl 4 (by decide) (List.mem_cons_of_mem _ (List.mem_append_left _ (List.mem_of_getElem? (i := 2) rfl))) (fun _ h9 => h9) (v := .int (nI kf)) rfl dX1_countInPiece_56 ?_
      refine lv_isub hx hb dX1_countInPiece_59 ?_
      refine lv_iload hx hb dX1_countInPiece_60 (lv_at hl 0 rfl) ?_
      refine t_isub hx hb dX1_countInPiece_62 (v := nI (w - kf - k)) (by rw [pk_sub (by omega), pk_sub (by omega)]) ?_
      refine lv_iload_n hx hb dX1_countInPiece_63 rfl (lv_at hl 3 rfl) ?_
      refine g_callS (As := [.ref (M 4), .int (nI (w - kf - k)), .int (nI h)]) (rest := [.int (tb vN k h)]) (n := 3) S hE hI hA (c_X1_read l K _ (q, 10, 4) (M 4) vN (w - kf - k) h hw.2.2.2.2 ⟨by omega, by omega⟩) gX1_countInPiece_X1_read rfl (by decide +kernel) ⟨Nat.le_of_ble_eq_true rfl, Nat.le_of_ble_eq_true rfl⟩ rfl hl.1 rfl (Nat.le_of_ble_eq_true rfl) dX1_countInPiece_64 ⟨Nat.le_of_ble_eq_true rfl, Nat.le_of_ble_eq_true rfl⟩ (fun E ce q9 Gx H1 locs1 hx9 => hx9.elim) (fun rv Gc_64 H locs hp hI => ?_)
      obtain ⟨rfl, hq9⟩ := hp
      rw [hq9] at hI
      refine W.eq (g2 := F0 m 67 ls [.int (tb vN (w - kf - k) h), .int (tb vN k h)]) rfl ?_
      refine lv_iadd hx hb dX1_countInPiece_67 ?_
      exact g_iret S hI hr hlocks (Nat.zero_le _) (Nat.zero_le _) dX1_countInPiece_68 ⟨rfl, rfl⟩
  · skip
    exact absurd c_11 (nI_m1 (by omega))
set_option maxHeartbeats 4000000 in
set_option maxRecDepth 100000 in
/-- Saw.countInPiece: a cut across -/
theorem c_cntH (l : Launch) (K : gK) (G : gW) (q : Nat) (M : Nat → Nat) (vW vC vT vN : Nat → Int32) (kf : Nat) (w h j k : Nat) (hw : SawG K q M G vW vC vT vN kf) (hwh : (1 ≤ w ∧ w ≤ 24) ∧ (1 ≤ h ∧ h ≤ 24) ∧ kf ≤ 2 ∧ j < 1000) (hc : tb vC w h = nI (100 + k)) (hk : 1 ≤ k ∧ k + k + kf ≤ h) : gM l yX1_countInPiece wsX1_countInPiece 4 85 0 0 K [.ref (M 0), .int (nI w), .int (nI h), .int (nI j)] G (fun v G1 => v = some (.int (tb vN w k + tb vN w (h - kf - k))) ∧ G1 = G) (gNo) := by
  refine gM.of (cc := cX1_countInPiece) (maxL := 6) (ret := (some .int)) (by decide) rfl (Nat.le_of_ble_eq_true rfl) ?_
  intro p e s m below meth c A S hr hlocks htab hname hE hA hI ls hl
  have hx := S.1
  have hb := S.2.1
  have hml := S.2.2.1
  have hl : lv_has ls 6 [(0, .ref (M 0)), (1, .int (nI w)), (2, .int (nI h)), (3, .int (nI j))] := hl
  obtain ⟨⟨hw1, hw24⟩, ⟨hh1, hh24⟩, hkf2, hj1000⟩ := hwh
  obtain ⟨H, hHe⟩ : ∃ z, z = s.heap := ⟨_, rfl⟩
  obtain ⟨locs, hLe⟩ : ∃ z : List Loc, z = [] := ⟨_, rfl⟩
  rw [← hHe, ← hLe]
  have hI : gI K A s G H locs := by rw [hHe, hLe]; exact hI
  clear hHe hLe
  refine lv_aload_n hx hb dX1_countInPiece_0 rfl (lv_at hl 0 rfl) ?_
  refine lv_iload_n hx hb dX1_countInPiece_1 rfl (lv_at hl 1 rfl) ?_
  refine lv_iload_n hx hb dX1_countInPiece_2 rfl (lv_at hl 2 rfl) ?_
  refine g_callV (As := [.int (nI w), .int (nI h)]) (rest := []) (b := (M 0)) (n := 2) S hE hI hA (c_X1_cutOf l K _ q M vW vC vT vN kf w h hw ⟨hw24, hh24⟩) gX1_countInPiece_X1_cutOf rfl (by decide +kernel) ⟨Nat.le_of_ble_eq_true rfl, Nat.le_of_ble_eq_true rfl⟩ (g_hro hE hI hw.1 rfl) rfl hl.1 rfl (Nat.le_of_ble_eq_true rfl) dX1_countInPiece_3 ⟨Nat.le_of_ble_eq_true rfl, Nat.le_of_ble_eq_true rfl⟩ (fun E ce q9 Gx H1 locs1 hx9 => hx9.elim) (fun rv Gc_3 H locs hp hI => ?_)
  obtain ⟨rfl, hq9⟩ := hp
  rw [hq9] at hI
  rw [hc]
  refine W.eq (g2 := F0 m 6 ls [.int (nI (100 + k))]) rfl ?_
  refine lv_istore (lv' := [(4, .int (nI (100 + k))), (0, .ref (M 0)), (1, .int (nI w)), (2, .int (nI h)), (3, .int (nI j))]) hx hb dX1_countInPiece_6 hl (by decide) rfl (fun ls hl => ?_)
  refine lv_iload hx hb dX1_countInPiece_8 (lv_at hl 0 rfl) ?_
  refine lv_iconst (v := (-1)) hx hb dX1_countInPiece_10 (by decide) ?_
  refine lv_icmp_ne (tgt := 33) hx hb dX1_countInPiece_11 (by decide) (fun c_11 => ?_) (fun c_11 => ?_)
  · skip
    refine lv_iload hx hb dX1_countInPiece_33 (lv_at hl 0 rfl) ?_
    refine lv_bipush (v := nI 100) hx hb dX1_countInPiece_35 (by decide) ?_
    refine lv_icmp_ge (tgt := 69) hx hb dX1_countInPiece_37 (by decide) (fun c_37 => ?_) (fun c_37 => ?_)
    · skip
      have c_37 : 100 ≤ (100 + k) := (nI_leI (a := 100) (b := (100 + k)) (by omega) (by omega)).mp c_37
      refine lv_iload hx hb dX1_countInPiece_69 (lv_at hl 0 rfl) ?_
      refine lv_bipush (v := nI 100) hx hb dX1_countInPiece_71 (by decide) ?_
      refine t_isub hx hb dX1_countInPiece_73 (v := nI k) (by rw [pk_sub (by omega), Nat.add_sub_cancel_left]) ?_
      refine lv_istore (lv' := [(5, .int (nI k)), (4, .int (nI (100 + k))), (0, .ref (M 0)), (1, .int (nI w)), (2, .int (nI h)), (3, .int (nI j))]) hx hb dX1_countInPiece_74 hl (by decide) rfl (fun ls hl => ?_)
      refine lv_aload_n hx hb dX1_countInPiece_76 rfl (lv_at hl 2 rfl) ?_
      refine g_get S hE hI (C := RX1) (T := TX1) (N := 5) (ref := "StonecutterYard$Saw") (fun w h => (List.mem_cons_of_mem _ (List.mem_append_right _ h))) hw.1 rfl 3 (by decide) (List.mem_cons_of_mem _ (List.mem_append_left _ (List.mem_of_getElem? (i := 1) rfl))) (fun _ h9 => h9) (v := .ref (M 4)) rfl dX1_countInPiece_77 ?_
      refine lv_iload_n hx hb dX1_countInPiece_80 rfl (lv_at hl 3 rfl) ?_
      refine lv_iload hx hb dX1_countInPiece_81 (lv_at hl 0 rfl) ?_
      refine g_callS (As := [.ref (M 4), .int (nI w), .int (nI k)]) (rest := []) (n := 3) S hE hI hA (c_X1_read l K _ (q, 10, 4) (M 4) vN w k hw.2.2.2.2 ⟨by omega, by omega⟩) gX1_countInPiece_X1_read rfl (by decide +kernel) ⟨Nat.le_of_ble_eq_true rfl, Nat.le_of_ble_eq_true rfl⟩ rfl hl.1 rfl (Nat.le_of_ble_eq_true rfl) dX1_countInPiece_83 ⟨Nat.le_of_ble_eq_true rfl, Nat.le_of_ble_eq_true rfl⟩ (fun E ce q9 Gx H1 locs1 hx9 => hx9.elim) (fun rv Gc_83 H locs hp hI => ?_)
      obtain ⟨rfl, hq9⟩ := hp
      rw [hq9] at hI
      refine W.eq (g2 := F0 m 86 ls [.int (tb vN w k)]) rfl ?_
      refine lv_aload_n hx hb dX1_countInPiece_86 rfl (lv_at hl 2 rfl) ?_
      refine g_get S hE hI (C := RX1) (T := TX1) (N := 5) (ref := "StonecutterYard$Saw") (fun w h => (List.mem_cons_of_mem _ (List.mem_append_right _ h))) hw.1 rfl 3 (by decide) (List.mem_cons_of_mem _ (List.mem_append_left _ (List.mem_of_getElem? (i := 1) rfl))) (fun _ h9 => h9) (v := .ref (M 4)) rfl dX1_countInPiece_87 ?_
      refine lv_iload_n hx hb dX1_countInPiece_90 rfl (lv_at hl 3 rfl) ?_
      refine lv_iload_n hx hb dX1_countInPiece_91 rfl (lv_at hl 4 rfl) ?_
      refine lv_aload_n hx hb dX1_countInPiece_92 rfl (lv_at hl 2 rfl) ?_
      refine g_get S hE hI (C := RX1) (T := TX1) (N := 5) (ref := "StonecutterYard$Saw") (fun w h => (List.mem_cons_of_mem _ (List.mem_append_right _ h))) hw.1 rfl 4 (by decide) (List.mem_cons_of_mem _ (List.mem_append_left _ (List.mem_of_getElem? (i := 2) rfl))) (fun _ h9 => h9) (v := .int (nI kf)) rfl dX1_countInPiece_93 ?_
      refine lv_isub hx hb dX1_countInPiece_96 ?_
      refine lv_iload hx hb dX1_countInPiece_97 (lv_at hl 0 rfl) ?_
      refine t_isub hx hb dX1_countInPiece_99 (v := nI (h - kf - k)) (by rw [pk_sub (by omega), pk_sub (by omega)]) ?_
      refine g_callS (As := [.ref (M 4), .int (nI w), .int (nI (h - kf - k))]) (rest := [.int (tb vN w k)]) (n := 3) S hE hI hA (c_X1_read l K _ (q, 10, 4) (M 4) vN w (h - kf - k) hw.2.2.2.2 ⟨by omega, by omega⟩) gX1_countInPiece_X1_read rfl (by decide +kernel) ⟨Nat.le_of_ble_eq_true rfl, Nat.le_of_ble_eq_true rfl⟩ rfl hl.1 rfl (Nat.le_of_ble_eq_true rfl) dX1_countInPiece_100 ⟨Nat.le_of_ble_eq_true rfl, Nat.le_of_ble_eq_true rfl⟩ (fun E ce q9 Gx H1 locs1 hx9 => hx9.elim) (fun rv Gc_100 H locs hp hI => ?_)
      obtain ⟨rfl, hq9⟩ := hp
      rw [hq9] at hI
      refine W.eq (g2 := F0 m 103 ls [.int (tb vN w (h - kf - k)), .int (tb vN w k)]) rfl ?_
      refine lv_iadd hx hb dX1_countInPiece_103 ?_
      exact g_iret S hI hr hlocks (Nat.zero_le _) (Nat.zero_le _) dX1_countInPiece_104 ⟨rfl, rfl⟩
    · skip
      have c_37 : (100 + k) < 100 := Nat.not_le.mp (fun z => c_37 ((nI_leI (a := 100) (b := (100 + k)) (by omega) (by omega)).mpr z))
      exact absurd c_37 (by omega)
  · skip
    exact absurd c_11 (nI_m1 (by omega))
theorem yStone_le1 {K : gK} {z : Bool} {r : Nat} {L : Nat → Nat → Nat} {G : gW} {y : YV} (hs : StockG K z r L G y) (g : Nat) : ∀ w h, ((fun a b => yStone y a b g) w h).2 ≤ 999 := fun w h => yStone_le hs w h g
set_option maxHeartbeats 4000000 in
set_option maxRecDepth 100000 in
/-- Saw.measure(stock, wide, high, grain) -/
theorem c_X1_measure (l : Launch) (K : gK) (G : gW) (q : Nat) (M : Nat → Nat) (vW vC vT vN : Nat → Int32) (kf : Nat) (z : Bool) (r : Nat) (L : Nat → Nat → Nat) (y : YV) (wd hd g : Nat) (hw : SawG K q M G vW vC vT vN kf) (hs : StockG K z r L G y) (hne : r ≠ q) (hwh : wd ≤ 24 ∧ hd ≤ 24 ∧ g ≤ 1) : gM l yX1_measure wsX1_measure 5 116 0 0 K [.ref (M 0), .ref (L 0 0), .int (nI wd), .int (nI hd), .int (nI g)] G (fun v G1 => v = none ∧ (∃ W1 C1 T1, SawG K q M G1 W1 C1 T1 vN (yF y) ∧ TabOK (fun a b => yStone y a b g) (yF y) W1 C1 T1 wd hd) ∧ Ag q G G1) (gNo) := by
  refine gM.of (cc := cX1_measure) (maxL := 9) (ret := none) (by decide) rfl (Nat.le_of_ble_eq_true rfl) ?_
  intro p e s m below meth c A S hr hlocks htab hname hE hA hI ls hl
  have hx := S.1
  have hb := S.2.1
  have hml := S.2.2.1
  have hl : lv_has ls 9 [(0, .ref (M 0)), (1, .ref (L 0 0)), (2, .int (nI wd)), (3, .int (nI hd)), (4, .int (nI g))] := hl
  have h44 := hs.1.2.2.2.1
  have h6 := hs.1.2.2.2.2.1
  have hf2 := hs.1.2.2.2.2.2
  obtain ⟨hwd, hhd, hg1⟩ := hwh
  obtain ⟨H, hHe⟩ : ∃ z, z = s.heap := ⟨_, rfl⟩
  obtain ⟨locs, hLe⟩ : ∃ z : List Loc, z = [] := ⟨_, rfl⟩
  rw [← hHe, ← hLe]
  have hI : gI K A s G H locs := by rw [hHe, hLe]; exact hI
  clear hHe hLe
  refine lv_aload_n hx hb dX1_measure_0 rfl (lv_at hl 0 rfl) ?_
  refine lv_aload_n hx hb dX1_measure_1 rfl (lv_at hl 1 rfl) ?_
  refine g_getN S hE hI (C := RX3) (T := TX3) (N := 5) (ref := "StonecutterYard$Stock") (host := "StonecutterYard") (fun w h => (List.mem_cons_of_mem _ (List.mem_append_left _ (List.mem_append_left _ (List.mem_append_right _ h))))) hs.1.1 rfl 4 (by decide) (List.mem_of_getElem? (i := 16) rfl) (fun _ h9 => h9) (v := .int (nI (yF y))) rfl dX1_measure_2 ?_
  refine g_put S hE hI (C := RX1) (T := TX1) (N := 5) (ref := "StonecutterYard$Saw") (fun w h => (List.mem_cons_of_mem _ (List.mem_append_left _ (List.mem_append_right _ h)))) tyX1 tyX1_ok nmX1 hw.1 rfl 4 (by decide) (List.mem_cons_of_mem _ (List.mem_append_left _ (List.mem_append_left _ (List.mem_append_left _ (List.mem_append_left _ (List.mem_of_getElem? (i := 0) rfl)))))) (fun _ h9 => h9) rfl rfl rfl (Nat.le_of_ble_eq_true rfl) dX1_measure_5 (fun H locs hI => ?_)
  have hI : gI K A s (gset G (q, 10, 0) (M 0) (.inr (2, [.ref (M 1), .ref (M 2), .ref (M 3), .ref (M 4), .int (nI (yF y))]))) H locs := hI
  obtain ⟨G_1, hG_1⟩ : ∃ z, z = gset G (q, 10, 0) (M 0) (.inr (2, [.ref (M 1), .ref (M 2), .ref (M 3), .ref (M 4), .int (nI (yF y))])) := ⟨_, rfl⟩
  rw [← hG_1] at hI
  have aW_G_1 : G_1 (q, 10, 1) = some ((M 1), cI K 625 vW) := by rw [hG_1, gset_ne (g_tne hw.2.1 hw.1 (by simp))]; exact hw.2.1
  have aC_G_1 : G_1 (q, 10, 2) = some ((M 2), cI K 625 vC) := by rw [hG_1, gset_ne (g_tne hw.2.2.1 hw.1 (by simp))]; exact hw.2.2.1
  have aT_G_1 : G_1 (q, 10, 3) = some ((M 3), cI K 625 vT) := by rw [hG_1, gset_ne (g_tne hw.2.2.2.1 hw.1 (by simp))]; exact hw.2.2.2.1
  have aN_G_1 : G_1 (q, 10, 4) = some ((M 4), cI K 625 vN) := by rw [hG_1, gset_ne (g_tne hw.2.2.2.2 hw.1 (by simp))]; exact hw.2.2.2.2
  have st_G_1 : G_1 (r, 0, 0) = some ((L 0 0), .inr (4, [.ref (L 1 0), .ref (L 2 0), .int (nI (ySc y)), .int (nI (yKc y)), .int (nI (yF y))])) := by rw [hG_1, gset_ne (fun z9 => hne (congrArg Prod.fst z9))]; exact hs.1.1
  have aS_G_1 : G_1 (r, 1, 0) = some ((L 1 0), cR (K.2.1 2) 44 (fRef 44 (L 3))) := by rw [hG_1, gset_ne (fun z9 => hne (congrArg Prod.fst z9))]; exact hs.1.2.1
  have aK_G_1 : G_1 (r, 2, 0) = some ((L 2 0), cR (K.2.1 3) 6 (fRef 6 (L 5))) := by rw [hG_1, gset_ne (fun z9 => hne (congrArg Prod.fst z9))]; exact hs.1.2.2.1
  have sw_G_1 : G_1 (q, 10, 0) = some ((M 0), .inr (2, [.ref (M 1), .ref (M 2), .ref (M 3), .ref (M 4), .int (nI (yF y))])) := by rw [hG_1]; exact gset_eq _ _ _ _
  refine lv_iconst (v := nI 1) hx hb dX1_measure_8 (by decide) ?_
  refine lv_istore (lv' := [(5, .int (nI 1)), (0, .ref (M 0)), (1, .ref (L 0 0)), (2, .int (nI wd)), (3, .int (nI hd)), (4, .int (nI g))]) hx hb dX1_measure_9 hl (by decide) rfl (fun ls hl => ?_)
  have L11 : ∀ (n : Nat) (w0 : Nat) (W1 C1 T1 : Nat → Int32) (G1 : gW) (H : Heap) (locs : List Loc) (ls : Array Slot) (hn : wd + 1 - w0 < n) (hb1 : 1 ≤ w0 ∧ w0 ≤ wd + 1) (hti : TabI (fun a b => yStone y a b g) (yF y) W1 C1 T1 hd w0 1) (hwi : SawG K q M G1 W1 C1 T1 vN (yF y)) (hai : Ag q G G1), gI K A s G1 H locs → lv_has ls 9 [(0, .ref (M 0)), (1, .ref (L 0 0)), (2, .int (nI wd)), (3, .int (nI hd)), (4, .int (nI g)), (5, .int (nI w0))] → W p l e (gRoom 5 116 0 0) s m ([.ref (M 0), .ref (L 0 0), .int (nI wd), .int (nI hd), .int (nI g)] : List Value).toArray below meth c H locs 0 0 (gEnd K below (fun v G1 => v = none ∧ (∃ W1 C1 T1, SawG K q M G1 W1 C1 T1 vN (yF y) ∧ TabOK (fun a b => yStone y a b g) (yF y) W1 C1 T1 wd hd) ∧ Ag q G G1) (gNo) A ([.ref (M 0), .ref (L 0 0), .int (nI wd), .int (nI hd), .int (nI g)] : List Value).toArray s 0 0) (F0 m 11 ls []) := by
    clear hI hl
    intro n
    induction n with
    | zero =>
      intro w0 W1 C1 T1 G1 H locs ls hn hb1 hti hwi hai hI hl
      exact absurd hn (Nat.not_lt_zero _)
    | succ n ih =>
      intro w0 W1 C1 T1 G1 H locs ls hn hb1 hti hwi hai hI hl
      have hsm : StockG K z r L G1 y := hs.moved (fun t ht => hai t (by rw [ht]; exact hne))
      have g44 := hs.1.2.2.2.1
      have g6 := hs.1.2.2.2.2.1
      have g2 := hs.1.2.2.2.2.2
      refine lv_iload hx hb dX1_measure_11 (lv_at hl 5 rfl) ?_
      refine lv_iload_n hx hb dX1_measure_13 rfl (lv_at hl 2 rfl) ?_
      refine lv_icmp_gt (tgt := 96) hx hb dX1_measure_14 (by decide) (fun c_14 => ?_) (fun c_14 => ?_)
      · skip
        have c_14 : wd < w0 := (nI_ltI (a := wd) (b := w0) (by omega) (by omega)).mp c_14
        exact g_vret S hI hr hlocks (Nat.zero_le _) (Nat.zero_le _) dX1_measure_96 ⟨rfl, ⟨W1, C1, T1, hwi, fun a b ha hb hc hd9 => hti a b ha hb hd9 (by omega)⟩, hai⟩
      · skip
        have c_14 : w0 ≤ wd := Nat.not_lt.mp (fun z => c_14 ((nI_ltI (a := wd) (b := w0) (by omega) (by omega)).mpr z))
        refine lv_iload hx hb dX1_measure_17 (lv_at hl 5 rfl) ?_
        refine lv_bipush (v := nI 24) hx hb dX1_measure_19 (by decide) ?_
        refine lv_icmp_gt (tgt := 96) hx hb dX1_measure_21 (by decide) (fun c_21 => ?_) (fun c_21 => ?_)
        · skip
          have c_21 : 24 < w0 := (nI_ltI (a := 24) (b := w0) (by omega) (by omega)).mp c_21
          exact absurd c_21 (by omega)
        · skip
          have c_21 : w0 ≤ 24 := Nat.not_lt.mp (fun z => c_21 ((nI_ltI (a := 24) (b := w0) (by omega) (by omega)).mpr z))
          refine lv_iconst (v := nI 1) hx hb dX1_measure_24 (by decide) ?_
          refine lv_istore (lv' := [(6, .int (nI 1)), (0, .ref (M 0)), (1, .ref (L 0 0)), (2, .int (nI wd)), (3, .int (nI hd)), (4, .int (nI g)), (5, .int (nI w0))]) hx hb dX1_measure_25 hl (by decide) rfl (fun ls hl => ?_)
          have L27 : ∀ (n : Nat) (h0 : Nat) (W1 C1 T1 : Nat → Int32) (G1 : gW) (H : Heap) (locs : List Loc) (ls : Array Slot) (hn : hd + 1 - h0 < n) (hb2 : 1 ≤ h0 ∧ h0 ≤ hd + 1) (hti : TabI (fun a b => yStone y a b g) (yF y) W1 C1 T1 hd w0 h0) (hwi : SawG K q M G1 W1 C1 T1 vN (yF y)) (hai : Ag q G G1), gI K A s G1 H locs → lv_has ls 9 [(0, .ref (M 0)), (1, .ref (L 0 0)), (2, .int (nI wd)), (3, .int (nI hd)), (4, .int (nI g)), (5, .int (nI w0)), (6, .int (nI h0))] → W p l e (gRoom 5 116 0 0) s m ([.ref (M 0), .ref (L 0 0), .int (nI wd), .int (nI hd), .int (nI g)] : List Value).toArray below meth c H locs 0 0 (gEnd K below (fun v G1 => v = none ∧ (∃ W1 C1 T1, SawG K q M G1 W1 C1 T1 vN (yF y) ∧ TabOK (fun a b => yStone y a b g) (yF y) W1 C1 T1 wd hd) ∧ Ag q G G1) (gNo) A ([.ref (M 0), .ref (L 0 0), .int (nI wd), .int (nI hd), .int (nI g)] : List Value).toArray s 0 0) (F0 m 27 ls []) := by
            clear hI hl
            intro n
            induction n with
            | zero =>
              intro h0 W1 C1 T1 G1 H locs ls hn hb2 hti hwi hai hI hl
              exact absurd hn (Nat.not_lt_zero _)
            | succ n ih27 =>
              intro h0 W1 C1 T1 G1 H locs ls hn hb2 hti hwi hai hI hl
              have hsm : StockG K z r L G1 y := hs.moved (fun t ht => hai t (by rw [ht]; exact hne))
              have g44 := hs.1.2.2.2.1
              have g6 := hs.1.2.2.2.2.1
              have g2 := hs.1.2.2.2.2.2
              refine lv_iload hx hb dX1_measure_27 (lv_at hl 6 rfl) ?_
              refine lv_iload_n hx hb dX1_measure_29 rfl (lv_at hl 3 rfl) ?_
              refine lv_icmp_gt (tgt := 90) hx hb dX1_measure_30 (by decide) (fun c_30 => ?_) (fun c_30 => ?_)
              · skip
                have c_30 : hd < h0 := (nI_ltI (a := hd) (b := h0) (by omega) (by omega)).mp c_30
                refine lv_iinc (v := nI (w0 + 1)) (lv' := [(5, .int (nI (w0 + 1))), (0, .ref (M 0)), (1, .ref (L 0 0)), (2, .int (nI wd)), (3, .int (nI hd)), (4, .int (nI g)), (6, .int (nI h0))]) hx hb dX1_measure_90 hl (k := 5) rfl (nI_add _ 1) (by decide) rfl (fun ls hl => ?_)
                refine lv_goto (tgt := 11) hx hb dX1_measure_93 (by decide) ?_
                exact ih (w0 + 1) W1 C1 T1 G1 H locs ls (by omega) ⟨by omega, by omega⟩ (fun a b ha hb hc hd9 => hti a b ha hb hc (by omega)) hwi hai hI (lv_sub hl [1,2,3,4,5,0] rfl)
              · skip
                have c_30 : h0 ≤ hd := Nat.not_lt.mp (fun z => c_30 ((nI_ltI (a := hd) (b := h0) (by omega) (by omega)).mpr z))
                refine lv_iload hx hb dX1_measure_33 (lv_at hl 6 rfl) ?_
                refine lv_bipush (v := nI 24) hx hb dX1_measure_35 (by decide) ?_
                refine lv_icmp_gt (tgt := 90) hx hb dX1_measure_37 (by decide) (fun c_37 => ?_) (fun c_37 => ?_)
                · skip
                  have c_37 : 24 < h0 := (nI_ltI (a := 24) (b := h0) (by omega) (by omega)).mp c_37
                  exact absurd c_37 (by omega)
                · skip
                  have c_37 : h0 ≤ 24 := Nat.not_lt.mp (fun z => c_37 ((nI_ltI (a := 24) (b := h0) (by omega) (by omega)).mpr z))
                  refine lv_aload_n hx hb dX1_measure_40 rfl (lv_at hl 1 rfl) ?_
                  refine lv_iload hx hb dX1_measure_41 (lv_at hl 5 rfl) ?_
                  refine lv_iload hx hb dX1_measure_43 (lv_at hl 6 rfl) ?_
                  refine lv_iload hx hb dX1_measure_45 (lv_at hl 4 rfl) ?_
                  refine g_callV (As := [.int (nI w0), .int (nI h0), .int (nI g)]) (rest := []) (b := (L 0 0)) (n := 3) S hE hI hA (c_X3_dearestStone l K _ z r L y w0 h0 g hsm ⟨by omega, by omega, hg1⟩) gX1_measure_X3_dearestStone rfl (by decide +kernel) ⟨Nat.le_of_ble_eq_true rfl, Nat.le_of_ble_eq_true rfl⟩ (g_hro hE hI hsm.1.1 rfl) rfl hl.1 rfl (Nat.le_of_ble_eq_true rfl) dX1_measure_47 ⟨Nat.le_of_ble_eq_true rfl, Nat.le_of_ble_eq_true rfl⟩ (fun E ce q9 Gx H1 locs1 hx9 => hx9.elim) (fun rv Gc_47 H locs hp hI => ?_)
                  obtain ⟨rfl, hq9⟩ := hp
                  rw [hq9] at hI
                  refine W.eq (g2 := F0 m 50 ls [.int (oI (yStone y w0 h0 g).1)]) rfl ?_
                  rcases hdd : (yStone y w0 h0 g).1 with _ | j
                  · skip
                    refine W.eq (g2 := F0 m 50 ls [.int (-1)]) rfl ?_
                    refine lv_istore (lv' := [(7, .int (-1)), (0, .ref (M 0)), (1, .ref (L 0 0)), (2, .int (nI wd)), (3, .int (nI hd)), (4, .int (nI g)), (5, .int (nI w0)), (6, .int (nI h0))]) hx hb dX1_measure_50 hl (by decide) rfl (fun ls hl => ?_)
                    refine lv_aload_n hx hb dX1_measure_52 rfl (lv_at hl 2 rfl) ?_
                    refine lv_iload hx hb dX1_measure_53 (lv_at hl 0 rfl) ?_
                    refine g_callV (As := [.int (-1)]) (rest := []) (b := (L 0 0)) (n := 1) S hE hI hA (c_kindOut l K _ r L (ySc y) (yKc y) (yF y) (-1) hsm.1 (fun q9 hq8 => m1_nI (by omega))) gX1_measure_X3_kindOrNull rfl (by decide +kernel) ⟨Nat.le_of_ble_eq_true rfl, Nat.le_of_ble_eq_true rfl⟩ (g_hro hE hI hsm.1.1 rfl) rfl hl.1 rfl (Nat.le_of_ble_eq_true rfl) dX1_measure_55 ⟨Nat.le_of_ble_eq_true rfl, Nat.le_of_ble_eq_true rfl⟩ (fun E ce q9 Gx H1 locs1 hx9 => hx9.elim) (fun rv Gc_55 H locs hp hI => ?_)
                    obtain ⟨rfl, hq9⟩ := hp
                    rw [hq9] at hI
                    have hpr9 : 0 = (yStone y w0 h0 g).2 := (bestN_none hdd).1.symm
                    refine W.eq (g2 := F0 m 58 ls [.null]) rfl ?_
                    refine lv_astoreN (lv' := [(8, .null), (7, .int (-1)), (0, .ref (M 0)), (1, .ref (L 0 0)), (2, .int (nI wd)), (3, .int (nI hd)), (4, .int (nI g)), (5, .int (nI w0)), (6, .int (nI h0))]) hx hb dX1_measure_58 hl (by decide) rfl (fun ls hl => ?_)
                    refine lv_aload_n hx hb dX1_measure_60 rfl (lv_at hl 2 rfl) ?_
                    refine lv_iload hx hb dX1_measure_61 (lv_at hl 7 rfl) ?_
                    refine lv_iload hx hb dX1_measure_63 (lv_at hl 8 rfl) ?_
                    refine lv_iload hx hb dX1_measure_65 (lv_at hl 1 rfl) ?_
                    refine lv_aloadN hx hb dX1_measure_67 (lv_at hl 0 rfl) ?_
                    refine lv_ifnonnullN hx hb dX1_measure_69 ?_
                    refine lv_iconst (v := nI 0) hx hb dX1_measure_72 (by decide) ?_
                    refine lv_goto (tgt := 81) hx hb dX1_measure_73 (by decide) ?_
                    refine g_callV (As := [.int (nI w0), .int (nI h0), .int (-1), .int (nI 0)]) (rest := []) (b := (M 0)) (n := 4) S hE hI hA (c_X1_measurePiece l K _ q M W1 C1 T1 vN (yF y) w0 h0 (-1) 0 (wV (fun a b => yStone y a b g) (yF y)) hwi ⟨⟨by omega, by omega⟩, ⟨by omega, by omega⟩, g2, by omega⟩ (fun a b ha hb hc hd9 => Nat.le_trans (wV_le (yStone_le1 hs g) ha hb (by omega) (by omega)) (by decide)) (fun a b ha hb hc hd9 he => (hti a b ha hb (by omega) (by omega)).1)) gX1_measure_X1_measurePiece rfl (by decide +kernel) ⟨Nat.le_of_ble_eq_true rfl, Nat.le_of_ble_eq_true rfl⟩ (g_hro hE hI hwi.1 rfl) rfl hl.1 rfl (Nat.le_of_ble_eq_true rfl) dX1_measure_81 ⟨Nat.le_of_ble_eq_true rfl, Nat.le_of_ble_eq_true rfl⟩ (fun E ce q9 Gx H1 locs1 hx9 => hx9.elim) (fun rv Gc_81 H locs hp hI => ?_)
                    obtain ⟨rfl, hwn, ha9⟩ := hp
                    have han : Ag q G Gc_81 := hai.tr ha9
                    have htn := hti.step (by omega) (by omega) (by omega) (by omega) (show (-1) = oI (yStone y w0 h0 g).1 by rw [hdd]; rfl) hpr9
                    refine W.eq (g2 := F0 m 84 ls []) rfl ?_
                    refine lv_iinc (v := nI (h0 + 1)) (lv' := [(6, .int (nI (h0 + 1))), (8, .null), (7, .int (-1)), (0, .ref (M 0)), (1, .ref (L 0 0)), (2, .int (nI wd)), (3, .int (nI hd)), (4, .int (nI g)), (5, .int (nI w0))]) hx hb dX1_measure_84 hl (k := 8) rfl (nI_add _ 1) (by decide) rfl (fun ls hl => ?_)
                    refine lv_goto (tgt := 27) hx hb dX1_measure_87 (by decide) ?_
                    exact ih27 (h0 + 1) _ _ _ Gc_81 H locs ls (by omega) ⟨by omega, by omega⟩ htn hwn han hI (lv_sub hl [3,4,5,6,7,8,0] rfl)
                  · skip
                    refine W.eq (g2 := F0 m 50 ls [.int (nI j)]) rfl ?_
                    refine lv_istore (lv' := [(7, .int (nI j)), (0, .ref (M 0)), (1, .ref (L 0 0)), (2, .int (nI wd)), (3, .int (nI hd)), (4, .int (nI g)), (5, .int (nI w0)), (6, .int (nI h0))]) hx hb dX1_measure_50 hl (by decide) rfl (fun ls hl => ?_)
                    refine lv_aload_n hx hb dX1_measure_52 rfl (lv_at hl 2 rfl) ?_
                    refine lv_iload hx hb dX1_measure_53 (lv_at hl 0 rfl) ?_
                    refine g_callV (As := [.int (nI j)]) (rest := []) (b := (L 0 0)) (n := 1) S hE hI hA (c_kindIn l K _ r L (ySc y) (yKc y) (yF y) j hsm.1 (bestN_some hdd).1) gX1_measure_X3_kindOrNull rfl (by decide +kernel) ⟨Nat.le_of_ble_eq_true rfl, Nat.le_of_ble_eq_true rfl⟩ (g_hro hE hI hsm.1.1 rfl) rfl hl.1 rfl (Nat.le_of_ble_eq_true rfl) dX1_measure_55 ⟨Nat.le_of_ble_eq_true rfl, Nat.le_of_ble_eq_true rfl⟩ (fun E ce q9 Gx H1 locs1 hx9 => hx9.elim) (fun rv Gc_55 H locs hp hI => ?_)
                    obtain ⟨rfl, hq9⟩ := hp
                    rw [hq9] at hI
                    obtain ⟨hkd, hkok⟩ := hsm.kind (bestN_some hdd).1
                    have hkok9 := hkok
                    obtain ⟨k1, k2, k3, k4, k5, k6, k7, k8, k9⟩ := hkok9
                    have hpr9 : kP (yK y j) = (yStone y w0 h0 g).2 := (bestN_some hdd).2.2.symm
                    refine W.eq (g2 := F0 m 58 ls [.ref (L 5 j)]) rfl ?_
                    refine lv_astore (lv' := [(8, .ref (L 5 j)), (7, .int (nI j)), (0, .ref (M 0)), (1, .ref (L 0 0)), (2, .int (nI wd)), (3, .int (nI hd)), (4, .int (nI g)), (5, .int (nI w0)), (6, .int (nI h0))]) hx hb dX1_measure_58 hl (by decide) rfl (fun ls hl => ?_)
                    refine lv_aload_n hx hb dX1_measure_60 rfl (lv_at hl 2 rfl) ?_
                    refine lv_iload hx hb dX1_measure_61 (lv_at hl 7 rfl) ?_
                    refine lv_iload hx hb dX1_measure_63 (lv_at hl 8 rfl) ?_
                    refine lv_iload hx hb dX1_measure_65 (lv_at hl 1 rfl) ?_
                    refine lv_aload hx hb dX1_measure_67 (lv_at hl 0 rfl) ?_
                    refine lv_ifnonnull (tgt := 76) hx hb dX1_measure_69 (by decide) ?_
                    refine lv_aload hx hb dX1_measure_76 (lv_at hl 0 rfl) ?_
                    refine g_getN S hE hI (C := RX0) (T := TX0) (N := 8) (ref := "StonecutterYard$Kind") (host := "StonecutterYard") (fun w h => (List.mem_cons_of_mem _ (List.mem_append_right _ h))) hkd rfl 4 (by decide) (List.mem_of_getElem? (i := 17) rfl) (fun _ h9 => h9) (v := .int (nI (kP (yK y j)))) rfl dX1_measure_78 ?_
                    refine g_callV (As := [.int (nI w0), .int (nI h0), .int (nI j), .int (nI (kP (yK y j)))]) (rest := []) (b := (M 0)) (n := 4) S hE hI hA (c_X1_measurePiece l K _ q M W1 C1 T1 vN (yF y) w0 h0 (nI j) (kP (yK y j)) (wV (fun a b => yStone y a b g) (yF y)) hwi ⟨⟨by omega, by omega⟩, ⟨by omega, by omega⟩, g2, by omega⟩ (fun a b ha hb hc hd9 => Nat.le_trans (wV_le (yStone_le1 hs g) ha hb (by omega) (by omega)) (by decide)) (fun a b ha hb hc hd9 he => (hti a b ha hb (by omega) (by omega)).1)) gX1_measure_X1_measurePiece rfl (by decide +kernel) ⟨Nat.le_of_ble_eq_true rfl, Nat.le_of_ble_eq_true rfl⟩ (g_hro hE hI hwi.1 rfl) rfl hl.1 rfl (Nat.le_of_ble_eq_true rfl) dX1_measure_81 ⟨Nat.le_of_ble_eq_true rfl, Nat.le_of_ble_eq_true rfl⟩ (fun E ce q9 Gx H1 locs1 hx9 => hx9.elim) (fun rv Gc_81 H locs hp hI => ?_)
                    obtain ⟨rfl, hwn, ha9⟩ := hp
                    have han : Ag q G Gc_81 := hai.tr ha9
                    have htn := hti.step (by omega) (by omega) (by omega) (by omega) (show (nI j) = oI (yStone y w0 h0 g).1 by rw [hdd]; rfl) hpr9
                    refine W.eq (g2 := F0 m 84 ls []) rfl ?_
                    refine lv_iinc (v := nI (h0 + 1)) (lv' := [(6, .int (nI (h0 + 1))), (8, .ref (L 5 j)), (7, .int (nI j)), (0, .ref (M 0)), (1, .ref (L 0 0)), (2, .int (nI wd)), (3, .int (nI hd)), (4, .int (nI g)), (5, .int (nI w0))]) hx hb dX1_measure_84 hl (k := 8) rfl (nI_add _ 1) (by decide) rfl (fun ls hl => ?_)
                    refine lv_goto (tgt := 27) hx hb dX1_measure_87 (by decide) ?_
                    exact ih27 (h0 + 1) _ _ _ Gc_81 H locs ls (by omega) ⟨by omega, by omega⟩ htn hwn han hI (lv_sub hl [3,4,5,6,7,8,0] rfl)
          exact L27 _ 1 W1 C1 T1 G1 H locs ls (Nat.lt_succ_self _) ⟨Nat.le_refl _, by omega⟩ (fun a b ha hb hc hd9 => hti a b ha hb hc (by omega)) hwi hai hI (lv_sub hl [1,2,3,4,5,6,0] rfl)
  exact L11 _ 1 vW vC vT G_1 H locs ls (Nat.lt_succ_self _) ⟨Nat.le_refl _, by omega⟩ (fun a b ha hb hc hd9 => by omega) (by rw [hG_1]; exact ⟨gset_eq _ _ _ _, (gset_ne (by simp)).trans hw.2.1, (gset_ne (by simp)).trans hw.2.2.1, (gset_ne (by simp)).trans hw.2.2.2.1, (gset_ne (by simp)).trans hw.2.2.2.2⟩) (by rw [hG_1]; exact Ag.rf.st) hI (lv_sub hl [1,2,3,4,5,0] rfl)
set_option maxHeartbeats 4000000 in
set_option maxRecDepth 100000 in
/-- Saw.countStones(wide, high, kind) -/
theorem c_X1_countStones (l : Launch) (K : gK) (G : gW) (q : Nat) (M : Nat → Nat) (vW vC vT vN : Nat → Int32) (kf : Nat) (st0 : stT) (wd hd j : Nat) (hw : SawG K q M G vW vC vT vN kf) (hok : TabOK st0 kf vW vC vT wd hd) (hst9 : ∀ a b n, (st0 a b).1 = some n → n < 2 ^ 31) (hwh : (1 ≤ wd ∧ wd ≤ 24) ∧ (1 ≤ hd ∧ hd ≤ 24) ∧ kf ≤ 2 ∧ j < 1000) : gM l yX1_countStones wsX1_countStones 5 110 0 0 K [.ref (M 0), .int (nI wd), .int (nI hd), .int (nI j)] G (fun v G1 => v = some (.int (nI (nV st0 kf j wd hd))) ∧ (∃ N1, SawG K q M G1 vW vC vT N1 kf) ∧ Ag q G G1) (gNo) := by
  refine gM.of (cc := cX1_countStones) (maxL := 6) (ret := (some .int)) (by decide) rfl (Nat.le_of_ble_eq_true rfl) ?_
  intro p e s m below meth c A S hr hlocks htab hname hE hA hI ls hl
  have hx := S.1
  have hb := S.2.1
  have hml := S.2.2.1
  have hl : lv_has ls 6 [(0, .ref (M 0)), (1, .int (nI wd)), (2, .int (nI hd)), (3, .int (nI j))] := hl
  obtain ⟨⟨hwd1, hwd⟩, ⟨hhd1, hhd⟩, hkf, hj9⟩ := hwh
  obtain ⟨H, hHe⟩ : ∃ z, z = s.heap := ⟨_, rfl⟩
  obtain ⟨locs, hLe⟩ : ∃ z : List Loc, z = [] := ⟨_, rfl⟩
  rw [← hHe, ← hLe]
  have hI : gI K A s G H locs := by rw [hHe, hLe]; exact hI
  clear hHe hLe
  refine lv_iconst (v := nI 1) hx hb dX1_countStones_0 (by decide) ?_
  refine lv_istore (lv' := [(4, .int (nI 1)), (0, .ref (M 0)), (1, .int (nI wd)), (2, .int (nI hd)), (3, .int (nI j))]) hx hb dX1_countStones_1 hl (by decide) rfl (fun ls hl => ?_)
  have L3 : ∀ (n : Nat) (w0 : Nat) (N1 : Nat → Int32) (G1 : gW) (H : Heap) (locs : List Loc) (ls : Array Slot) (hn : wd + 1 - w0 < n) (hb1 : 1 ≤ w0 ∧ w0 ≤ wd + 1) (hni : NumI st0 kf j N1 hd w0 1) (hwi : SawG K q M G1 vW vC vT N1 kf) (hai : Ag q G G1), gI K A s G1 H locs → lv_has ls 6 [(0, .ref (M 0)), (1, .int (nI wd)), (2, .int (nI hd)), (3, .int (nI j)), (4, .int (nI w0))] → W p l e (gRoom 5 110 0 0) s m ([.ref (M 0), .int (nI wd), .int (nI hd), .int (nI j)] : List Value).toArray below meth c H locs 0 0 (gEnd K below (fun v G1 => v = some (.int (nI (nV st0 kf j wd hd))) ∧ (∃ N1, SawG K q M G1 vW vC vT N1 kf) ∧ Ag q G G1) (gNo) A ([.ref (M 0), .int (nI wd), .int (nI hd), .int (nI j)] : List Value).toArray s 0 0) (F0 m 3 ls []) := by
    clear hI hl
    intro n
    induction n with
    | zero =>
      intro w0 N1 G1 H locs ls hn hb1 hni hwi hai hI hl
      exact absurd hn (Nat.not_lt_zero _)
    | succ n ih =>
      intro w0 N1 G1 H locs ls hn hb1 hni hwi hai hI hl
      refine lv_iload hx hb dX1_countStones_3 (lv_at hl 4 rfl) ?_
      refine lv_iload_n hx hb dX1_countStones_5 rfl (lv_at hl 1 rfl) ?_
      refine lv_icmp_gt (tgt := 64) hx hb dX1_countStones_6 (by decide) (fun c_6 => ?_) (fun c_6 => ?_)
      · skip
        have c_6 : wd < w0 := (nI_ltI (a := wd) (b := w0) (by omega) (by omega)).mp c_6
        refine lv_aload_n hx hb dX1_countStones_64 rfl (lv_at hl 0 rfl) ?_
        refine g_get S hE hI (C := RX1) (T := TX1) (N := 5) (ref := "StonecutterYard$Saw") (fun w h => (List.mem_cons_of_mem _ (List.mem_append_right _ h))) hwi.1 rfl 3 (by decide) (List.mem_cons_of_mem _ (List.mem_append_left _ (List.mem_of_getElem? (i := 0) rfl))) (fun _ h9 => h9) (v := .ref (M 4)) rfl dX1_countStones_65 ?_
        refine lv_iload_n hx hb dX1_countStones_68 rfl (lv_at hl 1 rfl) ?_
        refine lv_iload_n hx hb dX1_countStones_69 rfl (lv_at hl 2 rfl) ?_
        refine g_callS (As := [.ref (M 4), .int (nI wd), .int (nI hd)]) (rest := []) (n := 3) S hE hI hA (c_X1_read l K _ (q, 10, 4) (M 4) N1 wd hd hwi.2.2.2.2 ⟨hwd, hhd⟩) gX1_countStones_X1_read rfl (by decide +kernel) ⟨Nat.le_of_ble_eq_true rfl, Nat.le_of_ble_eq_true rfl⟩ rfl hl.1 rfl (Nat.le_of_ble_eq_true rfl) dX1_countStones_70 ⟨Nat.le_of_ble_eq_true rfl, Nat.le_of_ble_eq_true rfl⟩ (fun E ce q9 Gx H1 locs1 hx9 => hx9.elim) (fun rv Gc_70 H locs hp hI => ?_)
        obtain ⟨rfl, hq9⟩ := hp
        rw [hq9] at hI
        rw [hni wd hd hwd1 hhd1 (Nat.le_refl _) (by omega)]
        refine W.eq (g2 := F0 m 73 ls [.int (nI (nV st0 kf j wd hd))]) rfl ?_
        exact g_iret S hI hr hlocks (Nat.zero_le _) (Nat.zero_le _) dX1_countStones_73 ⟨rfl, ⟨N1, hwi⟩, hai⟩
      · skip
        have c_6 : w0 ≤ wd := Nat.not_lt.mp (fun z => c_6 ((nI_ltI (a := wd) (b := w0) (by omega) (by omega)).mpr z))
        refine lv_iload hx hb dX1_countStones_9 (lv_at hl 4 rfl) ?_
        refine lv_bipush (v := nI 24) hx hb dX1_countStones_11 (by decide) ?_
        refine lv_icmp_gt (tgt := 64) hx hb dX1_countStones_13 (by decide) (fun c_13 => ?_) (fun c_13 => ?_)
        · skip
          have c_13 : 24 < w0 := (nI_ltI (a := 24) (b := w0) (by omega) (by omega)).mp c_13
          exact absurd c_13 (by omega)
        · skip
          have c_13 : w0 ≤ 24 := Nat.not_lt.mp (fun z => c_13 ((nI_ltI (a := 24) (b := w0) (by omega) (by omega)).mpr z))
          refine lv_iconst (v := nI 1) hx hb dX1_countStones_16 (by decide) ?_
          refine lv_istore (lv' := [(5, .int (nI 1)), (0, .ref (M 0)), (1, .int (nI wd)), (2, .int (nI hd)), (3, .int (nI j)), (4, .int (nI w0))]) hx hb dX1_countStones_17 hl (by decide) rfl (fun ls hl => ?_)
          have L19 : ∀ (n : Nat) (h0 : Nat) (N1 : Nat → Int32) (G1 : gW) (H : Heap) (locs : List Loc) (ls : Array Slot) (hn : hd + 1 - h0 < n) (hb2 : 1 ≤ h0 ∧ h0 ≤ hd + 1) (hni : NumI st0 kf j N1 hd w0 h0) (hwi : SawG K q M G1 vW vC vT N1 kf) (hai : Ag q G G1), gI K A s G1 H locs → lv_has ls 6 [(0, .ref (M 0)), (1, .int (nI wd)), (2, .int (nI hd)), (3, .int (nI j)), (4, .int (nI w0)), (5, .int (nI h0))] → W p l e (gRoom 5 110 0 0) s m ([.ref (M 0), .int (nI wd), .int (nI hd), .int (nI j)] : List Value).toArray below meth c H locs 0 0 (gEnd K below (fun v G1 => v = some (.int (nI (nV st0 kf j wd hd))) ∧ (∃ N1, SawG K q M G1 vW vC vT N1 kf) ∧ Ag q G G1) (gNo) A ([.ref (M 0), .int (nI wd), .int (nI hd), .int (nI j)] : List Value).toArray s 0 0) (F0 m 19 ls []) := by
            clear hI hl
            intro n
            induction n with
            | zero =>
              intro h0 N1 G1 H locs ls hn hb2 hni hwi hai hI hl
              exact absurd hn (Nat.not_lt_zero _)
            | succ n ih19 =>
              intro h0 N1 G1 H locs ls hn hb2 hni hwi hai hI hl
              refine lv_iload hx hb dX1_countStones_19 (lv_at hl 5 rfl) ?_
              refine lv_iload_n hx hb dX1_countStones_21 rfl (lv_at hl 2 rfl) ?_
              refine lv_icmp_gt (tgt := 58) hx hb dX1_countStones_22 (by decide) (fun c_22 => ?_) (fun c_22 => ?_)
              · skip
                have c_22 : hd < h0 := (nI_ltI (a := hd) (b := h0) (by omega) (by omega)).mp c_22
                refine lv_iinc (v := nI (w0 + 1)) (lv' := [(4, .int (nI (w0 + 1))), (0, .ref (M 0)), (1, .int (nI wd)), (2, .int (nI hd)), (3, .int (nI j)), (5, .int (nI h0))]) hx hb dX1_countStones_58 hl (k := 4) rfl (nI_add _ 1) (by decide) rfl (fun ls hl => ?_)
                refine lv_goto (tgt := 3) hx hb dX1_countStones_61 (by decide) ?_
                exact ih (w0 + 1) N1 G1 H locs ls (by omega) ⟨by omega, by omega⟩ (fun a b ha hb hc hd9 => hni a b ha hb hc (by omega)) hwi hai hI (lv_sub hl [1,2,3,4,0] rfl)
              · skip
                have c_22 : h0 ≤ hd := Nat.not_lt.mp (fun z => c_22 ((nI_ltI (a := hd) (b := h0) (by omega) (by omega)).mpr z))
                refine lv_iload hx hb dX1_countStones_25 (lv_at hl 5 rfl) ?_
                refine lv_bipush (v := nI 24) hx hb dX1_countStones_27 (by decide) ?_
                refine lv_icmp_gt (tgt := 58) hx hb dX1_countStones_29 (by decide) (fun c_29 => ?_) (fun c_29 => ?_)
                · skip
                  have c_29 : 24 < h0 := (nI_ltI (a := 24) (b := h0) (by omega) (by omega)).mp c_29
                  exact absurd c_29 (by omega)
                · skip
                  have c_29 : h0 ≤ 24 := Nat.not_lt.mp (fun z => c_29 ((nI_ltI (a := 24) (b := h0) (by omega) (by omega)).mpr z))
                  have hcell := hok w0 h0 (by omega) (by omega) (by omega) (by omega)
                  refine lv_aload_n hx hb dX1_countStones_32 rfl (lv_at hl 0 rfl) ?_
                  refine g_get S hE hI (C := RX1) (T := TX1) (N := 5) (ref := "StonecutterYard$Saw") (fun w h => (List.mem_cons_of_mem _ (List.mem_append_right _ h))) hwi.1 rfl 3 (by decide) (List.mem_cons_of_mem _ (List.mem_append_left _ (List.mem_of_getElem? (i := 0) rfl))) (fun _ h9 => h9) (v := .ref (M 4)) rfl dX1_countStones_33 ?_
                  refine lv_iload hx hb dX1_countStones_36 (lv_at hl 4 rfl) ?_
                  refine lv_iload hx hb dX1_countStones_38 (lv_at hl 5 rfl) ?_
                  refine lv_aload_n hx hb dX1_countStones_40 rfl (lv_at hl 0 rfl) ?_
                  refine lv_iload hx hb dX1_countStones_41 (lv_at hl 4 rfl) ?_
                  refine lv_iload hx hb dX1_countStones_43 (lv_at hl 5 rfl) ?_
                  refine lv_iload_n hx hb dX1_countStones_45 rfl (lv_at hl 3 rfl) ?_
                  rcases qV_in (st := st0) (kf := kf) (w := w0) (h := h0) with e9 | ⟨k, e1, e2, e9⟩ | ⟨k, e1, e2, e9⟩
                  · skip
                    refine g_callV (As := [.int (nI w0), .int (nI h0), .int (nI j)]) (rest := [.int (nI h0), .int (nI w0), .ref (M 4)]) (b := (M 0)) (n := 3) S hE hI hA (c_cntNo l K _ q M vW vC vT N1 kf w0 h0 j 0 hwi ⟨⟨by omega, by omega⟩, ⟨by omega, by omega⟩, by omega, by omega⟩ (by rw [hcell.2.1, e9]; rfl)) gX1_countStones_X1_countInPiece rfl (by decide +kernel) ⟨Nat.le_of_ble_eq_true rfl, Nat.le_of_ble_eq_true rfl⟩ (g_hro hE hI hwi.1 rfl) rfl hl.1 rfl (Nat.le_of_ble_eq_true rfl) dX1_countStones_46 ⟨Nat.le_of_ble_eq_true rfl, Nat.le_of_ble_eq_true rfl⟩ (fun E ce q9 Gx H1 locs1 hx9 => hx9.elim) (fun rv Gc_46 H locs hp hI => ?_)
                    obtain ⟨rfl, hq9⟩ := hp
                    rw [hq9] at hI
                    rw [nV_no (by omega) hcell.2.2 e9 (hst9 w0 h0) (by omega)]
                    refine W.eq (g2 := F0 m 49 ls [.int (nI (nV st0 kf j w0 h0)), .int (nI h0), .int (nI w0), .ref (M 4)]) rfl ?_
                    refine g_callS (As := [.ref (M 4), .int (nI w0), .int (nI h0), .int (nI (nV st0 kf j w0 h0))]) (rest := []) (n := 4) S hE hI hA (c_X1_write l K _ (q, 10, 4) (M 4) N1 w0 h0 (nI (nV st0 kf j w0 h0)) hwi.2.2.2.2 ⟨by omega, by omega⟩) gX1_countStones_X1_write rfl (by decide +kernel) ⟨Nat.le_of_ble_eq_true rfl, Nat.le_of_ble_eq_true rfl⟩ rfl hl.1 rfl (Nat.le_of_ble_eq_true rfl) dX1_countStones_49 ⟨Nat.le_of_ble_eq_true rfl, Nat.le_of_ble_eq_true rfl⟩ (fun E ce q9 Gx H1 locs1 hx9 => hx9.elim) (fun rv Gc_49 H locs hp hI => ?_)
                    obtain ⟨rfl, hGc⟩ := hp
                    have hwn : SawG K q M Gc_49 vW vC vT (upd N1 (w0 * 25 + h0) (nI (nV st0 kf j w0 h0))) kf := by rw [hGc]; exact ⟨(gset_ne (by simp)).trans hwi.1, (gset_ne (by simp)).trans hwi.2.1, (gset_ne (by simp)).trans hwi.2.2.1, (gset_ne (by simp)).trans hwi.2.2.2.1, gset_eq _ _ _ _⟩
                    have han : Ag q G Gc_49 := by rw [hGc]; exact hai.st
                    have hnn := hni.step (by omega : h0 ≤ hd) (by omega)
                    refine W.eq (g2 := F0 m 52 ls []) rfl ?_
                    refine lv_iinc (v := nI (h0 + 1)) (lv' := [(5, .int (nI (h0 + 1))), (0, .ref (M 0)), (1, .int (nI wd)), (2, .int (nI hd)), (3, .int (nI j)), (4, .int (nI w0))]) hx hb dX1_countStones_52 hl (k := 5) rfl (nI_add _ 1) (by decide) rfl (fun ls hl => ?_)
                    refine lv_goto (tgt := 19) hx hb dX1_countStones_55 (by decide) ?_
                    exact ih19 (h0 + 1) _ Gc_49 H locs ls (by omega) ⟨by omega, by omega⟩ hnn hwn han hI (lv_sub hl [1,2,3,4,5,0] rfl)
                  · skip
                    refine g_callV (As := [.int (nI w0), .int (nI h0), .int (nI j)]) (rest := [.int (nI h0), .int (nI w0), .ref (M 4)]) (b := (M 0)) (n := 3) S hE hI hA (c_cntV l K _ q M vW vC vT N1 kf w0 h0 j k hwi ⟨⟨by omega, by omega⟩, ⟨by omega, by omega⟩, by omega, by omega⟩ (by rw [hcell.2.1, e9]; rfl) ⟨e1, e2⟩) gX1_countStones_X1_countInPiece rfl (by decide +kernel) ⟨Nat.le_of_ble_eq_true rfl, Nat.le_of_ble_eq_true rfl⟩ (g_hro hE hI hwi.1 rfl) rfl hl.1 rfl (Nat.le_of_ble_eq_true rfl) dX1_countStones_46 ⟨Nat.le_of_ble_eq_true rfl, Nat.le_of_ble_eq_true rfl⟩ (fun E ce q9 Gx H1 locs1 hx9 => hx9.elim) (fun rv Gc_46 H locs hp hI => ?_)
                    obtain ⟨rfl, hq9⟩ := hp
                    rw [hq9] at hI
                    rw [hni k h0 e1 (by omega) (by omega) (by omega), hni (w0 - kf - k) h0 (by omega) (by omega) (by omega) (by omega), nI_add, ← nV_v (by omega) (by omega) e1 e2 e9]
                    refine W.eq (g2 := F0 m 49 ls [.int (nI (nV st0 kf j w0 h0)), .int (nI h0), .int (nI w0), .ref (M 4)]) rfl ?_
                    refine g_callS (As := [.ref (M 4), .int (nI w0), .int (nI h0), .int (nI (nV st0 kf j w0 h0))]) (rest := []) (n := 4) S hE hI hA (c_X1_write l K _ (q, 10, 4) (M 4) N1 w0 h0 (nI (nV st0 kf j w0 h0)) hwi.2.2.2.2 ⟨by omega, by omega⟩) gX1_countStones_X1_write rfl (by decide +kernel) ⟨Nat.le_of_ble_eq_true rfl, Nat.le_of_ble_eq_true rfl⟩ rfl hl.1 rfl (Nat.le_of_ble_eq_true rfl) dX1_countStones_49 ⟨Nat.le_of_ble_eq_true rfl, Nat.le_of_ble_eq_true rfl⟩ (fun E ce q9 Gx H1 locs1 hx9 => hx9.elim) (fun rv Gc_49 H locs hp hI => ?_)
                    obtain ⟨rfl, hGc⟩ := hp
                    have hwn : SawG K q M Gc_49 vW vC vT (upd N1 (w0 * 25 + h0) (nI (nV st0 kf j w0 h0))) kf := by rw [hGc]; exact ⟨(gset_ne (by simp)).trans hwi.1, (gset_ne (by simp)).trans hwi.2.1, (gset_ne (by simp)).trans hwi.2.2.1, (gset_ne (by simp)).trans hwi.2.2.2.1, gset_eq _ _ _ _⟩
                    have han : Ag q G Gc_49 := by rw [hGc]; exact hai.st
                    have hnn := hni.step (by omega : h0 ≤ hd) (by omega)
                    refine W.eq (g2 := F0 m 52 ls []) rfl ?_
                    refine lv_iinc (v := nI (h0 + 1)) (lv' := [(5, .int (nI (h0 + 1))), (0, .ref (M 0)), (1, .int (nI wd)), (2, .int (nI hd)), (3, .int (nI j)), (4, .int (nI w0))]) hx hb dX1_countStones_52 hl (k := 5) rfl (nI_add _ 1) (by decide) rfl (fun ls hl => ?_)
                    refine lv_goto (tgt := 19) hx hb dX1_countStones_55 (by decide) ?_
                    exact ih19 (h0 + 1) _ Gc_49 H locs ls (by omega) ⟨by omega, by omega⟩ hnn hwn han hI (lv_sub hl [1,2,3,4,5,0] rfl)
                  · skip
                    refine g_callV (As := [.int (nI w0), .int (nI h0), .int (nI j)]) (rest := [.int (nI h0), .int (nI w0), .ref (M 4)]) (b := (M 0)) (n := 3) S hE hI hA (c_cntH l K _ q M vW vC vT N1 kf w0 h0 j k hwi ⟨⟨by omega, by omega⟩, ⟨by omega, by omega⟩, by omega, by omega⟩ (by rw [hcell.2.1, e9]; rfl) ⟨e1, e2⟩) gX1_countStones_X1_countInPiece rfl (by decide +kernel) ⟨Nat.le_of_ble_eq_true rfl, Nat.le_of_ble_eq_true rfl⟩ (g_hro hE hI hwi.1 rfl) rfl hl.1 rfl (Nat.le_of_ble_eq_true rfl) dX1_countStones_46 ⟨Nat.le_of_ble_eq_true rfl, Nat.le_of_ble_eq_true rfl⟩ (fun E ce q9 Gx H1 locs1 hx9 => hx9.elim) (fun rv Gc_46 H locs hp hI => ?_)
                    obtain ⟨rfl, hq9⟩ := hp
                    rw [hq9] at hI
                    rw [hni w0 k (by omega) e1 (by omega) (by omega), hni w0 (h0 - kf - k) (by omega) (by omega) (by omega) (by omega), nI_add, ← nV_h (by omega) (by omega) e1 e2 e9]
                    refine W.eq (g2 := F0 m 49 ls [.int (nI (nV st0 kf j w0 h0)), .int (nI h0), .int (nI w0), .ref (M 4)]) rfl ?_
                    refine g_callS (As := [.ref (M 4), .int (nI w0), .int (nI h0), .int (nI (nV st0 kf j w0 h0))]) (rest := []) (n := 4) S hE hI hA (c_X1_write l K _ (q, 10, 4) (M 4) N1 w0 h0 (nI (nV st0 kf j w0 h0)) hwi.2.2.2.2 ⟨by omega, by omega⟩) gX1_countStones_X1_write rfl (by decide +kernel) ⟨Nat.le_of_ble_eq_true rfl, Nat.le_of_ble_eq_true rfl⟩ rfl hl.1 rfl (Nat.le_of_ble_eq_true rfl) dX1_countStones_49 ⟨Nat.le_of_ble_eq_true rfl, Nat.le_of_ble_eq_true rfl⟩ (fun E ce q9 Gx H1 locs1 hx9 => hx9.elim) (fun rv Gc_49 H locs hp hI => ?_)
                    obtain ⟨rfl, hGc⟩ := hp
                    have hwn : SawG K q M Gc_49 vW vC vT (upd N1 (w0 * 25 + h0) (nI (nV st0 kf j w0 h0))) kf := by rw [hGc]; exact ⟨(gset_ne (by simp)).trans hwi.1, (gset_ne (by simp)).trans hwi.2.1, (gset_ne (by simp)).trans hwi.2.2.1, (gset_ne (by simp)).trans hwi.2.2.2.1, gset_eq _ _ _ _⟩
                    have han : Ag q G Gc_49 := by rw [hGc]; exact hai.st
                    have hnn := hni.step (by omega : h0 ≤ hd) (by omega)
                    refine W.eq (g2 := F0 m 52 ls []) rfl ?_
                    refine lv_iinc (v := nI (h0 + 1)) (lv' := [(5, .int (nI (h0 + 1))), (0, .ref (M 0)), (1, .int (nI wd)), (2, .int (nI hd)), (3, .int (nI j)), (4, .int (nI w0))]) hx hb dX1_countStones_52 hl (k := 5) rfl (nI_add _ 1) (by decide) rfl (fun ls hl => ?_)
                    refine lv_goto (tgt := 19) hx hb dX1_countStones_55 (by decide) ?_
                    exact ih19 (h0 + 1) _ Gc_49 H locs ls (by omega) ⟨by omega, by omega⟩ hnn hwn han hI (lv_sub hl [1,2,3,4,5,0] rfl)
          exact L19 _ 1 N1 G1 H locs ls (Nat.lt_succ_self _) ⟨Nat.le_refl _, by omega⟩ (fun a b ha hb hc hd9 => hni a b ha hb hc (by omega)) hwi hai hI (lv_sub hl [1,2,3,4,5,0] rfl)
  exact L3 _ 1 vN G H locs ls (Nat.lt_succ_self _) ⟨Nat.le_refl _, by omega⟩ (fun a b ha hb hc hd9 => by omega) hw Ag.rf hI (lv_sub hl [1,2,3,4,0] rfl)
set_option maxHeartbeats 4000000 in
set_option maxRecDepth 100000 in
/-- Saw() -/
theorem c_X1_init (l : Launch) (K : gK) (G : gW) (q h0 : Nat) (hg : G (q, 10, 0) = some (h0, .inr (2, [.null, .null, .null, .null, .int (nI 0)]))) : gM l yX1_init wsX1_init 2 40 4 2500 K [.ref h0] G (fun v G1 => v = none ∧ (∃ M, M 0 = h0 ∧ SawG K q M G1 (fun _ => 0) (fun _ => 0) (fun _ => 0) (fun _ => 0) 0) ∧ Ag q G G1) (gNo) := by
  refine gM.of (cc := cX1_init) (maxL := 1) (ret := none) (by decide) rfl (Nat.le_of_ble_eq_true rfl) ?_
  intro p e s m below meth c A S hr hlocks htab hname hE hA hI ls hl
  have hx := S.1
  have hb := S.2.1
  have hml := S.2.2.1
  have hl : lv_has ls 1 [(0, .ref h0)] := hl
  obtain ⟨H, hHe⟩ : ∃ z, z = s.heap := ⟨_, rfl⟩
  obtain ⟨locs, hLe⟩ : ∃ z : List Loc, z = [] := ⟨_, rfl⟩
  rw [← hHe, ← hLe]
  have hI : gI K A s G H locs := by rw [hHe, hLe]; exact hI
  clear hHe hLe
  refine lv_aload_n hx hb dX1_init_0 rfl (lv_at hl 0 rfl) ?_
  refine W.objInit hx hb S.2.2.2.1 (S.2.2.2.2 _ (List.mem_cons_of_mem _ (List.mem_append_left _ (List.mem_of_getElem? (i := 0) rfl)))) (S.2.2.2.2 _ (List.mem_cons_of_mem _ (List.mem_append_left _ (List.mem_of_getElem? (i := 1) rfl)))) (S.2.2.2.2 _ (List.mem_cons_of_mem _ (List.mem_append_left _ (List.mem_of_getElem? (i := 2) rfl)))) rfl (by rw [hml]; exact hl.1) rfl dX1_init_1 (Nat.le_of_ble_eq_true rfl) (Nat.le_of_ble_eq_true rfl) ?_
  refine W.eq (g2 := F0 m 4 ls []) rfl ?_
  refine lv_aload_n hx hb dX1_init_4 rfl (lv_at hl 0 rfl) ?_
  refine lv_sipush (v := nI 625) hx hb dX1_init_5 (by decide) ?_
  refine g_newI S hE hI hA (List.mem_cons_of_mem _ (List.mem_append_left _ (List.mem_of_getElem? (i := 3) rfl))) (N' := 625) rfl (by omega) (q, 10, 1) (by show _ ≤ 4; omega) (by show _ ≤ 2500; omega) dX1_init_8 (fun q_8 H hq_8 hI => ?_)
  obtain ⟨G_1, hG_1⟩ : ∃ z, z = gset G (q, 10, 1) q_8 (.inl (K.2.1 0, 625, .inl (fun _ => 0))) := ⟨_, rfl⟩
  have hI : gI K A s G_1 H locs := by rw [hG_1]; exact hI
  have o_G_1 : G_1 (q, 10, 0) = some (h0, .inr (2, [.null, .null, .null, .null, .int (nI 0)])) := by rw [hG_1, gset_ne (by simp)]; exact hg
  have a1_G_1 : G_1 (q, 10, 1) = some (q_8, .inl (K.2.1 0, 625, .inl (fun _ => 0))) := by rw [hG_1]; exact gset_eq _ _ _ _
  refine g_putF S hE hI (C := RX1) (T := TX1) (N := 5) (ref := "StonecutterYard$Saw") (fun w h => (List.mem_cons_of_mem _ (List.mem_append_right _ h))) tyX1 tyX1_ok nmX1 o_G_1 rfl 0 (by decide) (List.mem_cons_of_mem _ (List.mem_append_left _ (List.mem_of_getElem? (i := 4) rfl))) (fun _ h9 => h9) rfl hname rfl rfl rfl (Nat.le_of_ble_eq_true rfl) dX1_init_10 (fun H locs hI => ?_)
  have hI : gI K A s (gset G_1 (q, 10, 0) h0 (.inr (2, [.ref q_8, .null, .null, .null, .int (nI 0)]))) H locs := hI
  obtain ⟨G_2, hG_2⟩ : ∃ z, z = gset G_1 (q, 10, 0) h0 (.inr (2, [.ref q_8, .null, .null, .null, .int (nI 0)])) := ⟨_, rfl⟩
  rw [← hG_2] at hI
  have a1_G_2 : G_2 (q, 10, 1) = some (q_8, .inl (K.2.1 0, 625, .inl (fun _ => 0))) := by rw [hG_2, gset_ne (g_tne a1_G_1 o_G_1 (by simp))]; exact a1_G_1
  have o_G_2 : G_2 (q, 10, 0) = some (h0, .inr (2, [.ref q_8, .null, .null, .null, .int (nI 0)])) := by rw [hG_2]; exact gset_eq _ _ _ _
  refine lv_aload_n hx hb dX1_init_13 rfl (lv_at hl 0 rfl) ?_
  refine lv_sipush (v := nI 625) hx hb dX1_init_14 (by decide) ?_
  refine g_newI S hE hI hA (List.mem_cons_of_mem _ (List.mem_append_left _ (List.mem_of_getElem? (i := 3) rfl))) (N' := 625) rfl (by omega) (q, 10, 2) (by show _ ≤ 4; omega) (by show _ ≤ 2500; omega) dX1_init_17 (fun q_17 H hq_17 hI => ?_)
  obtain ⟨G_3, hG_3⟩ : ∃ z, z = gset G_2 (q, 10, 2) q_17 (.inl (K.2.1 0, 625, .inl (fun _ => 0))) := ⟨_, rfl⟩
  have hI : gI K A s G_3 H locs := by rw [hG_3]; exact hI
  have o_G_3 : G_3 (q, 10, 0) = some (h0, .inr (2, [.ref q_8, .null, .null, .null, .int (nI 0)])) := by rw [hG_3, gset_ne (by simp)]; exact o_G_2
  have a1_G_3 : G_3 (q, 10, 1) = some (q_8, .inl (K.2.1 0, 625, .inl (fun _ => 0))) := by rw [hG_3, gset_ne (by simp)]; exact a1_G_2
  have a2_G_3 : G_3 (q, 10, 2) = some (q_17, .inl (K.2.1 0, 625, .inl (fun _ => 0))) := by rw [hG_3]; exact gset_eq _ _ _ _
  refine g_putF S hE hI (C := RX1) (T := TX1) (N := 5) (ref := "StonecutterYard$Saw") (fun w h => (List.mem_cons_of_mem _ (List.mem_append_right _ h))) tyX1 tyX1_ok nmX1 o_G_3 rfl 1 (by decide) (List.mem_cons_of_mem _ (List.mem_append_left _ (List.mem_of_getElem? (i := 5) rfl))) (fun _ h9 => h9) rfl hname rfl rfl rfl (Nat.le_of_ble_eq_true rfl) dX1_init_19 (fun H locs hI => ?_)
  have hI : gI K A s (gset G_3 (q, 10, 0) h0 (.inr (2, [.ref q_8, .ref q_17, .null, .null, .int (nI 0)]))) H locs := hI
  obtain ⟨G_4, hG_4⟩ : ∃ z, z = gset G_3 (q, 10, 0) h0 (.inr (2, [.ref q_8, .ref q_17, .null, .null, .int (nI 0)])) := ⟨_, rfl⟩
  rw [← hG_4] at hI
  have a1_G_4 : G_4 (q, 10, 1) = some (q_8, .inl (K.2.1 0, 625, .inl (fun _ => 0))) := by rw [hG_4, gset_ne (g_tne a1_G_3 o_G_3 (by simp))]; exact a1_G_3
  have a2_G_4 : G_4 (q, 10, 2) = some (q_17, .inl (K.2.1 0, 625, .inl (fun _ => 0))) := by rw [hG_4, gset_ne (g_tne a2_G_3 o_G_3 (by simp))]; exact a2_G_3
  have o_G_4 : G_4 (q, 10, 0) = some (h0, .inr (2, [.ref q_8, .ref q_17, .null, .null, .int (nI 0)])) := by rw [hG_4]; exact gset_eq _ _ _ _
  refine lv_aload_n hx hb dX1_init_22 rfl (lv_at hl 0 rfl) ?_
  refine lv_sipush (v := nI 625) hx hb dX1_init_23 (by decide) ?_
  refine g_newI S hE hI hA (List.mem_cons_of_mem _ (List.mem_append_left _ (List.mem_of_getElem? (i := 3) rfl))) (N' := 625) rfl (by omega) (q, 10, 3) (by show _ ≤ 4; omega) (by show _ ≤ 2500; omega) dX1_init_26 (fun q_26 H hq_26 hI => ?_)
  obtain ⟨G_5, hG_5⟩ : ∃ z, z = gset G_4 (q, 10, 3) q_26 (.inl (K.2.1 0, 625, .inl (fun _ => 0))) := ⟨_, rfl⟩
  have hI : gI K A s G_5 H locs := by rw [hG_5]; exact hI
  have o_G_5 : G_5 (q, 10, 0) = some (h0, .inr (2, [.ref q_8, .ref q_17, .null, .null, .int (nI 0)])) := by rw [hG_5, gset_ne (by simp)]; exact o_G_4
  have a1_G_5 : G_5 (q, 10, 1) = some (q_8, .inl (K.2.1 0, 625, .inl (fun _ => 0))) := by rw [hG_5, gset_ne (by simp)]; exact a1_G_4
  have a2_G_5 : G_5 (q, 10, 2) = some (q_17, .inl (K.2.1 0, 625, .inl (fun _ => 0))) := by rw [hG_5, gset_ne (by simp)]; exact a2_G_4
  have a3_G_5 : G_5 (q, 10, 3) = some (q_26, .inl (K.2.1 0, 625, .inl (fun _ => 0))) := by rw [hG_5]; exact gset_eq _ _ _ _
  refine g_putF S hE hI (C := RX1) (T := TX1) (N := 5) (ref := "StonecutterYard$Saw") (fun w h => (List.mem_cons_of_mem _ (List.mem_append_right _ h))) tyX1 tyX1_ok nmX1 o_G_5 rfl 2 (by decide) (List.mem_cons_of_mem _ (List.mem_append_left _ (List.mem_of_getElem? (i := 6) rfl))) (fun _ h9 => h9) rfl hname rfl rfl rfl (Nat.le_of_ble_eq_true rfl) dX1_init_28 (fun H locs hI => ?_)
  have hI : gI K A s (gset G_5 (q, 10, 0) h0 (.inr (2, [.ref q_8, .ref q_17, .ref q_26, .null, .int (nI 0)]))) H locs := hI
  obtain ⟨G_6, hG_6⟩ : ∃ z, z = gset G_5 (q, 10, 0) h0 (.inr (2, [.ref q_8, .ref q_17, .ref q_26, .null, .int (nI 0)])) := ⟨_, rfl⟩
  rw [← hG_6] at hI
  have a1_G_6 : G_6 (q, 10, 1) = some (q_8, .inl (K.2.1 0, 625, .inl (fun _ => 0))) := by rw [hG_6, gset_ne (g_tne a1_G_5 o_G_5 (by simp))]; exact a1_G_5
  have a2_G_6 : G_6 (q, 10, 2) = some (q_17, .inl (K.2.1 0, 625, .inl (fun _ => 0))) := by rw [hG_6, gset_ne (g_tne a2_G_5 o_G_5 (by simp))]; exact a2_G_5
  have a3_G_6 : G_6 (q, 10, 3) = some (q_26, .inl (K.2.1 0, 625, .inl (fun _ => 0))) := by rw [hG_6, gset_ne (g_tne a3_G_5 o_G_5 (by simp))]; exact a3_G_5
  have o_G_6 : G_6 (q, 10, 0) = some (h0, .inr (2, [.ref q_8, .ref q_17, .ref q_26, .null, .int (nI 0)])) := by rw [hG_6]; exact gset_eq _ _ _ _
  refine lv_aload_n hx hb dX1_init_31 rfl (lv_at hl 0 rfl) ?_
  refine lv_sipush (v := nI 625) hx hb dX1_init_32 (by decide) ?_
  refine g_newI S hE hI hA (List.mem_cons_of_mem _ (List.mem_append_left _ (List.mem_of_getElem? (i := 3) rfl))) (N' := 625) rfl (by omega) (q, 10, 4) (by show _ ≤ 4; omega) (by show _ ≤ 2500; omega) dX1_init_35 (fun q_35 H hq_35 hI => ?_)
  obtain ⟨G_7, hG_7⟩ : ∃ z, z = gset G_6 (q, 10, 4) q_35 (.inl (K.2.1 0, 625, .inl (fun _ => 0))) := ⟨_, rfl⟩
  have hI : gI K A s G_7 H locs := by rw [hG_7]; exact hI
  have o_G_7 : G_7 (q, 10, 0) = some (h0, .inr (2, [.ref q_8, .ref q_17, .ref q_26, .null, .int (nI 0)])) := by rw [hG_7, gset_ne (by simp)]; exact o_G_6
  have a1_G_7 : G_7 (q, 10, 1) = some (q_8, .inl (K.2.1 0, 625, .inl (fun _ => 0))) := by rw [hG_7, gset_ne (by simp)]; exact a1_G_6
  have a2_G_7 : G_7 (q, 10, 2) = some (q_17, .inl (K.2.1 0, 625, .inl (fun _ => 0))) := by rw [hG_7, gset_ne (by simp)]; exact a2_G_6
  have a3_G_7 : G_7 (q, 10, 3) = some (q_26, .inl (K.2.1 0, 625, .inl (fun _ => 0))) := by rw [hG_7, gset_ne (by simp)]; exact a3_G_6
  have a4_G_7 : G_7 (q, 10, 4) = some (q_35, .inl (K.2.1 0, 625, .inl (fun _ => 0))) := by rw [hG_7]; exact gset_eq _ _ _ _
  refine g_putF S hE hI (C := RX1) (T := TX1) (N := 5) (ref := "StonecutterYard$Saw") (fun w h => (List.mem_cons_of_mem _ (List.mem_append_right _ h))) tyX1 tyX1_ok nmX1 o_G_7 rfl 3 (by decide) (List.mem_cons_of_mem _ (List.mem_append_left _ (List.mem_of_getElem? (i := 7) rfl))) (fun _ h9 => h9) rfl hname rfl rfl rfl (Nat.le_of_ble_eq_true rfl) dX1_init_37 (fun H locs hI => ?_)
  have hI : gI K A s (gset G_7 (q, 10, 0) h0 (.inr (2, [.ref q_8, .ref q_17, .ref q_26, .ref q_35, .int (nI 0)]))) H locs := hI
  obtain ⟨G_8, hG_8⟩ : ∃ z, z = gset G_7 (q, 10, 0) h0 (.inr (2, [.ref q_8, .ref q_17, .ref q_26, .ref q_35, .int (nI 0)])) := ⟨_, rfl⟩
  rw [← hG_8] at hI
  have a1_G_8 : G_8 (q, 10, 1) = some (q_8, .inl (K.2.1 0, 625, .inl (fun _ => 0))) := by rw [hG_8, gset_ne (g_tne a1_G_7 o_G_7 (by simp))]; exact a1_G_7
  have a2_G_8 : G_8 (q, 10, 2) = some (q_17, .inl (K.2.1 0, 625, .inl (fun _ => 0))) := by rw [hG_8, gset_ne (g_tne a2_G_7 o_G_7 (by simp))]; exact a2_G_7
  have a3_G_8 : G_8 (q, 10, 3) = some (q_26, .inl (K.2.1 0, 625, .inl (fun _ => 0))) := by rw [hG_8, gset_ne (g_tne a3_G_7 o_G_7 (by simp))]; exact a3_G_7
  have a4_G_8 : G_8 (q, 10, 4) = some (q_35, .inl (K.2.1 0, 625, .inl (fun _ => 0))) := by rw [hG_8, gset_ne (g_tne a4_G_7 o_G_7 (by simp))]; exact a4_G_7
  have o_G_8 : G_8 (q, 10, 0) = some (h0, .inr (2, [.ref q_8, .ref q_17, .ref q_26, .ref q_35, .int (nI 0)])) := by rw [hG_8]; exact gset_eq _ _ _ _
  have hag : Ag q G G_8 := by rw [hG_8, hG_7, hG_6, hG_5, hG_4, hG_3, hG_2, hG_1]; exact Ag.rf.st.st.st.st.st.st.st.st
  exact g_vret S hI hr hlocks (by omega) (by omega) dX1_init_40 ⟨rfl, ⟨fun i => if i = 0 then h0 else if i = 1 then q_8 else if i = 2 then q_17 else if i = 3 then q_26 else q_35, rfl, o_G_8, a1_G_8, a2_G_8, a3_G_8, a4_G_8⟩, hag⟩
