/-! the reference's best cut and its columns -/
theorem qV_2 {st : Nat → Nat → Option Nat × Nat} {kf w h : Nat} (h1 : 1 ≤ w) (h2 : 1 ≤ h) : (qV st kf w h).2 = if wV st kf w h = (st w h).2 then none else cutOf (wV st kf) kf w h (wV st kf w h) := by
  rw [wV_eq h1 h2]
  exact pick_2
theorem wV_ge {st : Nat → Nat → Option Nat × Nat} {kf w h : Nat} (h1 : 1 ≤ w) (h2 : 1 ≤ h) : (st w h).2 ≤ wV st kf w h := by
  rw [wV_all h1 h2]
  exact Nat.le_trans mx_p mx_p
theorem fst1_n {f : Nat → Nat} {v n : Nat} (h : ∀ k, 1 ≤ k → k ≤ n → f k ≠ v) : fst1 f v n = none := fst1_none h
theorem cutOf_n {W : Nat → Nat → Nat} {kf w h due : Nat} (e : fst1 (fV W kf w h) due (w - kf - 1) = none) (e2 : fst1 (fH W kf w h) due (h - kf - 1) = none) : cutOf W kf w h due = none := by unfold cutOf; rw [e, e2]
abbrev hasP (y : YV) (w h g due : Nat) : Option Nat := firstN (fun j => decide (kP (yK y j) = due) && kLies (yK y j) w h g) (yKc y)
theorem hasP_m1 {y : YV} {w h g due : Nat} (h6 : yKc y ≤ 6) : oI (hasP y w h g due) = -1 ↔ hasP y w h g due = none := oI_m1 (fun n hn => by have := (firstN_some hn).1; omega)
theorem hasP_n {y : YV} {w h g kf : Nat} (h1 : 1 ≤ w) (h2 : 1 ≤ h) (h0 : wV (ySt2 y g) kf w h ≠ 0) : (hasP y w h g (wV (ySt2 y g) kf w h) = none ↔ wV (ySt2 y g) kf w h ≠ (ySt2 y g w h).2) ∧ (wV (ySt2 y g) kf w h = (ySt2 y g w h).2 → hasP y w h g (wV (ySt2 y g) kf w h) = (ySt2 y g w h).1) :=
  has_best (ok := fun i => kLies (yK y i) w h g) (pr := fun i => kP (yK y i)) (wV_ge (st := ySt2 y g) h1 h2) h0
set_option maxHeartbeats 4000000 in
set_option maxRecDepth 100000 in
/-- Yard.bestCut(worths, wide, high, grain) -/
theorem c_X7_bestCut (l : Launch) (K : gK) (G : gW) (r : Nat) (L : Nat → Nat → Nat) (y : YV) (N : Nat) (rt q w h g : Nat) (hm : MY K r L G y N) (htb : Tab K rt G q (wV (ySt2 y g) (yF y))) (hwh : (1 ≤ w ∧ w ≤ 24) ∧ (1 ≤ h ∧ h ≤ 24) ∧ g ≤ 1) : gM l yX7_bestCut wsX7_bestCut 6 134 0 0 K [.ref (L 30 0), .ref q, .int (nI w), .int (nI h), .int (nI g)] G (fun r9 G1 => r9 = some (.int (cE (qV (ySt2 y g) (yF y) w h).2)) ∧ G1 = G) (gNo) := by
  refine gM.of (cc := cX7_bestCut) (maxL := 7) (ret := (some .int)) (by decide) rfl (Nat.le_of_ble_eq_true rfl) ?_
  intro p e s m below meth c A S hr hlocks htab hname hE hA hI ls hl
  have hx := S.1
  have hb := S.2.1
  have hml := S.2.2.1
  have hl : lv_has ls 7 [(0, .ref (L 30 0)), (1, .ref q), (2, .int (nI w)), (3, .int (nI h)), (4, .int (nI g))] := hl
  have hf2 := hm.1.2.1
  have h6 := hm.1.2.2.2
  obtain ⟨V, hV⟩ : ∃ V, V = wV (ySt2 y g) (yF y) := ⟨_, rfl⟩
  rw [← hV] at htb
  obtain ⟨Rr, hto, hrow⟩ := htb
  obtain ⟨⟨w1, w2⟩, ⟨w3, w4⟩, g1⟩ := hwh
  have hVle : ∀ w h, 1 ≤ w → 1 ≤ h → w ≤ 24 → h ≤ 24 → V w h ≤ 575424 := fun w h h1 h2 h3 h4 => by rw [hV]; exact wV_le (ySt2_le hm) h1 h2 h3 h4
  have hdue := hVle w h w1 w3 w2 w4
  obtain ⟨fw, hrw, hvw⟩ := hrow w (by omega)
  obtain ⟨H, hHe⟩ : ∃ z, z = s.heap := ⟨_, rfl⟩
  obtain ⟨locs, hLe⟩ : ∃ z : List Loc, z = [] := ⟨_, rfl⟩
  rw [← hHe, ← hLe]
  have hI : gI K A s G H locs := by rw [hHe, hLe]; exact hI
  clear hHe hLe
  refine lv_aload_n hx hb dX7_bestCut_0 rfl (lv_at hl 1 rfl) ?_
  refine lv_iload_n hx hb dX7_bestCut_1 rfl (lv_at hl 2 rfl) ?_
  refine g_aald S hE hI (j := w) (f := (fun i => if i < 25 then some (Rr i) else none)) hto (k := 5) rfl rfl rfl (by omega) (by decide) (v := .ref (Rr w)) (by show va_rf (if _ then _ else _) = _; rw [if_pos (by omega)]; rfl) dX7_bestCut_2 ?_
  refine lv_iload_n hx hb dX7_bestCut_3 rfl (lv_at hl 3 rfl) ?_
  refine g_iald S hE hI (j := h) (f := fw) hrw rfl (by omega) (by decide) dX7_bestCut_4 ?_
  refine W.eq (g2 := F0 m 5 ls [.int (nI (V w h))]) (by rw [hvw _ (by omega) (by omega) (by omega)]) ?_
  refine lv_istore (lv' := [(5, .int (nI (V w h))), (0, .ref (L 30 0)), (1, .ref q), (2, .int (nI w)), (3, .int (nI h)), (4, .int (nI g))]) hx hb dX7_bestCut_5 hl (by decide) rfl (fun ls hl => ?_)
  refine lv_iload hx hb dX7_bestCut_7 (lv_at hl 0 rfl) ?_
  refine lv_if_eq (tgt := 26) hx hb dX7_bestCut_9 (by decide) (fun c_9 => ?_) (fun c_9 => ?_)
  · skip
    have c_9 : (V w h) = 0 := (nI_eq (a := (V w h)) (b := 0) (by omega) (by omega)).mp c_9
    have hfin : (qV (ySt2 y g) (yF y) w h).2 = none := by rw [qV_2 w1 w3, if_pos (by rw [← hV]; have h9 := wV_ge (st := ySt2 y g) (kf := yF y) w1 w3; rw [← hV] at h9; omega)]
    refine lv_iconst (v := (-1)) hx hb dX7_bestCut_26 (by decide) ?_
    exact g_iret S hI hr hlocks (Nat.zero_le _) (Nat.zero_le _) dX7_bestCut_27 ⟨by rw [hfin]; rfl, rfl⟩
  · skip
    have c_9 : (V w h) ≠ 0 := fun z => c_9 ((nI_eq (a := (V w h)) (b := 0) (by omega) (by omega)).mpr z)
    refine lv_aload_n hx hb dX7_bestCut_12 rfl (lv_at hl 1 rfl) ?_
    refine lv_iload_n hx hb dX7_bestCut_13 rfl (lv_at hl 3 rfl) ?_
    refine lv_iload_n hx hb dX7_bestCut_14 rfl (lv_at hl 4 rfl) ?_
    refine lv_iload hx hb dX7_bestCut_15 (lv_at hl 5 rfl) ?_
    refine lv_iload hx hb dX7_bestCut_17 (lv_at hl 0 rfl) ?_
    refine g_callV (As := [.int (nI w), .int (nI h), .int (nI g), .int (nI (V w h))]) (rest := []) (b := (L 30 0)) (n := 4) S hE hI hA (c_X7_hasPrice l K _ r L y N w h g (V w h) hm ⟨w2, w4, g1⟩ (by omega)) gX7_bestCut_X7_hasPrice rfl (by decide +kernel) ⟨Nat.le_of_ble_eq_true rfl, Nat.le_of_ble_eq_true rfl⟩ (g_hro hE hI hm.1.1 rfl) rfl hl.1 rfl (Nat.le_of_ble_eq_true rfl) dX7_bestCut_19 ⟨Nat.le_of_ble_eq_true rfl, Nat.le_of_ble_eq_true rfl⟩ (fun E ce q9 Gx H1 locs1 hx9 => hx9.elim) (fun rv Gc_19 H locs hp hI => ?_)
    obtain ⟨rfl, hq9⟩ := hp
    rw [hq9] at hI
    refine W.eq (g2 := F0 m 22 ls [.int (oI (hasP y w h g (V w h)))]) rfl ?_
    refine lv_iconst (v := (-1)) hx hb dX7_bestCut_22 (by decide) ?_
    refine lv_icmp_eq (tgt := 28) hx hb dX7_bestCut_23 (by decide) (fun c_23 => ?_) (fun c_23 => ?_)
    · skip
      have hcut : (qV (ySt2 y g) (yF y) w h).2 = cutOf V (yF y) w h (V w h) := by
        have h9 := (hasP_n w1 w3 (by rw [← hV]; exact c_9)).1.mp (by rw [← hV]; exact (hasP_m1 h6).mp c_23)
        rw [qV_2 w1 w3, if_neg h9, ← hV]
      refine lv_iconst (v := nI 1) hx hb dX7_bestCut_28 (by decide) ?_
      refine lv_istore (lv' := [(6, .int (nI 1)), (5, .int (nI (V w h))), (0, .ref (L 30 0)), (1, .ref q), (2, .int (nI w)), (3, .int (nI h)), (4, .int (nI g))]) hx hb dX7_bestCut_29 hl (by decide) rfl (fun ls hl => ?_)
      have L31 : ∀ (n : Nat) (k : Nat) (H : Heap) (locs : List Loc) (ls : Array Slot) (hn : w - k < n) (hk : k = 0 ∨ k + 1 + yF y ≤ w) (hno : ∀ j, 1 ≤ j → j ≤ k → fV V (yF y) w h j ≠ V w h), gI K A s G H locs → lv_has ls 7 [(0, .ref (L 30 0)), (1, .ref q), (2, .int (nI w)), (3, .int (nI h)), (4, .int (nI g)), (5, .int (nI (V w h))), (6, .int (nI (k + 1)))] → W p l e (gRoom 6 134 0 0) s m ([.ref (L 30 0), .ref q, .int (nI w), .int (nI h), .int (nI g)] : List Value).toArray below meth c H locs 0 0 (gEnd K below (fun r9 G1 => r9 = some (.int (cE (qV (ySt2 y g) (yF y) w h).2)) ∧ G1 = G) (gNo) A ([.ref (L 30 0), .ref q, .int (nI w), .int (nI h), .int (nI g)] : List Value).toArray s 0 0) (F0 m 31 ls []) := by
        clear hI hl
        intro n
        induction n with
        | zero =>
          intro k H locs ls hn hk hno hI hl
          exact absurd hn (Nat.not_lt_zero _)
        | succ n ih =>
          intro k H locs ls hn hk hno hI hl
          refine lv_iload hx hb dX7_bestCut_31 (lv_at hl 6 rfl) ?_
          refine lv_aload_n hx hb dX7_bestCut_33 rfl (lv_at hl 0 rfl) ?_
          refine g_get S hE hI (C := RX7) (T := TX7) (N := 3) (ref := "StonecutterYardModel$Yard") (fun w h => (List.mem_cons_of_mem _ (List.mem_append_left _ (List.mem_append_left _ (List.mem_append_right _ h))))) hm.1.1 rfl 2 (by decide) (List.mem_cons_of_mem _ (List.mem_append_left _ (List.mem_append_left _ (List.mem_append_left _ (List.mem_append_left _ (List.mem_of_getElem? (i := 0) rfl)))))) (fun _ h9 => h9) (v := .int (nI (yF y))) rfl dX7_bestCut_34 ?_
          refine t_iadd hx hb dX7_bestCut_37 (nI_add _ _) ?_
          refine lv_iload_n hx hb dX7_bestCut_38 rfl (lv_at hl 2 rfl) ?_
          refine lv_icmp_ge (tgt := 76) hx hb dX7_bestCut_39 (by decide) (fun c_39 => ?_) (fun c_39 => ?_)
          · skip
            have c_39 : w ≤ ((k + 1) + (yF y)) := (nI_leI (a := w) (b := ((k + 1) + (yF y))) (by omega) (by omega)).mp c_39
            refine lv_iconst (v := nI 1) hx hb dX7_bestCut_76 (by decide) ?_
            refine lv_istore (lv' := [(6, .int (nI 1)), (0, .ref (L 30 0)), (1, .ref q), (2, .int (nI w)), (3, .int (nI h)), (4, .int (nI g)), (5, .int (nI (V w h)))]) hx hb dX7_bestCut_77 hl (by decide) rfl (fun ls hl => ?_)
            have L79 : ∀ (n : Nat) (k : Nat) (H : Heap) (locs : List Loc) (ls : Array Slot) (hn : h - k < n) (hk : k = 0 ∨ k + 1 + yF y ≤ h) (hno : ∀ j, 1 ≤ j → j ≤ k → fH V (yF y) w h j ≠ V w h) (hno1 : fst1 (fV V (yF y) w h) (V w h) (w - yF y - 1) = none), gI K A s G H locs → lv_has ls 7 [(0, .ref (L 30 0)), (1, .ref q), (2, .int (nI w)), (3, .int (nI h)), (4, .int (nI g)), (5, .int (nI (V w h))), (6, .int (nI (k + 1)))] → W p l e (gRoom 6 134 0 0) s m ([.ref (L 30 0), .ref q, .int (nI w), .int (nI h), .int (nI g)] : List Value).toArray below meth c H locs 0 0 (gEnd K below (fun r9 G1 => r9 = some (.int (cE (qV (ySt2 y g) (yF y) w h).2)) ∧ G1 = G) (gNo) A ([.ref (L 30 0), .ref q, .int (nI w), .int (nI h), .int (nI g)] : List Value).toArray s 0 0) (F0 m 79 ls []) := by
              clear hI hl
              intro n
              induction n with
              | zero =>
                intro k H locs ls hn hk hno hno1 hI hl
                exact absurd hn (Nat.not_lt_zero _)
              | succ n ih79 =>
                intro k H locs ls hn hk hno hno1 hI hl
                refine lv_iload hx hb dX7_bestCut_79 (lv_at hl 6 rfl) ?_
                refine lv_aload_n hx hb dX7_bestCut_81 rfl (lv_at hl 0 rfl) ?_
                refine g_get S hE hI (C := RX7) (T := TX7) (N := 3) (ref := "StonecutterYardModel$Yard") (fun w h => (List.mem_cons_of_mem _ (List.mem_append_left _ (List.mem_append_left _ (List.mem_append_right _ h))))) hm.1.1 rfl 2 (by decide) (List.mem_cons_of_mem _ (List.mem_append_left _ (List.mem_append_left _ (List.mem_append_left _ (List.mem_append_left _ (List.mem_of_getElem? (i := 0) rfl)))))) (fun _ h9 => h9) (v := .int (nI (yF y))) rfl dX7_bestCut_82 ?_
                refine t_iadd hx hb dX7_bestCut_85 (nI_add _ _) ?_
                refine lv_iload_n hx hb dX7_bestCut_86 rfl (lv_at hl 3 rfl) ?_
                refine lv_icmp_ge (tgt := 127) hx hb dX7_bestCut_87 (by decide) (fun c_87 => ?_) (fun c_87 => ?_)
                · skip
                  have c_87 : h ≤ ((k + 1) + (yF y)) := (nI_leI (a := h) (b := ((k + 1) + (yF y))) (by omega) (by omega)).mp c_87
                  have hfin : (qV (ySt2 y g) (yF y) w h).2 = none := by rw [hcut]; exact cutOf_n hno1 (fst1_none (fun j h1 h2 => hno j h1 (by omega)))
                  refine lv_iconst (v := (-1)) hx hb dX7_bestCut_127 (by decide) ?_
                  exact g_iret S hI hr hlocks (Nat.zero_le _) (Nat.zero_le _) dX7_bestCut_128 ⟨by rw [hfin]; rfl, rfl⟩
                · skip
                  have c_87 : ((k + 1) + (yF y)) < h := Nat.not_le.mp (fun z => c_87 ((nI_leI (a := h) (b := ((k + 1) + (yF y))) (by omega) (by omega)).mpr z))
                  have e1 : V w (k + 1) ≤ 575424 := hVle _ _ (by omega) (by omega) (by omega) (by omega)
                  have e2 : V w (h - yF y - (k + 1)) ≤ 575424 := hVle _ _ (by omega) (by omega) (by omega) (by omega)
                  refine lv_aload_n hx hb dX7_bestCut_90 rfl (lv_at hl 1 rfl) ?_
                  refine lv_iload_n hx hb dX7_bestCut_91 rfl (lv_at hl 2 rfl) ?_
                  refine g_aald S hE hI (j := w) (f := (fun i => if i < 25 then some (Rr i) else none)) hto (k := 5) rfl rfl rfl (by omega) (by decide) (v := .ref (Rr w)) (by show va_rf (if _ then _ else _) = _; rw [if_pos (by omega)]; rfl) dX7_bestCut_92 ?_
                  refine lv_iload hx hb dX7_bestCut_93 (lv_at hl 6 rfl) ?_
                  refine g_iald S hE hI (j := (k + 1)) (f := fw) hrw rfl (by omega) (by decide) dX7_bestCut_95 ?_
                  refine W.eq (g2 := F0 m 96 ls [.int (nI (V w (k + 1)))]) (by rw [hvw _ (by omega) (by omega) (by omega)]) ?_
                  refine lv_aload_n hx hb dX7_bestCut_96 rfl (lv_at hl 1 rfl) ?_
                  refine lv_iload_n hx hb dX7_bestCut_97 rfl (lv_at hl 2 rfl) ?_
                  refine g_aald S hE hI (j := w) (f := (fun i => if i < 25 then some (Rr i) else none)) hto (k := 5) rfl rfl rfl (by omega) (by decide) (v := .ref (Rr w)) (by show va_rf (if _ then _ else _) = _; rw [if_pos (by omega)]; rfl) dX7_bestCut_98 ?_
                  refine lv_iload_n hx hb dX7_bestCut_99 rfl (lv_at hl 3 rfl) ?_
                  refine lv_iload hx hb dX7_bestCut_100 (lv_at hl 6 rfl) ?_
                  refine t_isub hx hb dX7_bestCut_102 (v := nI (h - (k + 1))) (pk_sub (by omega)) ?_
                  refine lv_aload_n hx hb dX7_bestCut_103 rfl (lv_at hl 0 rfl) ?_
                  refine g_get S hE hI (C := RX7) (T := TX7) (N := 3) (ref := "StonecutterYardModel$Yard") (fun w h => (List.mem_cons_of_mem _ (List.mem_append_left _ (List.mem_append_left _ (List.mem_append_right _ h))))) hm.1.1 rfl 2 (by decide) (List.mem_cons_of_mem _ (List.mem_append_left _ (List.mem_append_left _ (List.mem_append_left _ (List.mem_append_left _ (List.mem_of_getElem? (i := 0) rfl)))))) (fun _ h9 => h9) (v := .int (nI (yF y))) rfl dX7_bestCut_104 ?_
                  refine t_isub hx hb dX7_bestCut_107 (v := nI (h - yF y - (k + 1))) ((pk_sub (by omega)).trans (congrArg nI (by omega))) ?_
                  refine g_iald S hE hI (j := (h - yF y - (k + 1))) (f := fw) hrw rfl (by omega) (by decide) dX7_bestCut_108 ?_
                  refine W.eq (g2 := F0 m 109 ls [.int (nI (V w (h - yF y - (k + 1)))), .int (nI (V w (k + 1)))]) (by rw [hvw _ (by omega) (by omega) (by omega)]) ?_
                  refine t_iadd hx hb dX7_bestCut_109 (nI_add _ _) ?_
                  refine lv_iload hx hb dX7_bestCut_110 (lv_at hl 5 rfl) ?_
                  refine lv_icmp_ne (tgt := 121) hx hb dX7_bestCut_112 (by decide) (fun c_112 => ?_) (fun c_112 => ?_)
                  · skip
                    have c_112 : ((V w (k + 1)) + (V w (h - yF y - (k + 1)))) ≠ (V w h) := fun z => c_112 ((nI_eq (a := ((V w (k + 1)) + (V w (h - yF y - (k + 1))))) (b := (V w h)) (by omega) (by omega)).mpr z)
                    refine lv_iinc (v := nI ((k + 1) + 1)) (lv' := [(6, .int (nI ((k + 1) + 1))), (0, .ref (L 30 0)), (1, .ref q), (2, .int (nI w)), (3, .int (nI h)), (4, .int (nI g)), (5, .int (nI (V w h)))]) hx hb dX7_bestCut_121 hl (k := 6) rfl (nI_add _ 1) (by decide) rfl (fun ls hl => ?_)
                    refine lv_goto (tgt := 79) hx hb dX7_bestCut_124 (by decide) ?_
                    exact ih79 (k + 1) H locs ls (by omega) (Or.inr (by omega)) (fun j h1 h2 => by rcases (show j ≤ k ∨ j = k + 1 by omega) with z9 | z9; exact hno j h1 z9; subst z9; exact c_112) hno1 hI (lv_sub hl [1,2,3,4,5,6,0] rfl)
                  · skip
                    have c_112 : ((V w (k + 1)) + (V w (h - yF y - (k + 1)))) = (V w h) := (nI_eq (a := ((V w (k + 1)) + (V w (h - yF y - (k + 1))))) (b := (V w h)) (by omega) (by omega)).mp c_112
                    have hfin : (qV (ySt2 y g) (yF y) w h).2 = some (false, k + 1) := by rw [hcut]; exact cutOf_h hno1 (fst1_at (f := fH V (yF y) w h) (k := k + 1) (by omega) c_112 (fun j h1 h2 => hno j h1 (by omega)) (by omega))
                    refine lv_bipush (v := nI 100) hx hb dX7_bestCut_115 (by decide) ?_
                    refine lv_iload hx hb dX7_bestCut_117 (lv_at hl 6 rfl) ?_
                    refine t_iadd hx hb dX7_bestCut_119 (nI_add _ _) ?_
                    exact g_iret S hI hr hlocks (Nat.zero_le _) (Nat.zero_le _) dX7_bestCut_120 ⟨by rw [hfin]; rfl, rfl⟩
            exact L79 _ 0 H locs ls (Nat.lt_succ_self _) (Or.inl rfl) (fun j h1 h2 => by omega) (fst1_none (fun j h1 h2 => hno j h1 (by omega))) hI (lv_sub hl [1,2,3,4,5,6,0] rfl)
          · skip
            have c_39 : ((k + 1) + (yF y)) < w := Nat.not_le.mp (fun z => c_39 ((nI_leI (a := w) (b := ((k + 1) + (yF y))) (by omega) (by omega)).mpr z))
            have e1 : V (k + 1) h ≤ 575424 := hVle _ _ (by omega) (by omega) (by omega) (by omega)
            have e2 : V (w - yF y - (k + 1)) h ≤ 575424 := hVle _ _ (by omega) (by omega) (by omega) (by omega)
            obtain ⟨f1, hr1, hv1⟩ := hrow (k + 1) (by omega)
            obtain ⟨f2, hr2, hv2⟩ := hrow (w - yF y - (k + 1)) (by omega)
            refine lv_aload_n hx hb dX7_bestCut_42 rfl (lv_at hl 1 rfl) ?_
            refine lv_iload hx hb dX7_bestCut_43 (lv_at hl 6 rfl) ?_
            refine g_aald S hE hI (j := (k + 1)) (f := (fun i => if i < 25 then some (Rr i) else none)) hto (k := 5) rfl rfl rfl (by omega) (by decide) (v := .ref (Rr (k + 1))) (by show va_rf (if _ then _ else _) = _; rw [if_pos (by omega)]; rfl) dX7_bestCut_45 ?_
            refine lv_iload_n hx hb dX7_bestCut_46 rfl (lv_at hl 3 rfl) ?_
            refine g_iald S hE hI (j := h) (f := f1) hr1 rfl (by omega) (by decide) dX7_bestCut_47 ?_
            refine W.eq (g2 := F0 m 48 ls [.int (nI (V (k + 1) h))]) (by rw [hv1 _ (by omega) (by omega) (by omega)]) ?_
            refine lv_aload_n hx hb dX7_bestCut_48 rfl (lv_at hl 1 rfl) ?_
            refine lv_iload_n hx hb dX7_bestCut_49 rfl (lv_at hl 2 rfl) ?_
            refine lv_iload hx hb dX7_bestCut_50 (lv_at hl 6 rfl) ?_
            refine t_isub hx hb dX7_bestCut_52 (v := nI (w - (k + 1))) (pk_sub (by omega)) ?_
            refine lv_aload_n hx hb dX7_bestCut_53 rfl (lv_at hl 0 rfl) ?_
            refine g_get S hE hI (C := RX7) (T := TX7) (N := 3) (ref := "StonecutterYardModel$Yard") (fun w h => (List.mem_cons_of_mem _ (List.mem_append_left _ (List.mem_append_left _ (List.mem_append_right _ h))))) hm.1.1 rfl 2 (by decide) (List.mem_cons_of_mem _ (List.mem_append_left _ (List.mem_append_left _ (List.mem_append_left _ (List.mem_append_left _ (List.mem_of_getElem? (i := 0) rfl)))))) (fun _ h9 => h9) (v := .int (nI (yF y))) rfl dX7_bestCut_54 ?_
            refine t_isub hx hb dX7_bestCut_57 (v := nI (w - yF y - (k + 1))) ((pk_sub (by omega)).trans (congrArg nI (by omega))) ?_
            refine g_aald S hE hI (j := (w - yF y - (k + 1))) (f := (fun i => if i < 25 then some (Rr i) else none)) hto (k := 5) rfl rfl rfl (by omega) (by decide) (v := .ref (Rr (w - yF y - (k + 1)))) (by show va_rf (if _ then _ else _) = _; rw [if_pos (by omega)]; rfl) dX7_bestCut_58 ?_
            refine lv_iload_n hx hb dX7_bestCut_59 rfl (lv_at hl 3 rfl) ?_
            refine g_iald S hE hI (j := h) (f := f2) hr2 rfl (by omega) (by decide) dX7_bestCut_60 ?_
            refine W.eq (g2 := F0 m 61 ls [.int (nI (V (w - yF y - (k + 1)) h)), .int (nI (V (k + 1) h))]) (by rw [hv2 _ (by omega) (by omega) (by omega)]) ?_
            refine t_iadd hx hb dX7_bestCut_61 (nI_add _ _) ?_
            refine lv_iload hx hb dX7_bestCut_62 (lv_at hl 5 rfl) ?_
            refine lv_icmp_ne (tgt := 70) hx hb dX7_bestCut_64 (by decide) (fun c_64 => ?_) (fun c_64 => ?_)
            · skip
              have c_64 : ((V (k + 1) h) + (V (w - yF y - (k + 1)) h)) ≠ (V w h) := fun z => c_64 ((nI_eq (a := ((V (k + 1) h) + (V (w - yF y - (k + 1)) h))) (b := (V w h)) (by omega) (by omega)).mpr z)
              refine lv_iinc (v := nI ((k + 1) + 1)) (lv' := [(6, .int (nI ((k + 1) + 1))), (0, .ref (L 30 0)), (1, .ref q), (2, .int (nI w)), (3, .int (nI h)), (4, .int (nI g)), (5, .int (nI (V w h)))]) hx hb dX7_bestCut_70 hl (k := 6) rfl (nI_add _ 1) (by decide) rfl (fun ls hl => ?_)
              refine lv_goto (tgt := 31) hx hb dX7_bestCut_73 (by decide) ?_
              exact ih (k + 1) H locs ls (by omega) (Or.inr (by omega)) (fun j h1 h2 => by rcases (show j ≤ k ∨ j = k + 1 by omega) with z9 | z9; exact hno j h1 z9; subst z9; exact c_64) hI (lv_sub hl [1,2,3,4,5,6,0] rfl)
            · skip
              have c_64 : ((V (k + 1) h) + (V (w - yF y - (k + 1)) h)) = (V w h) := (nI_eq (a := ((V (k + 1) h) + (V (w - yF y - (k + 1)) h))) (b := (V w h)) (by omega) (by omega)).mp c_64
              have hfin : (qV (ySt2 y g) (yF y) w h).2 = some (true, k + 1) := by rw [hcut]; exact cutOf_v (fst1_at (f := fV V (yF y) w h) (k := k + 1) (by omega) c_64 (fun j h1 h2 => hno j h1 (by omega)) (by omega))
              refine lv_iload hx hb dX7_bestCut_67 (lv_at hl 6 rfl) ?_
              exact g_iret S hI hr hlocks (Nat.zero_le _) (Nat.zero_le _) dX7_bestCut_69 ⟨by rw [hfin]; rfl, rfl⟩
      exact L31 _ 0 H locs ls (Nat.lt_succ_self _) (Or.inl rfl) (fun j h1 h2 => by omega) hI (lv_sub hl [2,3,4,5,6,1,0] rfl)
    · skip
      have hne : hasP y w h g (V w h) ≠ none := fun z9 => c_23 ((hasP_m1 h6).mpr z9)
      have hfin : (qV (ySt2 y g) (yF y) w h).2 = none := by rw [qV_2 w1 w3, if_pos (Decidable.byContradiction (fun z9 => hne (by rw [hV]; exact (hasP_n w1 w3 (by rw [← hV]; exact c_9)).1.mpr z9)))]
      refine lv_iconst (v := (-1)) hx hb dX7_bestCut_26 (by decide) ?_
      exact g_iret S hI hr hlocks (Nat.zero_le _) (Nat.zero_le _) dX7_bestCut_27 ⟨by rw [hfin]; rfl, rfl⟩
theorem st_none {K : gK} {r : Nat} {L : Nat → Nat → Nat} {G : gW} {y : YV} {N g w h : Nat} (hm : MY K r L G y N) (h0 : (ySt2 y g w h).2 = 0) : (ySt2 y g w h).1 = none := by
  cases e : (ySt2 y g w h).1 with
  | none => rfl
  | some i =>
    obtain ⟨e1, -, e3⟩ := bestN_some e
    have h1 : 1 ≤ kP (yK y i) := (hm.2.2.2.2 i e1).2.2.2.2.2.2.2.1
    have e3 : (ySt2 y g w h).2 = kP (yK y i) := e3
    omega
theorem qV_none0 {st : Nat → Nat → Option Nat × Nat} {kf w h : Nat} (h1 : 1 ≤ w) (h2 : 1 ≤ h) (h0 : wV st kf w h = 0) : (qV st kf w h).2 = none := by
  rw [qV_2 h1 h2, if_pos (by have := wV_ge (st := st) (kf := kf) h1 h2; omega)]
theorem qV_noneV {st : Nat → Nat → Option Nat × Nat} {kf w h : Nat} (h1 : 1 ≤ w) (h2 : 1 ≤ h) (e : (qV st kf w h).2 = none) : wV st kf w h = (st w h).2 := by
  rw [wV_eq h1 h2]
  rcases pick_in (W := wV st kf) (kf := kf) (w := w) (h := h) (p0 := (st w h).2) with e2 | ⟨k, -, -, e3, -⟩ | ⟨k, -, -, e3, -⟩
  · show (pick (wV st kf) kf w h (st w h).2).1 = _
    rw [e2]
  · have e : (pick (wV st kf) kf w h (st w h).2).2 = none := e
    rw [e3] at e; cases e
  · have e : (pick (wV st kf) kf w h (st w h).2).2 = none := e
    rw [e3] at e; cases e
theorem oI_eqN {o : Option Nat} {j : Nat} (hj : j < 2 ^ 31) (h : ∀ n, o = some n → n < 2 ^ 31) : oI o = nI j ↔ o = some j := by
  cases o with
  | none => exact ⟨fun z => absurd z.symm (nI_m1 hj), fun z => by cases z⟩
  | some n => exact ⟨fun z => by rw [(nI_eq (h n rfl) hj).mp z], fun z => by cases z; rfl⟩
set_option maxHeartbeats 4000000 in
set_option maxRecDepth 100000 in
/-- Yard.column(..): c_colN -/
theorem c_colN (l : Launch) (K : gK) (G : gW) (r : Nat) (L : Nat → Nat → Nat) (y : YV) (N : Nat) (rt q w h g : Nat) (j n : Nat) (hm : MY K r L G y N) (htb : Tab K rt G q (wV (ySt2 y g) (yF y))) (hwh : (1 ≤ w ∧ w ≤ 24) ∧ (1 ≤ h ∧ h ≤ 24) ∧ g ≤ 1) (hj : j < yKc y) (hwn : w + h ≤ n + 1) (ih : ∀ w h : Nat, (1 ≤ w ∧ w ≤ 24) ∧ (1 ≤ h ∧ h ≤ 24) ∧ g ≤ 1 → w + h ≤ n → gM l yX7_column wsX7_column (10 + n) (300 + 27 * n) 0 0 K [.ref (L 30 0), .ref q, .int (nI w), .int (nI h), .int (nI g), .int (nI j)] G (fun r9 G1 => r9 = some (.int (nI (nV (ySt2 y g) (yF y) j w h))) ∧ G1 = G) gNo) (hq : (qV (ySt2 y g) (yF y) w h).2 = none) : gM l yX7_column wsX7_column (10 + (n + 1)) (300 + 27 * (n + 1)) 0 0 K [.ref (L 30 0), .ref q, .int (nI w), .int (nI h), .int (nI g), .int (nI j)] G (fun r9 G1 => r9 = some (.int (nI (nV (ySt2 y g) (yF y) j (w) (h)))) ∧ G1 = G) (gNo) := by
  refine gM.of (cc := cX7_column) (maxL := 8) (ret := (some .int)) (by decide) rfl (Nat.le_of_ble_eq_true rfl) ?_
  intro p e s m below meth c A S hr hlocks htab hname hE hA hI ls hl
  have hx := S.1
  have hb := S.2.1
  have hml := S.2.2.1
  have hl : lv_has ls 8 [(0, .ref (L 30 0)), (1, .ref q), (2, .int (nI w)), (3, .int (nI h)), (4, .int (nI g)), (5, .int (nI j))] := hl
  have htb2 := htb
  have hf2 := hm.1.2.1
  have h6 := hm.1.2.2.2
  obtain ⟨V, hV⟩ : ∃ V, V = wV (ySt2 y g) (yF y) := ⟨_, rfl⟩
  rw [← hV] at htb
  obtain ⟨Rr, hto, hrow⟩ := htb
  obtain ⟨⟨w1, w2⟩, ⟨w3, w4⟩, g1⟩ := hwh
  have hVle : ∀ w h, 1 ≤ w → 1 ≤ h → w ≤ 24 → h ≤ 24 → V w h ≤ 575424 := fun w h h1 h2 h3 h4 => by rw [hV]; exact wV_le (ySt2_le hm) h1 h2 h3 h4
  have hdue := hVle w h w1 w3 w2 w4
  obtain ⟨fw, hrw, hvw⟩ := hrow w (by omega)
  have hV2 : wV (ySt2 y g) (yF y) w h = V w h := by rw [hV]
  obtain ⟨H, hHe⟩ : ∃ z, z = s.heap := ⟨_, rfl⟩
  obtain ⟨locs, hLe⟩ : ∃ z : List Loc, z = [] := ⟨_, rfl⟩
  rw [← hHe, ← hLe]
  have hI : gI K A s G H locs := by rw [hHe, hLe]; exact hI
  clear hHe hLe
  refine lv_aload_n hx hb dX7_column_0 rfl (lv_at hl 1 rfl) ?_
  refine lv_iload_n hx hb dX7_column_1 rfl (lv_at hl 2 rfl) ?_
  refine g_aald S hE hI (j := w) (f := (fun i => if i < 25 then some (Rr i) else none)) hto (k := 5) rfl rfl rfl (by omega) (by decide) (v := .ref (Rr w)) (by show va_rf (if _ then _ else _) = _; rw [if_pos (by omega)]; rfl) dX7_column_2 ?_
  refine lv_iload_n hx hb dX7_column_3 rfl (lv_at hl 3 rfl) ?_
  refine g_iald S hE hI (j := h) (f := fw) hrw rfl (by omega) (by decide) dX7_column_4 ?_
  refine W.eq (g2 := F0 m 5 ls [.int (nI (V w h))]) (by rw [hvw _ (by omega) (by omega) (by omega)]) ?_
  refine lv_istore (lv' := [(6, .int (nI (V w h))), (0, .ref (L 30 0)), (1, .ref q), (2, .int (nI w)), (3, .int (nI h)), (4, .int (nI g)), (5, .int (nI j))]) hx hb dX7_column_5 hl (by decide) rfl (fun ls hl => ?_)
  refine lv_iload hx hb dX7_column_7 (lv_at hl 0 rfl) ?_
  refine lv_if_ne (tgt := 14) hx hb dX7_column_9 (by decide) (fun c_9 => ?_) (fun c_9 => ?_)
  · skip
    have c_9 : (V w h) ≠ 0 := fun z => c_9 ((nI_eq (a := (V w h)) (b := 0) (by omega) (by omega)).mpr z)
    refine lv_aload_n hx hb dX7_column_14 rfl (lv_at hl 1 rfl) ?_
    refine lv_aload_n hx hb dX7_column_15 rfl (lv_at hl 2 rfl) ?_
    refine lv_iload_n hx hb dX7_column_16 rfl (lv_at hl 3 rfl) ?_
    refine lv_iload_n hx hb dX7_column_17 rfl (lv_at hl 4 rfl) ?_
    refine lv_iload hx hb dX7_column_18 (lv_at hl 5 rfl) ?_
    refine g_callV (As := [.ref q, .int (nI w), .int (nI h), .int (nI g)]) (rest := []) (b := (L 30 0)) (n := 4) S hE hI hA (c_X7_bestCut l K _ r L y N rt q w h g hm htb2 ⟨⟨w1, w2⟩, ⟨w3, w4⟩, g1⟩) gX7_column_X7_bestCut rfl (by decide +kernel) ⟨by show _ ≤ 10 + (n + 1); omega, by show _ ≤ 300 + 27 * (n + 1); omega⟩ (g_hro hE hI hm.1.1 rfl) rfl hl.1 rfl (Nat.le_of_ble_eq_true rfl) dX7_column_20 ⟨Nat.le_of_ble_eq_true rfl, Nat.le_of_ble_eq_true rfl⟩ (fun E ce q9 Gx H1 locs1 hx9 => hx9.elim) (fun rv Gc_20 H locs hp hI => ?_)
    obtain ⟨rfl, hq9⟩ := hp
    rw [hq9] at hI
    rw [hq]
    refine W.eq (g2 := F0 m 23 ls [.int (-1)]) rfl ?_
    refine lv_istore (lv' := [(7, .int (-1)), (6, .int (nI (V w h))), (0, .ref (L 30 0)), (1, .ref q), (2, .int (nI w)), (3, .int (nI h)), (4, .int (nI g)), (5, .int (nI j))]) hx hb dX7_column_23 hl (by decide) rfl (fun ls hl => ?_)
    refine lv_iload hx hb dX7_column_25 (lv_at hl 0 rfl) ?_
    refine lv_iconst (v := (-1)) hx hb dX7_column_27 (by decide) ?_
    refine lv_icmp_ne (tgt := 52) hx hb dX7_column_28 (by decide) (fun c_28 => ?_) (fun c_28 => ?_)
    · skip
      exact absurd rfl c_28
    · skip
      have hpe : hasP y w h g (V w h) = (ySt2 y g w h).1 := by rw [hV]; exact (hasP_n w1 w3 (by rw [hV2]; exact c_9)).2 (qV_noneV w1 w3 hq)
      have hpo : oI (hasP y w h g (V w h)) = nI j ↔ hasP y w h g (V w h) = some j := oI_eqN (by omega) (fun n9 hn9 => by have := (firstN_some hn9).1; omega)
      refine lv_aload_n hx hb dX7_column_31 rfl (lv_at hl 2 rfl) ?_
      refine lv_iload_n hx hb dX7_column_32 rfl (lv_at hl 4 rfl) ?_
      refine lv_iload_n hx hb dX7_column_33 rfl (lv_at hl 5 rfl) ?_
      refine lv_iload hx hb dX7_column_34 (lv_at hl 6 rfl) ?_
      refine lv_iload hx hb dX7_column_36 (lv_at hl 1 rfl) ?_
      refine g_callV (As := [.int (nI w), .int (nI h), .int (nI g), .int (nI (V w h))]) (rest := []) (b := (L 30 0)) (n := 4) S hE hI hA (c_X7_hasPrice l K _ r L y N w h g (V w h) hm ⟨w2, w4, g1⟩ (by omega)) gX7_column_X7_hasPrice rfl (by decide +kernel) ⟨by show _ ≤ 10 + (n + 1); omega, by show _ ≤ 300 + 27 * (n + 1); omega⟩ (g_hro hE hI hm.1.1 rfl) rfl hl.1 rfl (Nat.le_of_ble_eq_true rfl) dX7_column_38 ⟨Nat.le_of_ble_eq_true rfl, Nat.le_of_ble_eq_true rfl⟩ (fun E ce q9 Gx H1 locs1 hx9 => hx9.elim) (fun rv Gc_38 H locs hp hI => ?_)
      obtain ⟨rfl, hq9⟩ := hp
      rw [hq9] at hI
      refine W.eq (g2 := F0 m 41 ls [.int (oI (hasP y w h g (V w h)))]) rfl ?_
      refine lv_iload hx hb dX7_column_41 (lv_at hl 7 rfl) ?_
      refine lv_icmp_ne (tgt := 50) hx hb dX7_column_43 (by decide) (fun c_43 => ?_) (fun c_43 => ?_)
      · skip
        have hfin : (nV (ySt2 y g) (yF y) j (w) (h)) = 0 := by rw [nV_none w1 hq, if_neg (fun z9 => c_43 (hpo.mpr (hpe.trans z9)))]
        refine lv_iconst (v := nI 0) hx hb dX7_column_50 (by decide) ?_
        exact g_iret S hI hr hlocks (Nat.zero_le _) (Nat.zero_le _) dX7_column_51 ⟨by rw [hfin], rfl⟩
      · skip
        have hfin : (nV (ySt2 y g) (yF y) j (w) (h)) = 1 := by rw [nV_none w1 hq, if_pos (hpe.symm.trans (hpo.mp c_43))]
        refine lv_iconst (v := nI 1) hx hb dX7_column_46 (by decide) ?_
        refine lv_goto (tgt := 51) hx hb dX7_column_47 (by decide) ?_
        exact g_iret S hI hr hlocks (Nat.zero_le _) (Nat.zero_le _) dX7_column_51 ⟨by rw [hfin], rfl⟩
  · skip
    have c_9 : (V w h) = 0 := (nI_eq (a := (V w h)) (b := 0) (by omega) (by omega)).mp c_9
    have hp0 : (ySt2 y g w h).2 = 0 := by have h9 := qV_noneV w1 w3 hq; rw [hV2] at h9; omega
    have hfin : (nV (ySt2 y g) (yF y) j (w) (h)) = 0 := by rw [nV_none w1 hq, st_none hm hp0]; rfl
    refine lv_iconst (v := nI 0) hx hb dX7_column_12 (by decide) ?_
    exact g_iret S hI hr hlocks (Nat.zero_le _) (Nat.zero_le _) dX7_column_13 ⟨by rw [hfin], rfl⟩
set_option maxHeartbeats 4000000 in
set_option maxRecDepth 100000 in
/-- Yard.column(..): c_colV -/
theorem c_colV (l : Launch) (K : gK) (G : gW) (r : Nat) (L : Nat → Nat → Nat) (y : YV) (N : Nat) (rt q w h g : Nat) (j n : Nat) (k : Nat) (hm : MY K r L G y N) (htb : Tab K rt G q (wV (ySt2 y g) (yF y))) (hwh : (1 ≤ w ∧ w ≤ 24) ∧ (1 ≤ h ∧ h ≤ 24) ∧ g ≤ 1) (hj : j < yKc y) (hwn : w + h ≤ n + 1) (ih : ∀ w h : Nat, (1 ≤ w ∧ w ≤ 24) ∧ (1 ≤ h ∧ h ≤ 24) ∧ g ≤ 1 → w + h ≤ n → gM l yX7_column wsX7_column (10 + n) (300 + 27 * n) 0 0 K [.ref (L 30 0), .ref q, .int (nI w), .int (nI h), .int (nI g), .int (nI j)] G (fun r9 G1 => r9 = some (.int (nI (nV (ySt2 y g) (yF y) j w h))) ∧ G1 = G) gNo) (hq : (qV (ySt2 y g) (yF y) w h).2 = some (true, k)) (hk : 1 ≤ k ∧ k + k + yF y ≤ w) : gM l yX7_column wsX7_column (10 + (n + 1)) (300 + 27 * (n + 1)) 0 0 K [.ref (L 30 0), .ref q, .int (nI w), .int (nI h), .int (nI g), .int (nI j)] G (fun r9 G1 => r9 = some (.int (nI (nV (ySt2 y g) (yF y) j (w) (h)))) ∧ G1 = G) (gNo) := by
  refine gM.of (cc := cX7_column) (maxL := 8) (ret := (some .int)) (by decide) rfl (Nat.le_of_ble_eq_true rfl) ?_
  intro p e s m below meth c A S hr hlocks htab hname hE hA hI ls hl
  have hx := S.1
  have hb := S.2.1
  have hml := S.2.2.1
  have hl : lv_has ls 8 [(0, .ref (L 30 0)), (1, .ref q), (2, .int (nI w)), (3, .int (nI h)), (4, .int (nI g)), (5, .int (nI j))] := hl
  have htb2 := htb
  have hf2 := hm.1.2.1
  have h6 := hm.1.2.2.2
  obtain ⟨V, hV⟩ : ∃ V, V = wV (ySt2 y g) (yF y) := ⟨_, rfl⟩
  rw [← hV] at htb
  obtain ⟨Rr, hto, hrow⟩ := htb
  obtain ⟨⟨w1, w2⟩, ⟨w3, w4⟩, g1⟩ := hwh
  have hVle : ∀ w h, 1 ≤ w → 1 ≤ h → w ≤ 24 → h ≤ 24 → V w h ≤ 575424 := fun w h h1 h2 h3 h4 => by rw [hV]; exact wV_le (ySt2_le hm) h1 h2 h3 h4
  have hdue := hVle w h w1 w3 w2 w4
  obtain ⟨fw, hrw, hvw⟩ := hrow w (by omega)
  have hV2 : wV (ySt2 y g) (yF y) w h = V w h := by rw [hV]
  obtain ⟨H, hHe⟩ : ∃ z, z = s.heap := ⟨_, rfl⟩
  obtain ⟨locs, hLe⟩ : ∃ z : List Loc, z = [] := ⟨_, rfl⟩
  rw [← hHe, ← hLe]
  have hI : gI K A s G H locs := by rw [hHe, hLe]; exact hI
  clear hHe hLe
  refine lv_aload_n hx hb dX7_column_0 rfl (lv_at hl 1 rfl) ?_
  refine lv_iload_n hx hb dX7_column_1 rfl (lv_at hl 2 rfl) ?_
  refine g_aald S hE hI (j := w) (f := (fun i => if i < 25 then some (Rr i) else none)) hto (k := 5) rfl rfl rfl (by omega) (by decide) (v := .ref (Rr w)) (by show va_rf (if _ then _ else _) = _; rw [if_pos (by omega)]; rfl) dX7_column_2 ?_
  refine lv_iload_n hx hb dX7_column_3 rfl (lv_at hl 3 rfl) ?_
  refine g_iald S hE hI (j := h) (f := fw) hrw rfl (by omega) (by decide) dX7_column_4 ?_
  refine W.eq (g2 := F0 m 5 ls [.int (nI (V w h))]) (by rw [hvw _ (by omega) (by omega) (by omega)]) ?_
  refine lv_istore (lv' := [(6, .int (nI (V w h))), (0, .ref (L 30 0)), (1, .ref q), (2, .int (nI w)), (3, .int (nI h)), (4, .int (nI g)), (5, .int (nI j))]) hx hb dX7_column_5 hl (by decide) rfl (fun ls hl => ?_)
  refine lv_iload hx hb dX7_column_7 (lv_at hl 0 rfl) ?_
  refine lv_if_ne (tgt := 14) hx hb dX7_column_9 (by decide) (fun c_9 => ?_) (fun c_9 => ?_)
  · skip
    have c_9 : (V w h) ≠ 0 := fun z => c_9 ((nI_eq (a := (V w h)) (b := 0) (by omega) (by omega)).mpr z)
    refine lv_aload_n hx hb dX7_column_14 rfl (lv_at hl 1 rfl) ?_
    refine lv_aload_n hx hb dX7_column_15 rfl (lv_at hl 2 rfl) ?_
    refine lv_iload_n hx hb dX7_column_16 rfl (lv_at hl 3 rfl) ?_
    refine lv_iload_n hx hb dX7_column_17 rfl (lv_at hl 4 rfl) ?_
    refine lv_iload hx hb dX7_column_18 (lv_at hl 5 rfl) ?_
    refine g_callV (As := [.ref q, .int (nI w), .int (nI h), .int (nI g)]) (rest := []) (b := (L 30 0)) (n := 4) S hE hI hA (c_X7_bestCut l K _ r L y N rt q w h g hm htb2 ⟨⟨w1, w2⟩, ⟨w3, w4⟩, g1⟩) gX7_column_X7_bestCut rfl (by decide +kernel) ⟨by show _ ≤ 10 + (n + 1); omega, by show _ ≤ 300 + 27 * (n + 1); omega⟩ (g_hro hE hI hm.1.1 rfl) rfl hl.1 rfl (Nat.le_of_ble_eq_true rfl) dX7_column_20 ⟨Nat.le_of_ble_eq_true rfl, Nat.le_of_ble_eq_true rfl⟩ (fun E ce q9 Gx H1 locs1 hx9 => hx9.elim) (fun rv Gc_20 H locs hp hI => ?_)
    obtain ⟨rfl, hq9⟩ := hp
    rw [hq9] at hI
    rw [hq]
    refine W.eq (g2 := F0 m 23 ls [.int (nI k)]) rfl ?_
    refine lv_istore (lv' := [(7, .int (nI k)), (6, .int (nI (V w h))), (0, .ref (L 30 0)), (1, .ref q), (2, .int (nI w)), (3, .int (nI h)), (4, .int (nI g)), (5, .int (nI j))]) hx hb dX7_column_23 hl (by decide) rfl (fun ls hl => ?_)
    refine lv_iload hx hb dX7_column_25 (lv_at hl 0 rfl) ?_
    refine lv_iconst (v := (-1)) hx hb dX7_column_27 (by decide) ?_
    refine lv_icmp_ne (tgt := 52) hx hb dX7_column_28 (by decide) (fun c_28 => ?_) (fun c_28 => ?_)
    · skip
      refine lv_iload hx hb dX7_column_52 (lv_at hl 0 rfl) ?_
      refine lv_bipush (v := nI 100) hx hb dX7_column_54 (by decide) ?_
      refine lv_icmp_ge (tgt := 92) hx hb dX7_column_56 (by decide) (fun c_56 => ?_) (fun c_56 => ?_)
      · skip
        have c_56 : 100 ≤ k := (nI_leI (a := 100) (b := k) (by omega) (by omega)).mp c_56
        exact absurd c_56 (by omega)
      · skip
        have c_56 : k < 100 := Nat.not_le.mp (fun z => c_56 ((nI_leI (a := 100) (b := k) (by omega) (by omega)).mpr z))
        refine lv_aload_n hx hb dX7_column_59 rfl (lv_at hl 2 rfl) ?_
        refine lv_aload_n hx hb dX7_column_60 rfl (lv_at hl 3 rfl) ?_
        refine lv_iload hx hb dX7_column_61 (lv_at hl 0 rfl) ?_
        refine lv_iload_n hx hb dX7_column_63 rfl (lv_at hl 5 rfl) ?_
        refine lv_iload hx hb dX7_column_64 (lv_at hl 6 rfl) ?_
        refine lv_iload hx hb dX7_column_66 (lv_at hl 7 rfl) ?_
        refine g_callV (As := [.ref q, .int (nI k), .int (nI h), .int (nI g), .int (nI j)]) (rest := []) (b := (L 30 0)) (n := 5) S hE hI hA (ih (k) (h) ⟨⟨by omega, by omega⟩, ⟨by omega, by omega⟩, g1⟩ (by omega)) gX7_column_X7_column rfl (by decide +kernel) ⟨by show _ ≤ 10 + (n + 1); omega, by show _ ≤ 300 + 27 * (n + 1); omega⟩ (g_hro hE hI hm.1.1 rfl) rfl hl.1 rfl (Nat.le_of_ble_eq_true rfl) dX7_column_68 ⟨Nat.le_of_ble_eq_true rfl, Nat.le_of_ble_eq_true rfl⟩ (fun E ce q9 Gx H1 locs1 hx9 => hx9.elim) (fun rv Gc_68 H locs hp hI => ?_)
        obtain ⟨rfl, hq9⟩ := hp
        rw [hq9] at hI
        refine W.eq (g2 := F0 m 71 ls [.int (nI (nV (ySt2 y g) (yF y) j (k) (h)))]) rfl ?_
        refine lv_aload_n hx hb dX7_column_71 rfl (lv_at hl 2 rfl) ?_
        refine lv_aload_n hx hb dX7_column_72 rfl (lv_at hl 3 rfl) ?_
        refine lv_iload_n hx hb dX7_column_73 rfl (lv_at hl 4 rfl) ?_
        refine lv_iload hx hb dX7_column_74 (lv_at hl 0 rfl) ?_
        refine t_isub hx hb dX7_column_76 (v := nI (w - k)) (pk_sub (by omega)) ?_
        refine lv_aload_n hx hb dX7_column_77 rfl (lv_at hl 2 rfl) ?_
        refine g_get S hE hI (C := RX7) (T := TX7) (N := 3) (ref := "StonecutterYardModel$Yard") (fun w h => (List.mem_cons_of_mem _ (List.mem_append_left _ (List.mem_append_left _ (List.mem_append_right _ h))))) hm.1.1 rfl 2 (by decide) (List.mem_cons_of_mem _ (List.mem_append_left _ (List.mem_append_left _ (List.mem_append_left _ (List.mem_append_left _ (List.mem_of_getElem? (i := 0) rfl)))))) (fun _ h9 => h9) (v := .int (nI (yF y))) rfl dX7_column_78 ?_
        refine t_isub hx hb dX7_column_81 (v := nI (w - yF y - k)) ((pk_sub (by omega)).trans (congrArg nI (by omega))) ?_
        refine lv_iload_n hx hb dX7_column_82 rfl (lv_at hl 5 rfl) ?_
        refine lv_iload hx hb dX7_column_83 (lv_at hl 6 rfl) ?_
        refine lv_iload hx hb dX7_column_85 (lv_at hl 7 rfl) ?_
        refine g_callV (As := [.ref q, .int (nI (w - yF y - k)), .int (nI h), .int (nI g), .int (nI j)]) (rest := [.int (nI (nV (ySt2 y g) (yF y) j (k) (h)))]) (b := (L 30 0)) (n := 5) S hE hI hA (ih (w - yF y - k) (h) ⟨⟨by omega, by omega⟩, ⟨by omega, by omega⟩, g1⟩ (by omega)) gX7_column_X7_column rfl (by decide +kernel) ⟨by show _ ≤ 10 + (n + 1); omega, by show _ ≤ 300 + 27 * (n + 1); omega⟩ (g_hro hE hI hm.1.1 rfl) rfl hl.1 rfl (Nat.le_of_ble_eq_true rfl) dX7_column_87 ⟨Nat.le_of_ble_eq_true rfl, Nat.le_of_ble_eq_true rfl⟩ (fun E ce q9 Gx H1 locs1 hx9 => hx9.elim) (fun rv Gc_87 H locs hp hI => ?_)
        obtain ⟨rfl, hq9⟩ := hp
        rw [hq9] at hI
        refine W.eq (g2 := F0 m 90 ls [.int (nI (nV (ySt2 y g) (yF y) j (w - yF y - k) (h))), .int (nI (nV (ySt2 y g) (yF y) j (k) (h)))]) rfl ?_
        refine t_iadd hx hb dX7_column_90 (nI_add _ _) ?_
        exact g_iret S hI hr hlocks (Nat.zero_le _) (Nat.zero_le _) dX7_column_91 ⟨by rw [nV_v w1 w3 hk.1 hk.2 hq], rfl⟩
    · skip
      exact absurd c_28 (nI_m1 (by omega))
  · skip
    have c_9 : (V w h) = 0 := (nI_eq (a := (V w h)) (b := 0) (by omega) (by omega)).mp c_9
    exact absurd (qV_none0 w1 w3 (hV2.trans c_9)) (by rw [hq]; exact fun z9 => by cases z9)
set_option maxHeartbeats 4000000 in
set_option maxRecDepth 100000 in
/-- Yard.column(..): c_colH -/
theorem c_colH (l : Launch) (K : gK) (G : gW) (r : Nat) (L : Nat → Nat → Nat) (y : YV) (N : Nat) (rt q w h g : Nat) (j n : Nat) (k : Nat) (hm : MY K r L G y N) (htb : Tab K rt G q (wV (ySt2 y g) (yF y))) (hwh : (1 ≤ w ∧ w ≤ 24) ∧ (1 ≤ h ∧ h ≤ 24) ∧ g ≤ 1) (hj : j < yKc y) (hwn : w + h ≤ n + 1) (ih : ∀ w h : Nat, (1 ≤ w ∧ w ≤ 24) ∧ (1 ≤ h ∧ h ≤ 24) ∧ g ≤ 1 → w + h ≤ n → gM l yX7_column wsX7_column (10 + n) (300 + 27 * n) 0 0 K [.ref (L 30 0), .ref q, .int (nI w), .int (nI h), .int (nI g), .int (nI j)] G (fun r9 G1 => r9 = some (.int (nI (nV (ySt2 y g) (yF y) j w h))) ∧ G1 = G) gNo) (hq : (qV (ySt2 y g) (yF y) w h).2 = some (false, k)) (hk : 1 ≤ k ∧ k + k + yF y ≤ h) : gM l yX7_column wsX7_column (10 + (n + 1)) (300 + 27 * (n + 1)) 0 0 K [.ref (L 30 0), .ref q, .int (nI w), .int (nI h), .int (nI g), .int (nI j)] G (fun r9 G1 => r9 = some (.int (nI (nV (ySt2 y g) (yF y) j (w) (h)))) ∧ G1 = G) (gNo) := by
  refine gM.of (cc := cX7_column) (maxL := 8) (ret := (some .int)) (by decide) rfl (Nat.le_of_ble_eq_true rfl) ?_
  intro p e s m below meth c A S hr hlocks htab hname hE hA hI ls hl
  have hx := S.1
  have hb := S.2.1
  have hml := S.2.2.1
  have hl : lv_has ls 8 [(0, .ref (L 30 0)), (1, .ref q), (2, .int (nI w)), (3, .int (nI h)), (4, .int (nI g)), (5, .int (nI j))] := hl
  have htb2 := htb
  have hf2 := hm.1.2.1
  have h6 := hm.1.2.2.2
  obtain ⟨V, hV⟩ : ∃ V, V = wV (ySt2 y g) (yF y) := ⟨_, rfl⟩
  rw [← hV] at htb
  obtain ⟨Rr, hto, hrow⟩ := htb
  obtain ⟨⟨w1, w2⟩, ⟨w3, w4⟩, g1⟩ := hwh
  have hVle : ∀ w h, 1 ≤ w → 1 ≤ h → w ≤ 24 → h ≤ 24 → V w h ≤ 575424 := fun w h h1 h2 h3 h4 => by rw [hV]; exact wV_le (ySt2_le hm) h1 h2 h3 h4
  have hdue := hVle w h w1 w3 w2 w4
  obtain ⟨fw, hrw, hvw⟩ := hrow w (by omega)
  have hV2 : wV (ySt2 y g) (yF y) w h = V w h := by rw [hV]
  obtain ⟨H, hHe⟩ : ∃ z, z = s.heap := ⟨_, rfl⟩
  obtain ⟨locs, hLe⟩ : ∃ z : List Loc, z = [] := ⟨_, rfl⟩
  rw [← hHe, ← hLe]
  have hI : gI K A s G H locs := by rw [hHe, hLe]; exact hI
  clear hHe hLe
  refine lv_aload_n hx hb dX7_column_0 rfl (lv_at hl 1 rfl) ?_
  refine lv_iload_n hx hb dX7_column_1 rfl (lv_at hl 2 rfl) ?_
  refine g_aald S hE hI (j := w) (f := (fun i => if i < 25 then some (Rr i) else none)) hto (k := 5) rfl rfl rfl (by omega) (by decide) (v := .ref (Rr w)) (by show va_rf (if _ then _ else _) = _; rw [if_pos (by omega)]; rfl) dX7_column_2 ?_
  refine lv_iload_n hx hb dX7_column_3 rfl (lv_at hl 3 rfl) ?_
  refine g_iald S hE hI (j := h) (f := fw) hrw rfl (by omega) (by decide) dX7_column_4 ?_
  refine W.eq (g2 := F0 m 5 ls [.int (nI (V w h))]) (by rw [hvw _ (by omega) (by omega) (by omega)]) ?_
  refine lv_istore (lv' := [(6, .int (nI (V w h))), (0, .ref (L 30 0)), (1, .ref q), (2, .int (nI w)), (3, .int (nI h)), (4, .int (nI g)), (5, .int (nI j))]) hx hb dX7_column_5 hl (by decide) rfl (fun ls hl => ?_)
  refine lv_iload hx hb dX7_column_7 (lv_at hl 0 rfl) ?_
  refine lv_if_ne (tgt := 14) hx hb dX7_column_9 (by decide) (fun c_9 => ?_) (fun c_9 => ?_)
  · skip
    have c_9 : (V w h) ≠ 0 := fun z => c_9 ((nI_eq (a := (V w h)) (b := 0) (by omega) (by omega)).mpr z)
    refine lv_aload_n hx hb dX7_column_14 rfl (lv_at hl 1 rfl) ?_
    refine lv_aload_n hx hb dX7_column_15 rfl (lv_at hl 2 rfl) ?_
    refine lv_iload_n hx hb dX7_column_16 rfl (lv_at hl 3 rfl) ?_
    refine lv_iload_n hx hb dX7_column_17 rfl (lv_at hl 4 rfl) ?_
    refine lv_iload hx hb dX7_column_18 (lv_at hl 5 rfl) ?_
    refine g_callV (As := [.ref q, .int (nI w), .int (nI h), .int (nI g)]) (rest := []) (b := (L 30 0)) (n := 4) S hE hI hA (c_X7_bestCut l K _ r L y N rt q w h g hm htb2 ⟨⟨w1, w2⟩, ⟨w3, w4⟩, g1⟩) gX7_column_X7_bestCut rfl (by decide +kernel) ⟨by show _ ≤ 10 + (n + 1); omega, by show _ ≤ 300 + 27 * (n + 1); omega⟩ (g_hro hE hI hm.1.1 rfl) rfl hl.1 rfl (Nat.le_of_ble_eq_true rfl) dX7_column_20 ⟨Nat.le_of_ble_eq_true rfl, Nat.le_of_ble_eq_true rfl⟩ (fun E ce q9 Gx H1 locs1 hx9 => hx9.elim) (fun rv Gc_20 H locs hp hI => ?_)
    obtain ⟨rfl, hq9⟩ := hp
    rw [hq9] at hI
    rw [hq]
    refine W.eq (g2 := F0 m 23 ls [.int (nI (100 + k))]) rfl ?_
    refine lv_istore (lv' := [(7, .int (nI (100 + k))), (6, .int (nI (V w h))), (0, .ref (L 30 0)), (1, .ref q), (2, .int (nI w)), (3, .int (nI h)), (4, .int (nI g)), (5, .int (nI j))]) hx hb dX7_column_23 hl (by decide) rfl (fun ls hl => ?_)
    refine lv_iload hx hb dX7_column_25 (lv_at hl 0 rfl) ?_
    refine lv_iconst (v := (-1)) hx hb dX7_column_27 (by decide) ?_
    refine lv_icmp_ne (tgt := 52) hx hb dX7_column_28 (by decide) (fun c_28 => ?_) (fun c_28 => ?_)
    · skip
      refine lv_iload hx hb dX7_column_52 (lv_at hl 0 rfl) ?_
      refine lv_bipush (v := nI 100) hx hb dX7_column_54 (by decide) ?_
      refine lv_icmp_ge (tgt := 92) hx hb dX7_column_56 (by decide) (fun c_56 => ?_) (fun c_56 => ?_)
      · skip
        have c_56 : 100 ≤ (100 + k) := (nI_leI (a := 100) (b := (100 + k)) (by omega) (by omega)).mp c_56
        refine lv_aload_n hx hb dX7_column_92 rfl (lv_at hl 2 rfl) ?_
        refine lv_aload_n hx hb dX7_column_93 rfl (lv_at hl 3 rfl) ?_
        refine lv_iload_n hx hb dX7_column_94 rfl (lv_at hl 4 rfl) ?_
        refine lv_iload hx hb dX7_column_95 (lv_at hl 0 rfl) ?_
        refine lv_bipush (v := nI 100) hx hb dX7_column_97 (by decide) ?_
        refine t_isub hx hb dX7_column_99 (v := nI k) ((pk_sub (by omega)).trans (congrArg nI (by omega))) ?_
        refine lv_iload hx hb dX7_column_100 (lv_at hl 6 rfl) ?_
        refine lv_iload hx hb dX7_column_102 (lv_at hl 7 rfl) ?_
        refine g_callV (As := [.ref q, .int (nI w), .int (nI k), .int (nI g), .int (nI j)]) (rest := []) (b := (L 30 0)) (n := 5) S hE hI hA (ih (w) (k) ⟨⟨by omega, by omega⟩, ⟨by omega, by omega⟩, g1⟩ (by omega)) gX7_column_X7_column rfl (by decide +kernel) ⟨by show _ ≤ 10 + (n + 1); omega, by show _ ≤ 300 + 27 * (n + 1); omega⟩ (g_hro hE hI hm.1.1 rfl) rfl hl.1 rfl (Nat.le_of_ble_eq_true rfl) dX7_column_104 ⟨Nat.le_of_ble_eq_true rfl, Nat.le_of_ble_eq_true rfl⟩ (fun E ce q9 Gx H1 locs1 hx9 => hx9.elim) (fun rv Gc_104 H locs hp hI => ?_)
        obtain ⟨rfl, hq9⟩ := hp
        rw [hq9] at hI
        refine W.eq (g2 := F0 m 107 ls [.int (nI (nV (ySt2 y g) (yF y) j (w) (k)))]) rfl ?_
        refine lv_aload_n hx hb dX7_column_107 rfl (lv_at hl 2 rfl) ?_
        refine lv_aload_n hx hb dX7_column_108 rfl (lv_at hl 3 rfl) ?_
        refine lv_iload_n hx hb dX7_column_109 rfl (lv_at hl 4 rfl) ?_
        refine lv_iload_n hx hb dX7_column_110 rfl (lv_at hl 5 rfl) ?_
        refine lv_iload hx hb dX7_column_111 (lv_at hl 0 rfl) ?_
        refine lv_bipush (v := nI 100) hx hb dX7_column_113 (by decide) ?_
        refine t_isub hx hb dX7_column_115 (v := nI k) ((pk_sub (by omega)).trans (congrArg nI (by omega))) ?_
        refine t_isub hx hb dX7_column_116 (v := nI (h - k)) (pk_sub (by omega)) ?_
        refine lv_aload_n hx hb dX7_column_117 rfl (lv_at hl 2 rfl) ?_
        refine g_get S hE hI (C := RX7) (T := TX7) (N := 3) (ref := "StonecutterYardModel$Yard") (fun w h => (List.mem_cons_of_mem _ (List.mem_append_left _ (List.mem_append_left _ (List.mem_append_right _ h))))) hm.1.1 rfl 2 (by decide) (List.mem_cons_of_mem _ (List.mem_append_left _ (List.mem_append_left _ (List.mem_append_left _ (List.mem_append_left _ (List.mem_of_getElem? (i := 0) rfl)))))) (fun _ h9 => h9) (v := .int (nI (yF y))) rfl dX7_column_118 ?_
        refine t_isub hx hb dX7_column_121 (v := nI (h - yF y - k)) ((pk_sub (by omega)).trans (congrArg nI (by omega))) ?_
        refine lv_iload hx hb dX7_column_122 (lv_at hl 6 rfl) ?_
        refine lv_iload hx hb dX7_column_124 (lv_at hl 7 rfl) ?_
        refine g_callV (As := [.ref q, .int (nI w), .int (nI (h - yF y - k)), .int (nI g), .int (nI j)]) (rest := [.int (nI (nV (ySt2 y g) (yF y) j (w) (k)))]) (b := (L 30 0)) (n := 5) S hE hI hA (ih (w) (h - yF y - k) ⟨⟨by omega, by omega⟩, ⟨by omega, by omega⟩, g1⟩ (by omega)) gX7_column_X7_column rfl (by decide +kernel) ⟨by show _ ≤ 10 + (n + 1); omega, by show _ ≤ 300 + 27 * (n + 1); omega⟩ (g_hro hE hI hm.1.1 rfl) rfl hl.1 rfl (Nat.le_of_ble_eq_true rfl) dX7_column_126 ⟨Nat.le_of_ble_eq_true rfl, Nat.le_of_ble_eq_true rfl⟩ (fun E ce q9 Gx H1 locs1 hx9 => hx9.elim) (fun rv Gc_126 H locs hp hI => ?_)
        obtain ⟨rfl, hq9⟩ := hp
        rw [hq9] at hI
        refine W.eq (g2 := F0 m 129 ls [.int (nI (nV (ySt2 y g) (yF y) j (w) (h - yF y - k))), .int (nI (nV (ySt2 y g) (yF y) j (w) (k)))]) rfl ?_
        refine t_iadd hx hb dX7_column_129 (nI_add _ _) ?_
        exact g_iret S hI hr hlocks (Nat.zero_le _) (Nat.zero_le _) dX7_column_130 ⟨by rw [nV_h w1 w3 hk.1 hk.2 hq], rfl⟩
      · skip
        have c_56 : (100 + k) < 100 := Nat.not_le.mp (fun z => c_56 ((nI_leI (a := 100) (b := (100 + k)) (by omega) (by omega)).mpr z))
        exact absurd c_56 (by omega)
    · skip
      exact absurd c_28 (nI_m1 (by omega))
  · skip
    have c_9 : (V w h) = 0 := (nI_eq (a := (V w h)) (b := 0) (by omega) (by omega)).mp c_9
    exact absurd (qV_none0 w1 w3 (hV2.trans c_9)) (by rw [hq]; exact fun z9 => by cases z9)
theorem c_col (l : Launch) (K : gK) (G : gW) (r : Nat) (L : Nat → Nat → Nat) (y : YV) (N rt q g j : Nat) (hm : MY K r L G y N) (htb : Tab K rt G q (wV (ySt2 y g) (yF y))) (hj : j < yKc y) : ∀ n w h : Nat, (1 ≤ w ∧ w ≤ 24) ∧ (1 ≤ h ∧ h ≤ 24) ∧ g ≤ 1 → w + h ≤ n → gM l yX7_column wsX7_column (10 + n) (300 + 27 * n) 0 0 K [.ref (L 30 0), .ref q, .int (nI w), .int (nI h), .int (nI g), .int (nI j)] G (fun r9 G1 => r9 = some (.int (nI (nV (ySt2 y g) (yF y) j w h))) ∧ G1 = G) gNo
  | 0, w, h, hwh, hn => by omega
  | n + 1, w, h, hwh, hn => by
    have ih := fun w h => c_col l K G r L y N rt q g j hm htb hj n w h
    rcases qV_in (st := ySt2 y g) (kf := yF y) (w := w) (h := h) with e | ⟨k, e1, e2, e⟩ | ⟨k, e1, e2, e⟩
    · exact c_colN l K G r L y N rt q w h g j n hm htb hwh hj hn ih e
    · exact c_colV l K G r L y N rt q w h g j n k hm htb hwh hj hn ih e ⟨e1, e2⟩
    · exact c_colH l K G r L y N rt q w h g j n k hm htb hwh hj hn ih e ⟨e1, e2⟩
theorem c_X7_column (l : Launch) (K : gK) (G : gW) (r : Nat) (L : Nat → Nat → Nat) (y : YV) (N rt q w h g j : Nat) (hm : MY K r L G y N) (htb : Tab K rt G q (wV (ySt2 y g) (yF y))) (hj : j < yKc y) (hwh : (1 ≤ w ∧ w ≤ 24) ∧ (1 ≤ h ∧ h ≤ 24) ∧ g ≤ 1) : gM l yX7_column wsX7_column 58 1596 0 0 K [.ref (L 30 0), .ref q, .int (nI w), .int (nI h), .int (nI g), .int (nI j)] G (fun r9 G1 => r9 = some (.int (nI (nV (ySt2 y g) (yF y) j w h))) ∧ G1 = G) gNo :=
  c_col l K G r L y N rt q g j hm htb hj 48 w h hwh (by omega)
