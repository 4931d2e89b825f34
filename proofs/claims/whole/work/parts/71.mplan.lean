/-! a plan's one step -/
def yOne (y : YV) : Option YV := if ySc y ≤ 36 then match (yNext y (ySc y)).1 with
      | none => none
      | some i => match (yDear y i).1 with
        | none => none
        | some j => match sFits (yS y i) (yK y j) with
          | none => none
          | some mn => some (yTake y i j mn)
    else none
abbrev yNx (y : YV) : YV := (yOne y).getD y
theorem yOne_full {y : YV} (h : ¬ ySc y ≤ 36) : yOne y = none := by unfold yOne; rw [if_neg h]
theorem yOne_none {y : YV} (h : (yNext y (ySc y)).1 = none) : yOne y = none := by
  unfold yOne
  rw [h]
  split <;> rfl
theorem yOne_s {i j mn : Nat} {y : YV} (h : ySc y ≤ 36) (h1 : (yNext y (ySc y)).1 = some i) (h2 : (yDear y i).1 = some j) (h3 : sFits (yS y i) (yK y j) = some mn) : yOne y = some (yTake y i j mn) := by
  unfold yOne
  rw [if_pos h, h1]
  show (match (yDear y i).1 with | none => none | some j => match sFits (yS y i) (yK y j) with | none => none | some mn => some (yTake y i j mn)) = _
  rw [h2]
  show (match sFits (yS y i) (yK y j) with | none => none | some mn => some (yTake y i j mn)) = _
  rw [h3]
theorem yOne_cases (y : YV) : (yOne y = none ∧ ∀ n, yPlan n y = (0, y)) ∨ ∃ i j mn, i < ySc y ∧ j < yKc y ∧ sFits (yS y i) (yK y j) = some mn ∧ ySc y ≤ 36 ∧ yOne y = some (yTake y i j mn) ∧ ∀ n, yPlan (n + 1) y = ((yPlan n (yTake y i j mn)).1 + 1, (yPlan n (yTake y i j mn)).2) := by
  by_cases c : ySc y ≤ 36
  · cases hn : (yNext y (ySc y)).1 with
    | none => exact Or.inl ⟨yOne_none hn, fun n => yPlan_none hn⟩
    | some i =>
      obtain ⟨h1, j, hj⟩ := yNext_some hn
      obtain ⟨h2, h3, ⟨mn, h4⟩, h5⟩ := yDear_p hj
      exact Or.inr ⟨i, j, mn, h1, h2, h4, c, yOne_s c hn hj h4, fun n => yPlan_s c hn hj h4⟩
  · exact Or.inl ⟨yOne_full c, fun n => yPlan_full c⟩
theorem yPlan_1 {y y2 : YV} (h : yOne y = some y2) (n : Nat) : yPlan (n + 1) y = ((yPlan n y2).1 + 1, (yPlan n y2).2) := by
  rcases yOne_cases y with ⟨e, -⟩ | ⟨i, j, mn, -, -, -, -, e, e2⟩
  · rw [e] at h; cases h
  · rw [e] at h; cases h; exact e2 n
theorem yPlan_n {y : YV} (h : yOne y = none) (n : Nat) : yPlan n y = (0, y) := by
  rcases yOne_cases y with ⟨e, e2⟩ | ⟨i, j, mn, -, -, -, -, e, e2⟩
  · exact e2 n
  · rw [e] at h; cases h
theorem yTake_ge {y : YV} {i j mn : Nat} : ySc y ≤ ySc (yTake y i j mn) := by
  have h1 : ySc y ≤ ySc (yT1 y i mn (yK y j)) := yCut_ge
  have h2 : ySc (yT1 y i mn (yK y j)) ≤ ySc (yT2 y i mn (yK y j)) := yCut_ge
  show ySc y ≤ ySc (yT2 y i mn (yK y j))
  omega
theorem yNx_ge {y : YV} : ySc y ≤ ySc (yNx y) := by
  unfold yNx
  rcases yOne_cases y with ⟨e, -⟩ | ⟨i, j, mn, -, -, -, -, e, -⟩
  · rw [e]; exact Nat.le_refl _
  · rw [e]; exact yTake_ge
theorem yNx_le {y : YV} (h : ySc y ≤ 40) : ySc (yNx y) ≤ 40 := by
  unfold yNx
  rcases yOne_cases y with ⟨e, -⟩ | ⟨i, j, mn, -, -, -, h36, e, -⟩
  · rw [e]; exact h
  · rw [e]
    have h4 : ySc (yTake y i j mn) ≤ ySc y + 4 := yTake_le
    show ySc (yTake y i j mn) ≤ 40
    omega
theorem yPlan_ge {n : Nat} : ∀ {y : YV}, ySc y ≤ ySc (yPlan n y).2 := by
  induction n with
  | zero => intro y; exact Nat.le_refl _
  | succ n ih =>
    intro y
    cases h : yOne y with
    | none => rw [yPlan_n h]; exact Nat.le_refl _
    | some y2 =>
      rw [yPlan_1 h]
      have h1 : ySc y ≤ ySc (yNx y) := yNx_ge
      rw [show yNx y = y2 by unfold yNx; rw [h]; rfl] at h1
      exact Nat.le_trans h1 ih
theorem yPlan_40 {n : Nat} : ∀ {y : YV}, ySc y ≤ 40 → ySc (yPlan n y).2 ≤ 40 := by
  induction n with
  | zero => intro y h; exact h
  | succ n ih =>
    intro y h40
    cases h : yOne y with
    | none => rw [yPlan_n h]; exact h40
    | some y2 =>
      rw [yPlan_1 h]
      have h1 : ySc (yNx y) ≤ 40 := yNx_le h40
      rw [show yNx y = y2 by unfold yNx; rw [h]; rfl] at h1
      exact ih h1
theorem yNx_some {y : YV} (h : (yOne y).isSome = true) : yOne y = some (yNx y) := by
  unfold yNx
  cases e : yOne y with
  | none => rw [e] at h; cases h
  | some y2 => rfl
theorem yNx_none {y : YV} (h : (yOne y).isSome = false) : yOne y = none ∧ yNx y = y := by
  unfold yNx
  cases e : yOne y with
  | none => exact ⟨rfl, rfl⟩
  | some y2 => rw [e] at h; cases h
theorem yPlan_nx {n : Nat} {y : YV} (h : 1 ≤ n) : ySc (yNx y) ≤ ySc (yPlan n y).2 := by
  obtain ⟨k, rfl⟩ : ∃ k, n = k + 1 := ⟨n - 1, by omega⟩
  cases e : (yOne y).isSome with
  | false => rw [(yNx_none e).2]; exact yPlan_ge
  | true => rw [yPlan_1 (yNx_some e)]; exact yPlan_ge
def mS : Option (Nat × Nat) → Int32
  | none => -1
  | some p => nI p.1
def mKd : Option (Nat × Nat) → Int32
  | none => -1
  | some p => nI p.2
theorem mS_m1 {o : Option (Nat × Nat)} (h : ∀ p, o = some p → p.1 < 2 ^ 31) : mS o = -1 ↔ o = none := by
  cases o with
  | none => exact ⟨fun _ => rfl, fun _ => rfl⟩
  | some p => exact ⟨fun z => absurd z (nI_m1 (h p rfl)), fun z => by cases z⟩
theorem mOut_none {y : YV} (hp : ∀ j, j < yKc y → 1 ≤ kP (yK y j)) (h : mOut y (ySc y) = none) : yOne y = none := by
  rw [mOut_eq hp] at h
  cases hn : (yNext y (ySc y)).1 with
  | none => exact yOne_none hn
  | some i =>
    obtain ⟨-, j, hj⟩ := yNext_some hn
    rw [hn] at h
    have h : (yDear y i).1.map (fun j => (i, j)) = none := h
    rw [hj] at h
    cases h
theorem mOut_some {y : YV} (hp : ∀ j, j < yKc y → 1 ≤ kP (yK y j)) {p : Nat × Nat} (h : mOut y (ySc y) = some p) : (yNext y (ySc y)).1 = some p.1 ∧ (yDear y p.1).1 = some p.2 := by
  rw [mOut_eq hp] at h
  cases hn : (yNext y (ySc y)).1 with
  | none => rw [hn] at h; cases h
  | some i =>
    obtain ⟨-, j, hj⟩ := yNext_some hn
    rw [hn] at h
    have h : (yDear y i).1.map (fun j => (i, j)) = some p := h
    rw [hj] at h
    cases h
    exact ⟨rfl, hj⟩
theorem okW_0 {y : YV} {u : SV} {k : Nat} (h : kN (yK y k) = 0) : okW y u k = false := by unfold okW; rw [h]; rfl
theorem okW_n {y : YV} {u : SV} {k : Nat} (h : sFits u (yK y k) = none) : okW y u k = false := by unfold okW; rw [h]; simp
theorem okW_y {y : YV} {u : SV} {k : Nat} (h : kN (yK y k) ≠ 0) (h2 : sFits u (yK y k) ≠ none) : okW y u k = true := by
  unfold okW
  cases e : sFits u (yK y k) with
  | none => exact absurd e h2
  | some m => rw [decide_eq_true (by omega)]; rfl
set_option maxHeartbeats 4000000 in
set_option maxRecDepth 100000 in
/-- Yard.takeNext() -/
theorem c_X7_takeNext (l : Launch) (K : gK) (G : gW) (r : Nat) (L : Nat → Nat → Nat) (y : YV) (N : Nat) (d9 : Nat) (hm : MY K r L G y N) (hr50 : r ≠ 50) (hd9 : ySc (yNx y) = ySc y + d9) : gM l yX7_takeNext wsX7_takeNext 10 228 (12 * d9) (135 * d9) K [.ref (L 30 0)] G (fun r9 G1 => ∃ L2 N2, r9 = some (.int (bI (yOne y).isSome)) ∧ MY K r L2 G1 (yNx y) N2 ∧ N ≤ N2 ∧ lOff (ySc y) L L2 ∧ frO r N G G1) (gNo) := by
  refine gM.of (cc := cX7_takeNext) (maxL := 5) (ret := (some .boolean)) (by decide) rfl (Nat.le_of_ble_eq_true rfl) ?_
  intro p e s m below meth c A S hr hlocks htab hname hE hA hI ls hl
  have hx := S.1
  have hb := S.2.1
  have hml := S.2.2.1
  have hl : lv_has ls 5 [(0, .ref (L 30 0))] := hl
  have h44 := hm.1.2.2.1
  have h6 := hm.1.2.2.2
  have hf2 := hm.1.2.1
  obtain ⟨m1, ar1, hl1⟩ := hm.2.1.obj
  obtain ⟨m2, ar2, hl2⟩ := hm.2.2.1.obj
  have hpp : ∀ j, j < yKc y → 1 ≤ kP (yK y j) := fun j hj => (hm.2.2.2.2 j hj).2.2.2.2.2.2.2.1
  obtain ⟨H, hHe⟩ : ∃ z, z = s.heap := ⟨_, rfl⟩
  obtain ⟨locs, hLe⟩ : ∃ z : List Loc, z = [] := ⟨_, rfl⟩
  rw [← hHe, ← hLe]
  have hI : gI K A s G H locs := by rw [hHe, hLe]; exact hI
  clear hHe hLe
  refine lv_iconst (v := (-1)) hx hb dX7_takeNext_0 (by decide) ?_
  refine lv_istore_n (lv' := [(1, .int (-1)), (0, .ref (L 30 0))]) hx hb dX7_takeNext_1 rfl hl (by decide) rfl (fun ls hl => ?_)
  refine lv_iconst (v := (-1)) hx hb dX7_takeNext_2 (by decide) ?_
  refine lv_istore_n (lv' := [(2, .int (-1)), (1, .int (-1)), (0, .ref (L 30 0))]) hx hb dX7_takeNext_3 rfl hl (by decide) rfl (fun ls hl => ?_)
  refine lv_iconst (v := nI 0) hx hb dX7_takeNext_4 (by decide) ?_
  refine lv_istore_n (lv' := [(3, .int (nI 0)), (2, .int (-1)), (1, .int (-1)), (0, .ref (L 30 0))]) hx hb dX7_takeNext_5 rfl hl (by decide) rfl (fun ls hl => ?_)
  have L6 : ∀ (n : Nat) (q : Nat) (o : Option (Nat × Nat)) (H : Heap) (locs : List Loc) (ls : Array Slot) (hn : ySc y - q < n) (hq : q ≤ ySc y) (ho : o = mOut y q) (hob : ∀ p, o = some p → p.1 < ySc y ∧ p.2 < yKc y), gI K A s G H locs → lv_has ls 5 [(0, .ref (L 30 0)), (1, .int (mS o)), (2, .int (mKd o)), (3, .int (nI q))] → W p l e (gRoom 10 228 (12 * d9) (135 * d9)) s m ([.ref (L 30 0)] : List Value).toArray below meth c H locs 0 0 (gEnd K below (fun r9 G1 => ∃ L2 N2, r9 = some (.int (bI (yOne y).isSome)) ∧ MY K r L2 G1 (yNx y) N2 ∧ N ≤ N2 ∧ lOff (ySc y) L L2 ∧ frO r N G G1) (gNo) A ([.ref (L 30 0)] : List Value).toArray s (12 * d9) (135 * d9)) (F0 m 6 ls []) := by
    clear hI hl
    intro n
    induction n with
    | zero =>
      intro q o H locs ls hn hq ho hob hI hl
      exact absurd hn (Nat.not_lt_zero _)
    | succ n ih =>
      intro q o H locs ls hn hq ho hob hI hl
      refine lv_iload_n hx hb dX7_takeNext_6 rfl (lv_at hl 3 rfl) ?_
      refine lv_aload_n hx hb dX7_takeNext_7 rfl (lv_at hl 0 rfl) ?_
      refine g_get S hE hI (C := RX7) (T := TX7) (N := 3) (ref := "StonecutterYardModel$Yard") (fun w h => (List.mem_cons_of_mem _ (List.mem_append_left _ (List.mem_append_left _ (List.mem_append_left _ (List.mem_append_right _ h)))))) hm.1.1 rfl 0 (by decide) (List.mem_cons_of_mem _ (List.mem_append_left _ (List.mem_append_left _ (List.mem_append_left _ (List.mem_append_left _ (List.mem_append_left _ (List.mem_of_getElem? (i := 0) rfl))))))) (fun _ h9 => h9) (v := .ref (L 31 0)) rfl dX7_takeNext_8 ?_
      refine g_callV (As := []) (rest := [.int (nI q)]) (b := (L 31 0)) (n := 0) S hE hI hA (l_size l K _ (r, 31, 0) (tbL r 32) (L 31 0) (ySc y) (L 35) hm.2.1) gX7_takeNext_Jx4a65c_size_8abf5 rfl (by decide +kernel) ⟨Nat.le_of_ble_eq_true rfl, Nat.le_of_ble_eq_true rfl⟩ (g_hro hE hI hl1 rfl) rfl hl.1 rfl (Nat.le_of_ble_eq_true rfl) dX7_takeNext_11 ⟨by show _ ≤ 12 * d9; omega, by show _ ≤ 135 * d9; omega⟩ (fun E ce q9 Gx H1 locs1 hx9 => hx9.elim) (fun rv Gc_11 H locs hp hI => ?_)
      obtain ⟨rfl, hq9⟩ := hp
      rw [hq9] at hI
      refine W.eq (g2 := F0 m 14 ls [.int (nI (ySc y)), .int (nI q)]) rfl ?_
      refine lv_icmp_ge (tgt := 117) hx hb dX7_takeNext_14 (by decide) (fun c_14 => ?_) (fun c_14 => ?_)
      · skip
        have c_14 : (ySc y) ≤ q := (nI_leI (a := (ySc y)) (b := q) (by omega) (by omega)).mp c_14
        have ho : o = mOut y (ySc y) := by rw [ho, show q = ySc y by omega]
        refine lv_iload_n hx hb dX7_takeNext_117 rfl (lv_at hl 1 rfl) ?_
        refine lv_iconst (v := (-1)) hx hb dX7_takeNext_118 (by decide) ?_
        refine lv_icmp_eq (tgt := 134) hx hb dX7_takeNext_119 (by decide) (fun c_119 => ?_) (fun c_119 => ?_)
        · skip
          have hone : yOne y = none := mOut_none hpp (ho.symm.trans ((mS_m1 (fun p hp => by have := hob p hp; omega)).mp c_119))
          refine lv_iconst (v := nI 0) hx hb dX7_takeNext_134 (by decide) ?_
          exact g_zret S hI hr hlocks (Nat.zero_le _) (Nat.zero_le _) (Or.inl rfl) dX7_takeNext_135 ⟨L, N, by rw [hone]; rfl, by rw [show yNx y = y by unfold yNx; rw [hone]; rfl]; exact hm, Nat.le_refl _, lOff.rf, frO.rf⟩
        · skip
          have hnn : ¬ o = none := fun z9 => c_119 ((mS_m1 (fun p hp => by have := hob p hp; omega)).mpr z9)
          obtain ⟨p9, hp9⟩ : ∃ p, o = some p := by cases hc9 : o with | none => exact absurd hc9 hnn | some p => exact ⟨p, rfl⟩
          have hl : lv_has ls 5 [(0, .ref (L 30 0)), (1, .int (nI p9.1)), (2, .int (nI p9.2)), (3, .int (nI q))] := by rw [hp9] at hl; exact hl
          have hpb := hob p9 hp9
          refine lv_aload_n hx hb dX7_takeNext_122 rfl (lv_at hl 0 rfl) ?_
          refine g_get S hE hI (C := RX7) (T := TX7) (N := 3) (ref := "StonecutterYardModel$Yard") (fun w h => (List.mem_cons_of_mem _ (List.mem_append_left _ (List.mem_append_left _ (List.mem_append_left _ (List.mem_append_right _ h)))))) hm.1.1 rfl 0 (by decide) (List.mem_cons_of_mem _ (List.mem_append_left _ (List.mem_append_left _ (List.mem_append_left _ (List.mem_append_left _ (List.mem_append_left _ (List.mem_of_getElem? (i := 0) rfl))))))) (fun _ h9 => h9) (v := .ref (L 31 0)) rfl dX7_takeNext_123 ?_
          refine g_callV (As := []) (rest := []) (b := (L 31 0)) (n := 0) S hE hI hA (l_size l K _ (r, 31, 0) (tbL r 32) (L 31 0) (ySc y) (L 35) hm.2.1) gX7_takeNext_Jx4a65c_size_8abf5 rfl (by decide +kernel) ⟨Nat.le_of_ble_eq_true rfl, Nat.le_of_ble_eq_true rfl⟩ (g_hro hE hI hl1 rfl) rfl hl.1 rfl (Nat.le_of_ble_eq_true rfl) dX7_takeNext_126 ⟨by show _ ≤ 12 * d9; omega, by show _ ≤ 135 * d9; omega⟩ (fun E ce q9 Gx H1 locs1 hx9 => hx9.elim) (fun rv Gc_126 H locs hp hI => ?_)
          obtain ⟨rfl, hq9⟩ := hp
          rw [hq9] at hI
          refine W.eq (g2 := F0 m 129 ls [.int (nI (ySc y))]) rfl ?_
          refine lv_bipush (v := nI 36) hx hb dX7_takeNext_129 (by decide) ?_
          refine lv_icmp_le (tgt := 136) hx hb dX7_takeNext_131 (by decide) (fun c_131 => ?_) (fun c_131 => ?_)
          · skip
            have c_131 : (ySc y) ≤ 36 := (nI_leI (a := (ySc y)) (b := 36) (by omega) (by omega)).mp c_131
            obtain ⟨e1, e2⟩ := mOut_some hpp (ho.symm.trans hp9)
            obtain ⟨-, -, ⟨mn, e3⟩, -⟩ := yDear_p e2
            have hone : yOne y = some (yTake y p9.1 p9.2 mn) := yOne_s c_131 e1 e2 e3
            have hnx : yNx y = yTake y p9.1 p9.2 mn := by unfold yNx; rw [hone]; rfl
            refine lv_aload_n hx hb dX7_takeNext_136 rfl (lv_at hl 0 rfl) ?_
            refine lv_iload_n hx hb dX7_takeNext_137 rfl (lv_at hl 1 rfl) ?_
            refine lv_iload_n hx hb dX7_takeNext_138 rfl (lv_at hl 2 rfl) ?_
            refine g_callV (As := [.int (nI p9.1), .int (nI p9.2)]) (rest := []) (b := (L 30 0)) (n := 2) S hE hI hA (c_X7_take l K _ r L y N p9.1 p9.2 mn d9 hm hpb.1 hpb.2 e3 (by omega) hr50 (by rw [← hd9, hnx])) gX7_takeNext_X7_take rfl (by decide +kernel) ⟨Nat.le_of_ble_eq_true rfl, Nat.le_of_ble_eq_true rfl⟩ (g_hro hE hI hm.1.1 rfl) rfl hl.1 rfl (Nat.le_of_ble_eq_true rfl) dX7_takeNext_139 ⟨by show _ ≤ 12 * d9; omega, by show _ ≤ 135 * d9; omega⟩ (fun E ce q9 Gx H1 locs1 hx9 => hx9.elim) (fun rv Gc_139 H locs hp hI => ?_)
            obtain ⟨L7, N7, rfl, hm7, hN7, hL7, ho7⟩ := hp
            refine W.eq (g2 := F0 m 142 ls [.int (nI (sellP (yK y p9.2)))]) rfl ?_
            refine lv_pop hx hb dX7_takeNext_142 rfl ?_
            refine lv_iconst (v := nI 1) hx hb dX7_takeNext_143 (by decide) ?_
            exact g_zret S hI hr hlocks (by omega) (by omega) (Or.inr rfl) dX7_takeNext_144 ⟨L7, N7, by rw [hone]; rfl, by rw [hnx]; exact hm7, hN7, hL7, ho7⟩
          · skip
            have c_131 : 36 < (ySc y) := Nat.not_le.mp (fun z => c_131 ((nI_leI (a := (ySc y)) (b := 36) (by omega) (by omega)).mpr z))
            have hone : yOne y = none := yOne_full (by omega)
            refine lv_iconst (v := nI 0) hx hb dX7_takeNext_134 (by decide) ?_
            exact g_zret S hI hr hlocks (Nat.zero_le _) (Nat.zero_le _) (Or.inl rfl) dX7_takeNext_135 ⟨L, N, by rw [hone]; rfl, by rw [show yNx y = y by unfold yNx; rw [hone]; rfl]; exact hm, Nat.le_refl _, lOff.rf, frO.rf⟩
      · skip
        have c_14 : q < (ySc y) := Nat.not_le.mp (fun z => c_14 ((nI_leI (a := (ySc y)) (b := q) (by omega) (by omega)).mpr z))
        refine lv_iconst (v := nI 0) hx hb dX7_takeNext_17 (by decide) ?_
        refine lv_istore (lv' := [(4, .int (nI 0)), (0, .ref (L 30 0)), (1, .int (mS o)), (2, .int (mKd o)), (3, .int (nI q))]) hx hb dX7_takeNext_18 hl (by decide) rfl (fun ls hl => ?_)
        have L20 : ∀ (n : Nat) (k : Nat) (o2 : Option (Nat × Nat)) (H : Heap) (locs : List Loc) (ls : Array Slot) (hn : yKc y - k < n) (hk : k ≤ yKc y) (ho2 : o2 = mIn y q (mOut y q) k) (hob2 : ∀ p, o2 = some p → p.1 < ySc y ∧ p.2 < yKc y), gI K A s G H locs → lv_has ls 5 [(0, .ref (L 30 0)), (1, .int (mS o2)), (2, .int (mKd o2)), (3, .int (nI q)), (4, .int (nI k))] → W p l e (gRoom 10 228 (12 * d9) (135 * d9)) s m ([.ref (L 30 0)] : List Value).toArray below meth c H locs 0 0 (gEnd K below (fun r9 G1 => ∃ L2 N2, r9 = some (.int (bI (yOne y).isSome)) ∧ MY K r L2 G1 (yNx y) N2 ∧ N ≤ N2 ∧ lOff (ySc y) L L2 ∧ frO r N G G1) (gNo) A ([.ref (L 30 0)] : List Value).toArray s (12 * d9) (135 * d9)) (F0 m 20 ls []) := by
          clear hI hl
          intro n
          induction n with
          | zero =>
            intro k o2 H locs ls hn hk ho2 hob2 hI hl
            exact absurd hn (Nat.not_lt_zero _)
          | succ n ih20 =>
            intro k o2 H locs ls hn hk ho2 hob2 hI hl
            refine lv_iload hx hb dX7_takeNext_20 (lv_at hl 4 rfl) ?_
            refine lv_aload_n hx hb dX7_takeNext_22 rfl (lv_at hl 0 rfl) ?_
            refine g_get S hE hI (C := RX7) (T := TX7) (N := 3) (ref := "StonecutterYardModel$Yard") (fun w h => (List.mem_cons_of_mem _ (List.mem_append_left _ (List.mem_append_left _ (List.mem_append_left _ (List.mem_append_right _ h)))))) hm.1.1 rfl 1 (by decide) (List.mem_cons_of_mem _ (List.mem_append_left _ (List.mem_append_left _ (List.mem_append_left _ (List.mem_append_left _ (List.mem_append_left _ (List.mem_of_getElem? (i := 1) rfl))))))) (fun _ h9 => h9) (v := .ref (L 33 0)) rfl dX7_takeNext_23 ?_
            refine g_callV (As := []) (rest := [.int (nI k)]) (b := (L 33 0)) (n := 0) S hE hI hA (l_size l K _ (r, 33, 0) (tbL r 34) (L 33 0) (yKc y) (L 38) hm.2.2.1) gX7_takeNext_Jx4a65c_size_8abf5 rfl (by decide +kernel) ⟨Nat.le_of_ble_eq_true rfl, Nat.le_of_ble_eq_true rfl⟩ (g_hro hE hI hl2 rfl) rfl hl.1 rfl (Nat.le_of_ble_eq_true rfl) dX7_takeNext_26 ⟨by show _ ≤ 12 * d9; omega, by show _ ≤ 135 * d9; omega⟩ (fun E ce q9 Gx H1 locs1 hx9 => hx9.elim) (fun rv Gc_26 H locs hp hI => ?_)
            obtain ⟨rfl, hq9⟩ := hp
            rw [hq9] at hI
            refine W.eq (g2 := F0 m 29 ls [.int (nI (yKc y)), .int (nI k)]) rfl ?_
            refine lv_icmp_ge (tgt := 111) hx hb dX7_takeNext_29 (by decide) (fun c_29 => ?_) (fun c_29 => ?_)
            · skip
              have c_29 : (yKc y) ≤ k := (nI_leI (a := (yKc y)) (b := k) (by omega) (by omega)).mp c_29
              refine lv_iinc (v := nI (q + 1)) (lv' := [(3, .int (nI (q + 1))), (0, .ref (L 30 0)), (1, .int (mS o2)), (2, .int (mKd o2)), (4, .int (nI k))]) hx hb dX7_takeNext_111 hl (k := 3) rfl (nI_add _ 1) (by decide) rfl (fun ls hl => ?_)
              refine lv_goto (tgt := 6) hx hb dX7_takeNext_114 (by decide) ?_
              exact W.widen (by omega) (by omega) (ih (q + 1) o2 H locs ls (by omega) (by omega) (by rw [ho2, show k = yKc y by omega]; rfl) hob2 hI (lv_sub hl [1,2,3,0] rfl))
            · skip
              have c_29 : k < (yKc y) := Nat.not_le.mp (fun z => c_29 ((nI_leI (a := (yKc y)) (b := k) (by omega) (by omega)).mpr z))
              refine lv_aload_n hx hb dX7_takeNext_32 rfl (lv_at hl 0 rfl) ?_
              refine g_get S hE hI (C := RX7) (T := TX7) (N := 3) (ref := "StonecutterYardModel$Yard") (fun w h => (List.mem_cons_of_mem _ (List.mem_append_left _ (List.mem_append_left _ (List.mem_append_left _ (List.mem_append_right _ h)))))) hm.1.1 rfl 1 (by decide) (List.mem_cons_of_mem _ (List.mem_append_left _ (List.mem_append_left _ (List.mem_append_left _ (List.mem_append_left _ (List.mem_append_left _ (List.mem_of_getElem? (i := 1) rfl))))))) (fun _ h9 => h9) (v := .ref (L 33 0)) rfl dX7_takeNext_33 ?_
              refine lv_iload hx hb dX7_takeNext_36 (lv_at hl 4 rfl) ?_
              refine g_callV (As := [.int (nI k)]) (rest := []) (b := (L 33 0)) (n := 1) S hE hI hA (l_get l K _ (r, 33, 0) (tbL r 34) (L 33 0) (yKc y) (L 38) k hm.2.2.1 c_29) gX7_takeNext_Jx4a65c_get_915e3 rfl (by decide +kernel) ⟨Nat.le_of_ble_eq_true rfl, Nat.le_of_ble_eq_true rfl⟩ (g_hro hE hI hl2 rfl) rfl hl.1 rfl (Nat.le_of_ble_eq_true rfl) dX7_takeNext_38 ⟨by show _ ≤ 12 * d9; omega, by show _ ≤ 135 * d9; omega⟩ (fun E ce q9 Gx H1 locs1 hx9 => hx9.elim) (fun rv Gc_38 H locs hp hI => ?_)
              obtain ⟨rfl, hq9⟩ := hp
              rw [hq9] at hI
              obtain ⟨hkd, hkok⟩ := hm.2.2.2.2 k c_29
              have hkok9 := hkok
              obtain ⟨k1, k2, k3, k4, k5, k6, k7, k8, k9⟩ := hkok9
              refine W.eq (g2 := F0 m 41 ls [.ref (L 38 k)]) rfl ?_
              refine g_cast S (List.mem_cons_of_mem _ (List.mem_append_left _ (List.mem_append_left _ (List.mem_append_left _ (List.mem_append_left _ (List.mem_append_left _ (List.mem_of_getElem? (i := 2) rfl))))))) (g_hro hE hI hkd rfl) dX7_takeNext_41 ?_
              refine g_get S hE hI (C := RX5) (T := TX5) (N := 8) (ref := "StonecutterYardModel$Kind") (fun w h => (List.mem_cons_of_mem _ (List.mem_append_left _ (List.mem_append_left _ (List.mem_append_right _ h))))) hkd rfl 5 (by decide) (List.mem_cons_of_mem _ (List.mem_append_left _ (List.mem_append_left _ (List.mem_append_left _ (List.mem_append_left _ (List.mem_append_left _ (List.mem_of_getElem? (i := 3) rfl))))))) (fun _ h9 => h9) (v := .int (nI (kN (yK y k)))) rfl dX7_takeNext_44 ?_
              refine lv_if_eq (tgt := 105) hx hb dX7_takeNext_47 (by decide) (fun c_47 => ?_) (fun c_47 => ?_)
              · skip
                have c_47 : (kN (yK y k)) = 0 := (nI_eq (a := (kN (yK y k))) (b := 0) (by omega) (by omega)).mp c_47
                have hno : ¬ (okW y (yS y q) k = true ∧ mBe y q k (mIn y q (mOut y q) k) = true) := fun z9 => by rw [okW_0 c_47] at z9; exact absurd z9.1 (by decide)
                refine lv_iinc (v := nI (k + 1)) (lv' := [(4, .int (nI (k + 1))), (0, .ref (L 30 0)), (1, .int (mS o2)), (2, .int (mKd o2)), (3, .int (nI q))]) hx hb dX7_takeNext_105 hl (k := 4) rfl (nI_add _ 1) (by decide) rfl (fun ls hl => ?_)
                refine lv_goto (tgt := 20) hx hb dX7_takeNext_108 (by decide) ?_
                exact W.widen (by omega) (by omega) (ih20 (k + 1) o2 H locs ls (by omega) (by omega) (ho2.trans (mIn_no hno).symm) hob2 hI (lv_sub hl [1,2,3,4,0] rfl))
              · skip
                have c_47 : (kN (yK y k)) ≠ 0 := fun z => c_47 ((nI_eq (a := (kN (yK y k))) (b := 0) (by omega) (by omega)).mpr z)
                refine lv_aload_n hx hb dX7_takeNext_50 rfl (lv_at hl 0 rfl) ?_
                refine g_get S hE hI (C := RX7) (T := TX7) (N := 3) (ref := "StonecutterYardModel$Yard") (fun w h => (List.mem_cons_of_mem _ (List.mem_append_left _ (List.mem_append_left _ (List.mem_append_left _ (List.mem_append_right _ h)))))) hm.1.1 rfl 1 (by decide) (List.mem_cons_of_mem _ (List.mem_append_left _ (List.mem_append_left _ (List.mem_append_left _ (List.mem_append_left _ (List.mem_append_left _ (List.mem_of_getElem? (i := 1) rfl))))))) (fun _ h9 => h9) (v := .ref (L 33 0)) rfl dX7_takeNext_51 ?_
                refine lv_iload hx hb dX7_takeNext_54 (lv_at hl 4 rfl) ?_
                refine g_callV (As := [.int (nI k)]) (rest := []) (b := (L 33 0)) (n := 1) S hE hI hA (l_get l K _ (r, 33, 0) (tbL r 34) (L 33 0) (yKc y) (L 38) k hm.2.2.1 c_29) gX7_takeNext_Jx4a65c_get_915e3 rfl (by decide +kernel) ⟨Nat.le_of_ble_eq_true rfl, Nat.le_of_ble_eq_true rfl⟩ (g_hro hE hI hl2 rfl) rfl hl.1 rfl (Nat.le_of_ble_eq_true rfl) dX7_takeNext_56 ⟨by show _ ≤ 12 * d9; omega, by show _ ≤ 135 * d9; omega⟩ (fun E ce q9 Gx H1 locs1 hx9 => hx9.elim) (fun rv Gc_56 H locs hp hI => ?_)
                obtain ⟨rfl, hq9⟩ := hp
                rw [hq9] at hI
                obtain ⟨hkd, hkok⟩ := hm.2.2.2.2 k c_29
                have hkok9 := hkok
                obtain ⟨k1, k2, k3, k4, k5, k6, k7, k8, k9⟩ := hkok9
                refine W.eq (g2 := F0 m 59 ls [.ref (L 38 k)]) rfl ?_
                refine g_cast S (List.mem_cons_of_mem _ (List.mem_append_left _ (List.mem_append_left _ (List.mem_append_left _ (List.mem_append_left _ (List.mem_append_left _ (List.mem_of_getElem? (i := 2) rfl))))))) (g_hro hE hI hkd rfl) dX7_takeNext_59 ?_
                refine lv_aload_n hx hb dX7_takeNext_62 rfl (lv_at hl 0 rfl) ?_
                refine g_get S hE hI (C := RX7) (T := TX7) (N := 3) (ref := "StonecutterYardModel$Yard") (fun w h => (List.mem_cons_of_mem _ (List.mem_append_left _ (List.mem_append_left _ (List.mem_append_left _ (List.mem_append_right _ h)))))) hm.1.1 rfl 0 (by decide) (List.mem_cons_of_mem _ (List.mem_append_left _ (List.mem_append_left _ (List.mem_append_left _ (List.mem_append_left _ (List.mem_append_left _ (List.mem_of_getElem? (i := 0) rfl))))))) (fun _ h9 => h9) (v := .ref (L 31 0)) rfl dX7_takeNext_63 ?_
                refine lv_iload_n hx hb dX7_takeNext_66 rfl (lv_at hl 3 rfl) ?_
                refine g_callV (As := [.int (nI q)]) (rest := [.ref (L 38 k)]) (b := (L 31 0)) (n := 1) S hE hI hA (l_get l K _ (r, 31, 0) (tbL r 32) (L 31 0) (ySc y) (L 35) q hm.2.1 c_14) gX7_takeNext_Jx4a65c_get_915e3 rfl (by decide +kernel) ⟨Nat.le_of_ble_eq_true rfl, Nat.le_of_ble_eq_true rfl⟩ (g_hro hE hI hl1 rfl) rfl hl.1 rfl (Nat.le_of_ble_eq_true rfl) dX7_takeNext_67 ⟨by show _ ≤ 12 * d9; omega, by show _ ≤ 135 * d9; omega⟩ (fun E ce q9 Gx H1 locs1 hx9 => hx9.elim) (fun rv Gc_67 H locs hp hI => ?_)
                obtain ⟨rfl, hq9⟩ := hp
                rw [hq9] at hI
                obtain ⟨hsl, hfl, hsok⟩ := hm.2.2.2.1 q c_14
                have hsok9 := hsok
                obtain ⟨s1, s2, s3, s4, s5, s6, s7, s8⟩ := hsok9
                refine W.eq (g2 := F0 m 70 ls [.ref (L 35 q), .ref (L 38 k)]) rfl ?_
                refine g_cast S (List.mem_cons_of_mem _ (List.mem_append_left _ (List.mem_append_left _ (List.mem_append_left _ (List.mem_append_left _ (List.mem_append_left _ (List.mem_of_getElem? (i := 4) rfl))))))) (g_hro hE hI hsl rfl) dX7_takeNext_70 ?_
                refine g_callV (As := [.ref (L 35 q)]) (rest := []) (b := (L 38 k)) (n := 1) S hE hI hA (c_X5_fits l K _ (r, 38, k) (r, 35, q) (r, 36, q) (tbF r q) (L 38 k) (L 35 q) (yS y q) (yK y k) (L 36 q) N hkd hsl hfl hsok hkok) gX7_takeNext_X5_fits rfl (by decide +kernel) ⟨Nat.le_of_ble_eq_true rfl, Nat.le_of_ble_eq_true rfl⟩ (g_hro hE hI hkd rfl) rfl hl.1 rfl (Nat.le_of_ble_eq_true rfl) dX7_takeNext_73 ⟨by show _ ≤ 12 * d9; omega, by show _ ≤ 135 * d9; omega⟩ (fun E ce q9 Gx H1 locs1 hx9 => hx9.elim) (fun rv Gc_73 H locs hp hI => ?_)
                obtain ⟨rfl, hq9⟩ := hp
                rw [hq9] at hI
                refine W.eq (g2 := F0 m 76 ls [.int (oI (sFits (yS y q) (yK y k)))]) rfl ?_
                refine lv_iconst (v := (-1)) hx hb dX7_takeNext_76 (by decide) ?_
                refine lv_icmp_eq (tgt := 105) hx hb dX7_takeNext_77 (by decide) (fun c_77 => ?_) (fun c_77 => ?_)
                · skip
                  have hno : ¬ (okW y (yS y q) k = true ∧ mBe y q k (mIn y q (mOut y q) k) = true) := fun z9 => by rw [okW_n (sFits_m1.mp c_77)] at z9; exact absurd z9.1 (by decide)
                  refine lv_iinc (v := nI (k + 1)) (lv' := [(4, .int (nI (k + 1))), (0, .ref (L 30 0)), (1, .int (mS o2)), (2, .int (mKd o2)), (3, .int (nI q))]) hx hb dX7_takeNext_105 hl (k := 4) rfl (nI_add _ 1) (by decide) rfl (fun ls hl => ?_)
                  refine lv_goto (tgt := 20) hx hb dX7_takeNext_108 (by decide) ?_
                  exact W.widen (by omega) (by omega) (ih20 (k + 1) o2 H locs ls (by omega) (by omega) (ho2.trans (mIn_no hno).symm) hob2 hI (lv_sub hl [1,2,3,4,0] rfl))
                · skip
                  have hok : okW y (yS y q) k = true := okW_y c_47 (fun z9 => c_77 (sFits_m1.mpr z9))
                  refine lv_iload_n hx hb dX7_takeNext_80 rfl (lv_at hl 1 rfl) ?_
                  refine lv_iconst (v := (-1)) hx hb dX7_takeNext_81 (by decide) ?_
                  refine lv_icmp_eq (tgt := 100) hx hb dX7_takeNext_82 (by decide) (fun c_82 => ?_) (fun c_82 => ?_)
                  · skip
                    have hnn : o2 = none := (mS_m1 (fun p hp => by have := hob2 p hp; omega)).mp c_82
                    have hbe : mBe y q k (mIn y q (mOut y q) k) = true := by rw [← ho2, hnn]; rfl
                    refine lv_iload_n hx hb dX7_takeNext_100 rfl (lv_at hl 3 rfl) ?_
                    refine lv_istore_n (lv' := [(1, .int (nI q)), (0, .ref (L 30 0)), (2, .int (mKd o2)), (3, .int (nI q)), (4, .int (nI k))]) hx hb dX7_takeNext_101 rfl hl (by decide) rfl (fun ls hl => ?_)
                    refine lv_iload hx hb dX7_takeNext_102 (lv_at hl 4 rfl) ?_
                    refine lv_istore_n (lv' := [(2, .int (nI k)), (1, .int (nI q)), (0, .ref (L 30 0)), (3, .int (nI q)), (4, .int (nI k))]) hx hb dX7_takeNext_104 rfl hl (by decide) rfl (fun ls hl => ?_)
                    refine lv_iinc (v := nI (k + 1)) (lv' := [(4, .int (nI (k + 1))), (2, .int (nI k)), (1, .int (nI q)), (0, .ref (L 30 0)), (3, .int (nI q))]) hx hb dX7_takeNext_105 hl (k := 4) rfl (nI_add _ 1) (by decide) rfl (fun ls hl => ?_)
                    refine lv_goto (tgt := 20) hx hb dX7_takeNext_108 (by decide) ?_
                    exact W.widen (by omega) (by omega) (ih20 (k + 1) (some (q, k)) H locs ls (by omega) (by omega) (mIn_yes hok hbe).symm (fun p hp => by cases hp; exact ⟨c_14, c_29⟩) hI (lv_sub hl [3,2,1,4,0] rfl))
                  · skip
                    have hnn : ¬ o2 = none := fun z9 => c_82 ((mS_m1 (fun p hp => by have := hob2 p hp; omega)).mpr z9)
                    obtain ⟨p9, hp9⟩ : ∃ p, o2 = some p := by cases hc9 : o2 with | none => exact absurd hc9 hnn | some p => exact ⟨p, rfl⟩
                    have hl : lv_has ls 5 [(0, .ref (L 30 0)), (1, .int (nI p9.1)), (2, .int (nI p9.2)), (3, .int (nI q)), (4, .int (nI k))] := by rw [hp9] at hl; exact hl
                    have hpb := hob2 p9 hp9
                    refine lv_aload_n hx hb dX7_takeNext_85 rfl (lv_at hl 0 rfl) ?_
                    refine lv_iload_n hx hb dX7_takeNext_86 rfl (lv_at hl 3 rfl) ?_
                    refine lv_iload hx hb dX7_takeNext_87 (lv_at hl 4 rfl) ?_
                    refine lv_iload_n hx hb dX7_takeNext_89 rfl (lv_at hl 1 rfl) ?_
                    refine lv_iload_n hx hb dX7_takeNext_90 rfl (lv_at hl 2 rfl) ?_
                    refine g_callV (As := [.int (nI q), .int (nI k), .int (nI p9.1), .int (nI p9.2)]) (rest := []) (b := (L 30 0)) (n := 4) S hE hI hA (c_X7_isBetter l K _ r L y N q k p9.1 p9.2 hm c_14 hpb.1 c_29 hpb.2) gX7_takeNext_X7_isBetter rfl (by decide +kernel) ⟨Nat.le_of_ble_eq_true rfl, Nat.le_of_ble_eq_true rfl⟩ (g_hro hE hI hm.1.1 rfl) rfl hl.1 rfl (Nat.le_of_ble_eq_true rfl) dX7_takeNext_91 ⟨by show _ ≤ 12 * d9; omega, by show _ ≤ 135 * d9; omega⟩ (fun E ce q9 Gx H1 locs1 hx9 => hx9.elim) (fun rv Gc_91 H locs hp hI => ?_)
                    obtain ⟨rfl, hq9⟩ := hp
                    rw [hq9] at hI
                    refine W.eq (g2 := F0 m 94 ls [.int (bI (mBet y q k p9.1 p9.2))]) rfl ?_
                    refine lv_if_ne (tgt := 100) hx hb dX7_takeNext_94 (by decide) (fun c_94 => ?_) (fun c_94 => ?_)
                    · skip
                      have c_94 : (mBet y q k p9.1 p9.2) = true := bI_1.mp c_94
                      have hbe : mBe y q k (mIn y q (mOut y q) k) = true := by rw [← ho2, hp9]; exact c_94
                      refine lv_iload_n hx hb dX7_takeNext_100 rfl (lv_at hl 3 rfl) ?_
                      refine lv_istore_n (lv' := [(1, .int (nI q)), (0, .ref (L 30 0)), (2, .int (nI p9.2)), (3, .int (nI q)), (4, .int (nI k))]) hx hb dX7_takeNext_101 rfl hl (by decide) rfl (fun ls hl => ?_)
                      refine lv_iload hx hb dX7_takeNext_102 (lv_at hl 4 rfl) ?_
                      refine lv_istore_n (lv' := [(2, .int (nI k)), (1, .int (nI q)), (0, .ref (L 30 0)), (3, .int (nI q)), (4, .int (nI k))]) hx hb dX7_takeNext_104 rfl hl (by decide) rfl (fun ls hl => ?_)
                      refine lv_iinc (v := nI (k + 1)) (lv' := [(4, .int (nI (k + 1))), (2, .int (nI k)), (1, .int (nI q)), (0, .ref (L 30 0)), (3, .int (nI q))]) hx hb dX7_takeNext_105 hl (k := 4) rfl (nI_add _ 1) (by decide) rfl (fun ls hl => ?_)
                      refine lv_goto (tgt := 20) hx hb dX7_takeNext_108 (by decide) ?_
                      exact W.widen (by omega) (by omega) (ih20 (k + 1) (some (q, k)) H locs ls (by omega) (by omega) (mIn_yes hok hbe).symm (fun p hp => by cases hp; exact ⟨c_14, c_29⟩) hI (lv_sub hl [3,2,1,4,0] rfl))
                    · skip
                      have c_94 : (mBet y q k p9.1 p9.2) = false := bI_0.mp c_94
                      have hno : ¬ (okW y (yS y q) k = true ∧ mBe y q k (mIn y q (mOut y q) k) = true) := fun z9 => by have z8 := z9.2; rw [← ho2, hp9, show mBe y q k (some p9) = mBet y q k p9.1 p9.2 from rfl, c_94] at z8; cases z8
                      refine lv_goto (tgt := 105) hx hb dX7_takeNext_97 (by decide) ?_
                      refine lv_iinc (v := nI (k + 1)) (lv' := [(4, .int (nI (k + 1))), (0, .ref (L 30 0)), (1, .int (nI p9.1)), (2, .int (nI p9.2)), (3, .int (nI q))]) hx hb dX7_takeNext_105 hl (k := 4) rfl (nI_add _ 1) (by decide) rfl (fun ls hl => ?_)
                      refine lv_goto (tgt := 20) hx hb dX7_takeNext_108 (by decide) ?_
                      exact W.widen (by omega) (by omega) (ih20 (k + 1) (some p9) H locs ls (by omega) (by omega) (by rw [← hp9]; exact ho2.trans (mIn_no hno).symm) (by rw [← hp9]; exact hob2) hI (lv_sub hl [1,2,3,4,0] rfl))
        exact W.widen (by omega) (by omega) (L20 _ 0 o H locs ls (Nat.lt_succ_self _) (Nat.zero_le _) (by rw [ho]; rfl) hob hI (lv_sub hl [1,2,3,4,0] rfl))
  exact W.widen (by omega) (by omega) (L6 _ 0 none H locs ls (Nat.lt_succ_self _) (Nat.zero_le _) rfl (fun p hp => by cases hp) hI (lv_sub hl [3,2,1,0] rfl))
set_option maxHeartbeats 4000000 in
set_option maxRecDepth 100000 in
/-- Yard.plan(most) -/
theorem c_X7_plan (l : Launch) (K : gK) (G : gW) (r : Nat) (L : Nat → Nat → Nat) (y : YV) (N : Nat) (most d9 : Nat) (hm : MY K r L G y N) (hr50 : r ≠ 50) (hmo : most ≤ 20) (hd9 : ySc (yPlan most y).2 = ySc y + d9) : gM l yX7_plan wsX7_plan 11 252 (12 * d9) (135 * d9) K [.ref (L 30 0), .int (nI most)] G (fun r9 G1 => ∃ L2 N2, r9 = some (.int (nI (yPlan most y).1)) ∧ MY K r L2 G1 ((yPlan most y).2) N2 ∧ N ≤ N2 ∧ lOff (ySc y) L L2 ∧ frO r N G G1) (gNo) := by
  refine gM.of (cc := cX7_plan) (maxL := 3) (ret := (some .int)) (by decide) rfl (Nat.le_of_ble_eq_true rfl) ?_
  intro p e s m below meth c A S hr hlocks htab hname hE hA hI ls hl
  have hx := S.1
  have hb := S.2.1
  have hml := S.2.2.1
  have hl : lv_has ls 3 [(0, .ref (L 30 0)), (1, .int (nI most))] := hl
  have h44 := hm.1.2.2.1
  have h6 := hm.1.2.2.2
  have hf2 := hm.1.2.1
  obtain ⟨m1, ar1, hl1⟩ := hm.2.1.obj
  obtain ⟨m2, ar2, hl2⟩ := hm.2.2.1.obj
  obtain ⟨H, hHe⟩ : ∃ z, z = s.heap := ⟨_, rfl⟩
  obtain ⟨locs, hLe⟩ : ∃ z : List Loc, z = [] := ⟨_, rfl⟩
  rw [← hHe, ← hLe]
  have hI : gI K A s G H locs := by rw [hHe, hLe]; exact hI
  clear hHe hLe
  refine lv_iconst (v := nI 0) hx hb dX7_plan_0 (by decide) ?_
  refine lv_istore_n (lv' := [(2, .int (nI 0)), (0, .ref (L 30 0)), (1, .int (nI most))]) hx hb dX7_plan_1 rfl hl (by decide) rfl (fun ls hl => ?_)
  have L2 : ∀ (n : Nat) (k : Nat) (y1 : YV) (L1 : Nat → Nat → Nat) (N1 d1 : Nat) (G1 : gW) (H : Heap) (locs : List Loc) (ls : Array Slot) (hn : most - k < n) (hk : k ≤ most) (hpl : yPlan most y = ((yPlan (most - k) y1).1 + k, (yPlan (most - k) y1).2)) (hd1 : ySc y1 = ySc y + d1) (hm1 : MY K r L1 G1 y1 N1) (hN1 : N ≤ N1) (hL1 : lOff (ySc y) L L1) (ho1 : frO r N G G1), gI K A s G1 H locs → lv_has ls 3 [(0, .ref (L1 30 0)), (1, .int (nI most)), (2, .int (nI k))] → W p l e (gRoom 11 252 (12 * d9) (135 * d9)) s m ([.ref (L 30 0), .int (nI most)] : List Value).toArray below meth c H locs (12 * d1) (135 * d1) (gEnd K below (fun r9 G1 => ∃ L2 N2, r9 = some (.int (nI (yPlan most y).1)) ∧ MY K r L2 G1 ((yPlan most y).2) N2 ∧ N ≤ N2 ∧ lOff (ySc y) L L2 ∧ frO r N G G1) (gNo) A ([.ref (L 30 0), .int (nI most)] : List Value).toArray s (12 * d9) (135 * d9)) (F0 m 2 ls []) := by
    clear hI hl
    intro n
    induction n with
    | zero =>
      intro k y1 L1 N1 d1 G1 H locs ls hn hk hpl hd1 hm1 hN1 hL1 ho1 hI hl
      exact absurd hn (Nat.not_lt_zero _)
    | succ n ih =>
      intro k y1 L1 N1 d1 G1 H locs ls hn hk hpl hd1 hm1 hN1 hL1 ho1 hI hl
      obtain ⟨m1, ar1, hl1⟩ := hm1.2.1.obj
      obtain ⟨m2, ar2, hl2⟩ := hm1.2.2.1.obj
      have hdd : ySc y1 ≤ ySc (yPlan (most - k) y1).2 := yPlan_ge
      have hde : ySc (yPlan most y).2 = ySc (yPlan (most - k) y1).2 := by rw [hpl]
      refine lv_iload_n hx hb dX7_plan_2 rfl (lv_at hl 2 rfl) ?_
      refine lv_iload_n hx hb dX7_plan_3 rfl (lv_at hl 1 rfl) ?_
      refine lv_icmp_ge (tgt := 20) hx hb dX7_plan_4 (by decide) (fun c_4 => ?_) (fun c_4 => ?_)
      · skip
        have c_4 : most ≤ k := (nI_leI (a := most) (b := k) (by omega) (by omega)).mp c_4
        have hend : yPlan most y = (k, y1) := by rw [hpl, show most - k = 0 by omega, show yPlan 0 y1 = (0, y1) from rfl, Nat.zero_add]
        refine lv_iload_n hx hb dX7_plan_20 rfl (lv_at hl 2 rfl) ?_
        exact g_iret S hI hr hlocks (by omega) (by omega) dX7_plan_21 ⟨L1, N1, by rw [hend], by rw [hend]; exact hm1, hN1, hL1, ho1⟩
      · skip
        have c_4 : k < most := Nat.not_le.mp (fun z => c_4 ((nI_leI (a := most) (b := k) (by omega) (by omega)).mpr z))
        obtain ⟨d2, hd2⟩ : ∃ d2, ySc (yNx y1) = ySc y1 + d2 := ⟨_, (Nat.add_sub_cancel' yNx_ge).symm⟩
        obtain ⟨m9, hmk⟩ : ∃ m9, most - k = m9 + 1 := ⟨most - k - 1, by omega⟩
        have hnx9 : ySc (yNx y1) ≤ ySc (yPlan (most - k) y1).2 := yPlan_nx (by omega)
        have hd99 : d1 + d2 ≤ d9 := by omega
        refine lv_aload_n hx hb dX7_plan_7 rfl (lv_at hl 0 rfl) ?_
        refine g_callV (As := []) (rest := []) (b := (L1 30 0)) (n := 0) S hE hI hA (c_X7_takeNext l K _ r L1 y1 N1 d2 hm1 hr50 hd2) gX7_plan_X7_takeNext rfl (by decide +kernel) ⟨Nat.le_of_ble_eq_true rfl, Nat.le_of_ble_eq_true rfl⟩ (g_hro hE hI hm1.1.1 rfl) rfl hl.1 rfl (Nat.le_of_ble_eq_true rfl) dX7_plan_8 ⟨by show _ ≤ 12 * d9; omega, by show _ ≤ 135 * d9; omega⟩ (fun E ce q9 Gx H1 locs1 hx9 => hx9.elim) (fun rv Gc_8 H locs hp hI => ?_)
        obtain ⟨L7, N7, rfl, hm7, hN7, hL7, ho7⟩ := hp
        rw [show L1 30 0 = L7 30 0 from (hL7 30 0 (Or.inl (by decide))).symm] at hl
        refine W.eq (g2 := F0 m 11 ls [.int (bI ((yOne y1).isSome))]) rfl ?_
        refine lv_if_eq (tgt := 20) hx hb dX7_plan_11 (by decide) (fun c_11 => ?_) (fun c_11 => ?_)
        · skip
          have c_11 : (yOne y1).isSome = false := bI_0.mp c_11
          obtain ⟨e1, e2⟩ := yNx_none c_11
          have hend : yPlan most y = (k, y1) := by rw [hpl, yPlan_n e1, Nat.zero_add]
          refine lv_iload_n hx hb dX7_plan_20 rfl (lv_at hl 2 rfl) ?_
          exact g_iret S hI hr hlocks (by omega) (by omega) dX7_plan_21 ⟨L7, N7, by rw [hend], by rw [hend]; rw [e2] at hm7; exact hm7, Nat.le_trans hN1 hN7, hL1.tr hL7 (by omega), ho1.tr ho7 hN1⟩
        · skip
          have c_11 : (yOne y1).isSome = true := bI_1.mp c_11
          refine lv_iinc (v := nI (k + 1)) (lv' := [(2, .int (nI (k + 1))), (0, .ref (L7 30 0)), (1, .int (nI most))]) hx hb dX7_plan_14 hl (k := 2) rfl (nI_add _ 1) (by decide) rfl (fun ls hl => ?_)
          refine lv_goto (tgt := 2) hx hb dX7_plan_17 (by decide) ?_
          exact W.widen (by omega) (by omega) (ih (k + 1) (yNx y1) L7 N7 (d1 + d2) Gc_8 H locs ls (by omega) (by omega) (by rw [hpl, hmk, yPlan_1 (yNx_some c_11), show most - (k + 1) = m9 by omega, Nat.add_assoc, Nat.add_comm 1 k]) (by omega) hm7 (Nat.le_trans hN1 hN7) (hL1.tr hL7 (by omega)) (ho1.tr ho7 hN1) hI (lv_sub hl [1,2,0] rfl))
  exact W.widen (by omega) (by omega) (L2 _ 0 y L N 0 G H locs ls (Nat.lt_succ_self _) (Nat.zero_le _) rfl rfl hm (Nat.le_refl _) lOff.rf frO.rf hI (lv_sub hl [1,2,0] rfl))
