/-! what a plan takes, and what lies longest -/
theorem yLong_yes {y : YV} {g : Nat} {b : Bool} {n : Nat} (h : sT (yS y n) = 0) (h2 : sG (yS y n) = g) : yLong y g b (n + 1) = max (yLong y g b n) (yLen (yS y n) b) := by
  rw [yLong, if_pos ⟨h, h2⟩]
theorem yLong_no {y : YV} {g : Nat} {b : Bool} {n : Nat} (h : ¬ (sT (yS y n) = 0 ∧ sG (yS y n) = g)) : yLong y g b (n + 1) = yLong y g b n := by
  rw [yLong, if_neg h]
theorem yDear_p {y : YV} {i j : Nat} (h : (yDear y i).1 = some j) : j < yKc y ∧ 0 < kN (yK y j) ∧ (∃ mn, sFits (yS y i) (yK y j) = some mn) ∧ (yDear y i).2 = kP (yK y j) := by
  obtain ⟨h1, h2, h3⟩ := bestN_some h
  have h4 := (Bool.and_eq_true _ _).mp h2
  exact ⟨h1, of_decide_eq_true h4.1, Option.isSome_iff_exists.mp h4.2, h3⟩
theorem yNext_yes {y : YV} {n j : Nat} (hd : (yDear y n).1 = some j) (h : (yNext y n).2.1 < kP (yK y j) ∨ (kP (yK y j) = (yNext y n).2.1 ∧ sA (yS y n) < (yNext y n).2.2)) : yNext y (n + 1) = (some n, kP (yK y j), sA (yS y n)) := by
  have e := (yDear_p hd).2.2.2
  rw [yNext, if_pos ⟨by rw [hd]; rfl, by rw [e]; exact h⟩, e]
theorem yNext_no {y : YV} {n : Nat} (h : ∀ j, (yDear y n).1 = some j → ¬ ((yNext y n).2.1 < kP (yK y j) ∨ (kP (yK y j) = (yNext y n).2.1 ∧ sA (yS y n) < (yNext y n).2.2))) : yNext y (n + 1) = yNext y n := by
  rw [yNext, if_neg]
  intro z
  obtain ⟨j, hj⟩ := Option.isSome_iff_exists.mp z.1
  refine h j hj ?_
  rw [← (yDear_p hj).2.2.2]
  exact z.2
theorem yNext_some {y : YV} {i : Nat} : ∀ {n : Nat}, (yNext y n).1 = some i → i < n ∧ ∃ j, (yDear y i).1 = some j
  | 0, h => by cases h
  | n + 1, h => by
    rw [yNext] at h
    split at h
    · rename_i c
      cases h
      exact ⟨Nat.lt_succ_self _, Option.isSome_iff_exists.mp c.1⟩
    · obtain ⟨h1, h2⟩ := yNext_some h
      exact ⟨Nat.lt_succ_of_lt h1, h2⟩
/-- a plan of at most n stones: how many, and the yard behind it -/
def yPlan : Nat → YV → Nat × YV
  | 0, y => (0, y)
  | n + 1, y => if ySc y ≤ 36 then match (yNext y (ySc y)).1 with
      | none => (0, y)
      | some i => match (yDear y i).1 with
        | none => (0, y)
        | some j => match sFits (yS y i) (yK y j) with
          | none => (0, y)
          | some mn => ((yPlan n (yTake y i j mn)).1 + 1, (yPlan n (yTake y i j mn)).2)
    else (0, y)
theorem yPlan_full {n : Nat} {y : YV} (h : ¬ ySc y ≤ 36) : yPlan n y = (0, y) := by
  cases n with
  | zero => rfl
  | succ n => rw [yPlan, if_neg h]
theorem yPlan_none {n : Nat} {y : YV} (h : (yNext y (ySc y)).1 = none) : yPlan n y = (0, y) := by
  cases n with
  | zero => rfl
  | succ n =>
    rw [yPlan, h]
    split <;> rfl
theorem yPlan_s {n i j mn : Nat} {y : YV} (h : ySc y ≤ 36) (h1 : (yNext y (ySc y)).1 = some i) (h2 : (yDear y i).1 = some j) (h3 : sFits (yS y i) (yK y j) = some mn) : yPlan (n + 1) y = ((yPlan n (yTake y i j mn)).1 + 1, (yPlan n (yTake y i j mn)).2) := by
  rw [yPlan, if_pos h, h1]
  show (match (yDear y i).1 with | none => _ | some j => _) = _
  rw [h2]
  show (match sFits (yS y i) (yK y j) with | none => _ | some mn => _) = _
  rw [h3]
theorem sA_lt {u : SV} (h : sOK u) : sA u ≤ 576 := by
  obtain ⟨s1, s2, s3, s4, -⟩ := h
  exact Nat.mul_le_mul s2 s4
set_option maxHeartbeats 4000000 in
set_option maxRecDepth 100000 in
/-- Stock.longestThere(grain, isDown) -/
theorem c_X3_longestThere (l : Launch) (K : gK) (G : gW) (z : Bool) (r : Nat) (L : Nat → Nat → Nat) (y : YV) (g : Nat) (b : Bool) (hs : StockG K z r L G y) (hg1 : g ≤ 1) : gM l yX3_longestThere wsX3_longestThere 3 61 0 0 K [.ref (L 0 0), .int (nI g), .int (bI b)] G (fun v G1 => v = some (.int (nI (yLong y g b (ySc y)))) ∧ G1 = G) (gNo) := by
  refine gM.of (cc := cX3_longestThere) (maxL := 6) (ret := (some .int)) (by decide) rfl (Nat.le_of_ble_eq_true rfl) ?_
  intro p e s m below meth c A S hr hlocks htab hname hE hA hI ls hl
  have hx := S.1
  have hb := S.2.1
  have hml := S.2.2.1
  have hl : lv_has ls 6 [(0, .ref (L 0 0)), (1, .int (nI g)), (2, .int (bI b))] := hl
  have h44 := hs.1.2.2.2.1
  have h6 := hs.1.2.2.2.2.1
  have hf2 := hs.1.2.2.2.2.2
  obtain ⟨H, hHe⟩ : ∃ z, z = s.heap := ⟨_, rfl⟩
  obtain ⟨locs, hLe⟩ : ∃ z : List Loc, z = [] := ⟨_, rfl⟩
  rw [← hHe, ← hLe]
  have hI : gI K A s G H locs := by rw [hHe, hLe]; exact hI
  clear hHe hLe
  refine lv_iconst (v := nI 0) hx hb dX3_longestThere_0 (by decide) ?_
  refine lv_istore_n (lv' := [(3, .int (nI 0)), (0, .ref (L 0 0)), (1, .int (nI g)), (2, .int (bI b))]) hx hb dX3_longestThere_1 rfl hl (by decide) rfl (fun ls hl => ?_)
  refine lv_iconst (v := nI 0) hx hb dX3_longestThere_2 (by decide) ?_
  refine lv_istore (lv' := [(4, .int (nI 0)), (3, .int (nI 0)), (0, .ref (L 0 0)), (1, .int (nI g)), (2, .int (bI b))]) hx hb dX3_longestThere_3 hl (by decide) rfl (fun ls hl => ?_)
  have L5 : ∀ (n : Nat) (i m0 : Nat) (H : Heap) (locs : List Loc) (ls : Array Slot) (hn : ySc y - i < n) (hi : i ≤ ySc y) (hm0 : m0 = yLong y g b i) (hm24 : m0 ≤ 24), gI K A s G H locs → lv_has ls 6 [(0, .ref (L 0 0)), (1, .int (nI g)), (2, .int (bI b)), (3, .int (nI m0)), (4, .int (nI i))] → W p l e (gRoom 3 61 0 0) s m ([.ref (L 0 0), .int (nI g), .int (bI b)] : List Value).toArray below meth c H locs 0 0 (gEnd K below (fun v G1 => v = some (.int (nI (yLong y g b (ySc y)))) ∧ G1 = G) (gNo) A ([.ref (L 0 0), .int (nI g), .int (bI b)] : List Value).toArray s 0 0) (F0 m 5 ls []) := by
    clear hI hl
    intro n
    induction n with
    | zero =>
      intro i m0 H locs ls hn hi hm0 hm24 hI hl
      exact absurd hn (Nat.not_lt_zero _)
    | succ n ih =>
      intro i m0 H locs ls hn hi hm0 hm24 hI hl
      refine lv_iload hx hb dX3_longestThere_5 (lv_at hl 4 rfl) ?_
      refine lv_aload_n hx hb dX3_longestThere_7 rfl (lv_at hl 0 rfl) ?_
      refine g_get S hE hI (C := RX3) (T := TX3) (N := 5) (ref := "StonecutterYard$Stock") (fun w h => (List.mem_cons_of_mem _ (List.mem_append_left _ (List.mem_append_right _ h)))) hs.1.1 rfl 2 (by decide) (List.mem_cons_of_mem _ (List.mem_append_left _ (List.mem_append_left _ (List.mem_of_getElem? (i := 0) rfl)))) (fun _ h9 => h9) (v := .int (nI (ySc y))) rfl dX3_longestThere_8 ?_
      refine lv_icmp_ge (tgt := 61) hx hb dX3_longestThere_11 (by decide) (fun c_11 => ?_) (fun c_11 => ?_)
      · skip
        have c_11 : (ySc y) ≤ i := (nI_leI (a := (ySc y)) (b := i) (by omega) (by omega)).mp c_11
        refine lv_iload_n hx hb dX3_longestThere_61 rfl (lv_at hl 3 rfl) ?_
        exact g_iret S hI hr hlocks (Nat.zero_le _) (Nat.zero_le _) dX3_longestThere_62 ⟨by rw [hm0, show i = ySc y by omega], rfl⟩
      · skip
        have c_11 : i < (ySc y) := Nat.not_le.mp (fun z => c_11 ((nI_leI (a := (ySc y)) (b := i) (by omega) (by omega)).mpr z))
        refine lv_aload_n hx hb dX3_longestThere_14 rfl (lv_at hl 0 rfl) ?_
        refine lv_iload hx hb dX3_longestThere_15 (lv_at hl 4 rfl) ?_
        refine g_callV (As := [.int (nI i)]) (rest := []) (b := (L 0 0)) (n := 1) S hE hI hA (c_slabIn l K _ r L (ySc y) (yKc y) (yF y) i hs.1 c_11) gX3_longestThere_X3_slabOrNull rfl (by decide +kernel) ⟨Nat.le_of_ble_eq_true rfl, Nat.le_of_ble_eq_true rfl⟩ (g_hro hE hI hs.1.1 rfl) rfl hl.1 rfl (Nat.le_of_ble_eq_true rfl) dX3_longestThere_17 ⟨Nat.le_of_ble_eq_true rfl, Nat.le_of_ble_eq_true rfl⟩ (fun E ce q9 Gx H1 locs1 hx9 => hx9.elim) (fun rv Gc_17 H locs hp hI => ?_)
        obtain ⟨rfl, hq9⟩ := hp
        rw [hq9] at hI
        obtain ⟨P, hsl, hpt, hpk, hsok⟩ := hs.slab c_11
        have hsok9 := hsok
        obtain ⟨s1, s2, s3, s4, s5, s6, s7, s8⟩ := hsok9
        refine W.eq (g2 := F0 m 20 ls [.ref (L 3 i)]) rfl ?_
        refine lv_astore (lv' := [(5, .ref (L 3 i)), (0, .ref (L 0 0)), (1, .int (nI g)), (2, .int (bI b)), (3, .int (nI m0)), (4, .int (nI i))]) hx hb dX3_longestThere_20 hl (by decide) rfl (fun ls hl => ?_)
        refine lv_aload hx hb dX3_longestThere_22 (lv_at hl 0 rfl) ?_
        refine lv_ifnull hx hb dX3_longestThere_24 ?_
        refine lv_aload hx hb dX3_longestThere_27 (lv_at hl 0 rfl) ?_
        refine g_getN S hE hI (C := RX2) (T := TX2) (N := 7) (ref := "StonecutterYard$Slab") (host := "StonecutterYard") (fun w h => (List.mem_cons_of_mem _ (List.mem_append_right _ h))) hsl rfl 4 (by decide) (List.mem_of_getElem? (i := 23) rfl) (fun _ h9 => h9) (v := .int (nI (sT (yS y i)))) rfl dX3_longestThere_29 ?_
        refine lv_if_ne (tgt := 55) hx hb dX3_longestThere_32 (by decide) (fun c_32 => ?_) (fun c_32 => ?_)
        · skip
          have c_32 : (sT (yS y i)) ≠ 0 := fun z => c_32 ((nI_eq (a := (sT (yS y i))) (b := 0) (by omega) (by omega)).mpr z)
          have hno : ¬ (sT (yS y i) = 0 ∧ sG (yS y i) = g) := fun z9 => c_32 z9.1
          refine lv_iinc (v := nI (i + 1)) (lv' := [(4, .int (nI (i + 1))), (5, .ref (L 3 i)), (0, .ref (L 0 0)), (1, .int (nI g)), (2, .int (bI b)), (3, .int (nI m0))]) hx hb dX3_longestThere_55 hl (k := 5) rfl (nI_add _ 1) (by decide) rfl (fun ls hl => ?_)
          refine lv_goto (tgt := 5) hx hb dX3_longestThere_58 (by decide) ?_
          exact ih (i + 1) m0 H locs ls (by omega) (by omega) (by rw [hm0, yLong_no hno]) hm24 hI (lv_sub hl [2,3,4,5,0] rfl)
        · skip
          have c_32 : (sT (yS y i)) = 0 := (nI_eq (a := (sT (yS y i))) (b := 0) (by omega) (by omega)).mp c_32
          refine lv_aload hx hb dX3_longestThere_35 (lv_at hl 0 rfl) ?_
          refine g_getN S hE hI (C := RX2) (T := TX2) (N := 7) (ref := "StonecutterYard$Slab") (host := "StonecutterYard") (fun w h => (List.mem_cons_of_mem _ (List.mem_append_right _ h))) hsl rfl 2 (by decide) (List.mem_of_getElem? (i := 21) rfl) (fun _ h9 => h9) (v := .int (nI (sG (yS y i)))) rfl dX3_longestThere_37 ?_
          refine lv_iload_n hx hb dX3_longestThere_40 rfl (lv_at hl 2 rfl) ?_
          refine lv_icmp_ne (tgt := 55) hx hb dX3_longestThere_41 (by decide) (fun c_41 => ?_) (fun c_41 => ?_)
          · skip
            have c_41 : (sG (yS y i)) ≠ g := fun z => c_41 ((nI_eq (a := (sG (yS y i))) (b := g) (by omega) (by omega)).mpr z)
            have hno : ¬ (sT (yS y i) = 0 ∧ sG (yS y i) = g) := fun z9 => c_41 z9.2
            refine lv_iinc (v := nI (i + 1)) (lv' := [(4, .int (nI (i + 1))), (5, .ref (L 3 i)), (0, .ref (L 0 0)), (1, .int (nI g)), (2, .int (bI b)), (3, .int (nI m0))]) hx hb dX3_longestThere_55 hl (k := 5) rfl (nI_add _ 1) (by decide) rfl (fun ls hl => ?_)
            refine lv_goto (tgt := 5) hx hb dX3_longestThere_58 (by decide) ?_
            exact ih (i + 1) m0 H locs ls (by omega) (by omega) (by rw [hm0, yLong_no hno]) hm24 hI (lv_sub hl [2,3,4,5,0] rfl)
          · skip
            have c_41 : (sG (yS y i)) = g := (nI_eq (a := (sG (yS y i))) (b := g) (by omega) (by omega)).mp c_41
            refine lv_iload_n hx hb dX3_longestThere_44 rfl (lv_at hl 4 rfl) ?_
            refine lv_aload hx hb dX3_longestThere_45 (lv_at hl 0 rfl) ?_
            refine lv_iload_n hx hb dX3_longestThere_47 rfl (lv_at hl 3 rfl) ?_
            refine g_callV (As := [.int (bI b)]) (rest := [.int (nI m0)]) (b := (L 3 i)) (n := 1) S hE hI hA (c_X2_along l K _ (r, 3, i) (L 3 i) (yS y i) (L 4 i) b hsl) gX3_longestThere_X2_along rfl (by decide +kernel) ⟨Nat.le_of_ble_eq_true rfl, Nat.le_of_ble_eq_true rfl⟩ (g_hro hE hI hsl rfl) rfl hl.1 rfl (Nat.le_of_ble_eq_true rfl) dX3_longestThere_48 ⟨Nat.le_of_ble_eq_true rfl, Nat.le_of_ble_eq_true rfl⟩ (fun E ce q9 Gx H1 locs1 hx9 => hx9.elim) (fun rv Gc_48 H locs hp hI => ?_)
            obtain ⟨rfl, hq9⟩ := hp
            rw [hq9] at hI
            have hlen9 : yLen (yS y i) b ≤ 24 := by unfold yLen; split <;> omega
            refine W.eq (g2 := F0 m 51 ls [.int (nI (yLen (yS y i) b)), .int (nI m0)]) rfl ?_
            refine g_mmax S hl.1 (S.2.2.2.2 _ (List.mem_cons_of_mem _ (List.mem_append_left _ (List.mem_append_left _ (List.mem_of_getElem? (i := 1) rfl))))) (S.2.2.2.2 _ (List.mem_cons_of_mem _ (List.mem_append_left _ (List.mem_append_left _ (List.mem_of_getElem? (i := 2) rfl))))) (S.2.2.2.2 _ (List.mem_cons_of_mem _ (List.mem_append_left _ (List.mem_append_left _ (List.mem_of_getElem? (i := 3) rfl))))) (S.2.2.2.2 _ (List.mem_cons_of_mem _ (List.mem_append_left _ (List.mem_append_left _ (List.mem_of_getElem? (i := 4) rfl))))) (Nat.le_of_ble_eq_true rfl) (Nat.le_of_ble_eq_true rfl) (Nat.zero_le _) (Nat.zero_le _) dX3_longestThere_51 (v := nI (max m0 (yLen (yS y i) b))) (max_nI (by omega) (by omega)) ?_
            refine lv_istore_n (lv' := [(3, .int (nI (max m0 (yLen (yS y i) b)))), (5, .ref (L 3 i)), (0, .ref (L 0 0)), (1, .int (nI g)), (2, .int (bI b)), (4, .int (nI i))]) hx hb dX3_longestThere_54 rfl hl (by decide) rfl (fun ls hl => ?_)
            refine lv_iinc (v := nI (i + 1)) (lv' := [(4, .int (nI (i + 1))), (3, .int (nI (max m0 (yLen (yS y i) b)))), (5, .ref (L 3 i)), (0, .ref (L 0 0)), (1, .int (nI g)), (2, .int (bI b))]) hx hb dX3_longestThere_55 hl (k := 5) rfl (nI_add _ 1) (by decide) rfl (fun ls hl => ?_)
            refine lv_goto (tgt := 5) hx hb dX3_longestThere_58 (by decide) ?_
            exact ih (i + 1) _ H locs ls (by omega) (by omega) (by rw [hm0, yLong_yes c_32 c_41]) (Nat.max_le.mpr ⟨hm24, hlen9⟩) hI (lv_sub hl [3,4,5,1,0] rfl)
  exact L5 _ 0 0 H locs ls (Nat.lt_succ_self _) (Nat.zero_le _) rfl (Nat.zero_le _) hI (lv_sub hl [2,3,4,1,0] rfl)
set_option maxHeartbeats 4000000 in
set_option maxRecDepth 100000 in
/-- Stock.dearestWanted(slabNumber) -/
theorem c_X3_dearestWanted (l : Launch) (K : gK) (G : gW) (z : Bool) (r : Nat) (L : Nat → Nat → Nat) (y : YV) (i : Nat) (hs : StockG K z r L G y) (hi : i < ySc y) : gM l yX3_dearestWanted wsX3_dearestWanted 4 90 0 0 K [.ref (L 0 0), .int (nI i)] G (fun v G1 => v = some (.int (oI (yDear y i).1)) ∧ G1 = G) (gNo) := by
  refine gM.of (cc := cX3_dearestWanted) (maxL := 7) (ret := (some .int)) (by decide) rfl (Nat.le_of_ble_eq_true rfl) ?_
  intro p e s m below meth c A S hr hlocks htab hname hE hA hI ls hl
  have hx := S.1
  have hb := S.2.1
  have hml := S.2.2.1
  have hl : lv_has ls 7 [(0, .ref (L 0 0)), (1, .int (nI i))] := hl
  have h44 := hs.1.2.2.2.1
  have h6 := hs.1.2.2.2.2.1
  have hf2 := hs.1.2.2.2.2.2
  obtain ⟨H, hHe⟩ : ∃ z, z = s.heap := ⟨_, rfl⟩
  obtain ⟨locs, hLe⟩ : ∃ z : List Loc, z = [] := ⟨_, rfl⟩
  rw [← hHe, ← hLe]
  have hI : gI K A s G H locs := by rw [hHe, hLe]; exact hI
  clear hHe hLe
  refine lv_aload_n hx hb dX3_dearestWanted_0 rfl (lv_at hl 0 rfl) ?_
  refine lv_iload_n hx hb dX3_dearestWanted_1 rfl (lv_at hl 1 rfl) ?_
  refine g_callV (As := [.int (nI i)]) (rest := []) (b := (L 0 0)) (n := 1) S hE hI hA (c_slabIn l K _ r L (ySc y) (yKc y) (yF y) i hs.1 hi) gX3_dearestWanted_X3_slabOrNull rfl (by decide +kernel) ⟨Nat.le_of_ble_eq_true rfl, Nat.le_of_ble_eq_true rfl⟩ (g_hro hE hI hs.1.1 rfl) rfl hl.1 rfl (Nat.le_of_ble_eq_true rfl) dX3_dearestWanted_2 ⟨Nat.le_of_ble_eq_true rfl, Nat.le_of_ble_eq_true rfl⟩ (fun E ce q9 Gx H1 locs1 hx9 => hx9.elim) (fun rv Gc_2 H locs hp hI => ?_)
  obtain ⟨rfl, hq9⟩ := hp
  rw [hq9] at hI
  obtain ⟨P, hsl, hpt, hpk, hsok⟩ := hs.slab hi
  have hsok9 := hsok
  obtain ⟨s1, s2, s3, s4, s5, s6, s7, s8⟩ := hsok9
  refine W.eq (g2 := F0 m 5 ls [.ref (L 3 i)]) rfl ?_
  refine lv_astore_n (lv' := [(2, .ref (L 3 i)), (0, .ref (L 0 0)), (1, .int (nI i))]) hx hb dX3_dearestWanted_5 rfl hl (by decide) rfl (fun ls hl => ?_)
  refine lv_iconst (v := (-1)) hx hb dX3_dearestWanted_6 (by decide) ?_
  refine lv_istore_n (lv' := [(3, .int (-1)), (2, .ref (L 3 i)), (0, .ref (L 0 0)), (1, .int (nI i))]) hx hb dX3_dearestWanted_7 rfl hl (by decide) rfl (fun ls hl => ?_)
  refine lv_iconst (v := nI 0) hx hb dX3_dearestWanted_8 (by decide) ?_
  refine lv_istore (lv' := [(4, .int (nI 0)), (3, .int (-1)), (2, .ref (L 3 i)), (0, .ref (L 0 0)), (1, .int (nI i))]) hx hb dX3_dearestWanted_9 hl (by decide) rfl (fun ls hl => ?_)
  refine lv_iconst (v := nI 0) hx hb dX3_dearestWanted_11 (by decide) ?_
  refine lv_istore (lv' := [(5, .int (nI 0)), (4, .int (nI 0)), (3, .int (-1)), (2, .ref (L 3 i)), (0, .ref (L 0 0)), (1, .int (nI i))]) hx hb dX3_dearestWanted_12 hl (by decide) rfl (fun ls hl => ?_)
  have L14 : ∀ (n : Nat) (j : Nat) (o : Option Nat) (pp : Nat) (H : Heap) (locs : List Loc) (ls : Array Slot) (hn : yKc y - j < n) (hj : j ≤ yKc y) (hq : (o, pp) = bestN (okW y (yS y i)) (fun j => kP (yK y j)) j), gI K A s G H locs → lv_has ls 7 [(0, .ref (L 0 0)), (1, .int (nI i)), (2, .ref (L 3 i)), (3, .int (oI o)), (4, .int (nI pp)), (5, .int (nI j))] → W p l e (gRoom 4 90 0 0) s m ([.ref (L 0 0), .int (nI i)] : List Value).toArray below meth c H locs 0 0 (gEnd K below (fun v G1 => v = some (.int (oI (yDear y i).1)) ∧ G1 = G) (gNo) A ([.ref (L 0 0), .int (nI i)] : List Value).toArray s 0 0) (F0 m 14 ls []) := by
    clear hI hl
    intro n
    induction n with
    | zero =>
      intro j o pp H locs ls hn hj hq hI hl
      exact absurd hn (Nat.not_lt_zero _)
    | succ n ih =>
      intro j o pp H locs ls hn hj hq hI hl
      have hpp : pp ≤ 999 := by rw [show pp = (bestN (okW y (yS y i)) (fun j => kP (yK y j)) j).2 by rw [← hq]]; exact bestN_le (fun q hq9 => (hs.kind (Nat.lt_of_lt_of_le hq9 hj)).2.2.2.2.2.2.2.2.1)
      refine lv_iload hx hb dX3_dearestWanted_14 (lv_at hl 5 rfl) ?_
      refine lv_aload_n hx hb dX3_dearestWanted_16 rfl (lv_at hl 0 rfl) ?_
      refine g_get S hE hI (C := RX3) (T := TX3) (N := 5) (ref := "StonecutterYard$Stock") (fun w h => (List.mem_cons_of_mem _ (List.mem_append_left _ (List.mem_append_left _ (List.mem_append_right _ h))))) hs.1.1 rfl 3 (by decide) (List.mem_cons_of_mem _ (List.mem_append_left _ (List.mem_append_left _ (List.mem_append_left _ (List.mem_append_left _ (List.mem_of_getElem? (i := 0) rfl)))))) (fun _ h9 => h9) (v := .int (nI (yKc y))) rfl dX3_dearestWanted_17 ?_
      refine lv_icmp_ge (tgt := 84) hx hb dX3_dearestWanted_20 (by decide) (fun c_20 => ?_) (fun c_20 => ?_)
      · skip
        have c_20 : (yKc y) ≤ j := (nI_leI (a := (yKc y)) (b := j) (by omega) (by omega)).mp c_20
        refine lv_iload_n hx hb dX3_dearestWanted_84 rfl (lv_at hl 3 rfl) ?_
        exact g_iret S hI hr hlocks (Nat.zero_le _) (Nat.zero_le _) dX3_dearestWanted_85 ⟨by unfold yDear; rw [show yKc y = j by omega, ← hq], rfl⟩
      · skip
        have c_20 : j < (yKc y) := Nat.not_le.mp (fun z => c_20 ((nI_leI (a := (yKc y)) (b := j) (by omega) (by omega)).mpr z))
        refine lv_aload_n hx hb dX3_dearestWanted_23 rfl (lv_at hl 0 rfl) ?_
        refine lv_iload hx hb dX3_dearestWanted_24 (lv_at hl 5 rfl) ?_
        refine g_callV (As := [.int (nI j)]) (rest := []) (b := (L 0 0)) (n := 1) S hE hI hA (c_kindIn l K _ r L (ySc y) (yKc y) (yF y) j hs.1 c_20) gX3_dearestWanted_X3_kindOrNull rfl (by decide +kernel) ⟨Nat.le_of_ble_eq_true rfl, Nat.le_of_ble_eq_true rfl⟩ (g_hro hE hI hs.1.1 rfl) rfl hl.1 rfl (Nat.le_of_ble_eq_true rfl) dX3_dearestWanted_26 ⟨Nat.le_of_ble_eq_true rfl, Nat.le_of_ble_eq_true rfl⟩ (fun E ce q9 Gx H1 locs1 hx9 => hx9.elim) (fun rv Gc_26 H locs hp hI => ?_)
        obtain ⟨rfl, hq9⟩ := hp
        rw [hq9] at hI
        obtain ⟨hkd, hkok⟩ := hs.kind c_20
        have hkok9 := hkok
        obtain ⟨k1, k2, k3, k4, k5, k6, k7, k8, k9⟩ := hkok9
        refine W.eq (g2 := F0 m 29 ls [.ref (L 5 j)]) rfl ?_
        refine lv_astore (lv' := [(6, .ref (L 5 j)), (0, .ref (L 0 0)), (1, .int (nI i)), (2, .ref (L 3 i)), (3, .int (oI o)), (4, .int (nI pp)), (5, .int (nI j))]) hx hb dX3_dearestWanted_29 hl (by decide) rfl (fun ls hl => ?_)
        refine lv_aload_n hx hb dX3_dearestWanted_31 rfl (lv_at hl 3 rfl) ?_
        refine lv_ifnull hx hb dX3_dearestWanted_32 ?_
        refine lv_aload hx hb dX3_dearestWanted_35 (lv_at hl 0 rfl) ?_
        refine lv_ifnull hx hb dX3_dearestWanted_37 ?_
        refine lv_aload hx hb dX3_dearestWanted_40 (lv_at hl 0 rfl) ?_
        refine g_getN S hE hI (C := RX0) (T := TX0) (N := 8) (ref := "StonecutterYard$Kind") (host := "StonecutterYard") (fun w h => (List.mem_cons_of_mem _ (List.mem_append_left _ (List.mem_append_right _ h)))) hkd rfl 5 (by decide) (List.mem_of_getElem? (i := 24) rfl) (fun _ h9 => h9) (v := .int (nI (kN (yK y j)))) rfl dX3_dearestWanted_42 ?_
        refine lv_if_le (tgt := 78) hx hb dX3_dearestWanted_45 (by decide) (fun c_45 => ?_) (fun c_45 => ?_)
        · skip
          have c_45 : (kN (yK y j)) ≤ 0 := (nI_leI (a := (kN (yK y j))) (b := 0) (by omega) (by omega)).mp c_45
          have hno : ¬ ((okW y (yS y i)) j = true ∧ (bestN (okW y (yS y i)) (fun j => kP (yK y j)) j).2 < (fun j => kP (yK y j)) j) := fun z9 => absurd (of_decide_eq_true ((Bool.and_eq_true _ _).mp z9.1).1) (by omega)
          refine lv_iinc (v := nI (j + 1)) (lv' := [(5, .int (nI (j + 1))), (6, .ref (L 5 j)), (0, .ref (L 0 0)), (1, .int (nI i)), (2, .ref (L 3 i)), (3, .int (oI o)), (4, .int (nI pp))]) hx hb dX3_dearestWanted_78 hl (k := 6) rfl (nI_add _ 1) (by decide) rfl (fun ls hl => ?_)
          refine lv_goto (tgt := 14) hx hb dX3_dearestWanted_81 (by decide) ?_
          exact ih (j + 1) o pp H locs ls (by omega) (by omega) (by rw [bestN_no hno]; exact hq) hI (lv_sub hl [2,3,4,5,6,0] rfl)
        · skip
          have c_45 : 0 < (kN (yK y j)) := Nat.not_le.mp (fun z => c_45 ((nI_leI (a := (kN (yK y j))) (b := 0) (by omega) (by omega)).mpr z))
          refine lv_aload hx hb dX3_dearestWanted_48 (lv_at hl 0 rfl) ?_
          refine g_getN S hE hI (C := RX0) (T := TX0) (N := 8) (ref := "StonecutterYard$Kind") (host := "StonecutterYard") (fun w h => (List.mem_cons_of_mem _ (List.mem_append_left _ (List.mem_append_right _ h)))) hkd rfl 4 (by decide) (List.mem_of_getElem? (i := 19) rfl) (fun _ h9 => h9) (v := .int (nI (kP (yK y j)))) rfl dX3_dearestWanted_50 ?_
          refine lv_iload hx hb dX3_dearestWanted_53 (lv_at hl 5 rfl) ?_
          refine lv_icmp_le (tgt := 78) hx hb dX3_dearestWanted_55 (by decide) (fun c_55 => ?_) (fun c_55 => ?_)
          · skip
            have c_55 : (kP (yK y j)) ≤ pp := (nI_leI (a := (kP (yK y j))) (b := pp) (by omega) (by omega)).mp c_55
            have hno : ¬ ((okW y (yS y i)) j = true ∧ (bestN (okW y (yS y i)) (fun j => kP (yK y j)) j).2 < (fun j => kP (yK y j)) j) := by rw [← hq]; exact fun z9 => absurd z9.2 (Nat.not_lt.mpr c_55)
            refine lv_iinc (v := nI (j + 1)) (lv' := [(5, .int (nI (j + 1))), (6, .ref (L 5 j)), (0, .ref (L 0 0)), (1, .int (nI i)), (2, .ref (L 3 i)), (3, .int (oI o)), (4, .int (nI pp))]) hx hb dX3_dearestWanted_78 hl (k := 6) rfl (nI_add _ 1) (by decide) rfl (fun ls hl => ?_)
            refine lv_goto (tgt := 14) hx hb dX3_dearestWanted_81 (by decide) ?_
            exact ih (j + 1) o pp H locs ls (by omega) (by omega) (by rw [bestN_no hno]; exact hq) hI (lv_sub hl [2,3,4,5,6,0] rfl)
          · skip
            have c_55 : pp < (kP (yK y j)) := Nat.not_le.mp (fun z => c_55 ((nI_leI (a := (kP (yK y j))) (b := pp) (by omega) (by omega)).mpr z))
            refine lv_aload_n hx hb dX3_dearestWanted_58 rfl (lv_at hl 3 rfl) ?_
            refine lv_aload hx hb dX3_dearestWanted_59 (lv_at hl 0 rfl) ?_
            refine g_callV (As := [.ref (L 5 j)]) (rest := []) (b := (L 3 i)) (n := 1) S hE hI hA (c_X2_firstManner l K _ (r, 3, i) (r, 4, i) (r, 5, j) (L 3 i) (L 5 j) (yS y i) (L 4 i) P (yK y j) hsl hpt hkd hsok hkok hpk) gX3_dearestWanted_X2_firstManner rfl (by decide +kernel) ⟨Nat.le_of_ble_eq_true rfl, Nat.le_of_ble_eq_true rfl⟩ (g_hro hE hI hsl rfl) rfl hl.1 rfl (Nat.le_of_ble_eq_true rfl) dX3_dearestWanted_61 ⟨Nat.le_of_ble_eq_true rfl, Nat.le_of_ble_eq_true rfl⟩ (fun E ce q9 Gx H1 locs1 hx9 => hx9.elim) (fun rv Gc_61 H locs hp hI => ?_)
            obtain ⟨rfl, hq9⟩ := hp
            rw [hq9] at hI
            refine W.eq (g2 := F0 m 64 ls [.int (oI (sFits (yS y i) (yK y j)))]) rfl ?_
            refine lv_iconst (v := (-1)) hx hb dX3_dearestWanted_64 (by decide) ?_
            refine lv_icmp_eq (tgt := 78) hx hb dX3_dearestWanted_65 (by decide) (fun c_65 => ?_) (fun c_65 => ?_)
            · skip
              have hno : ¬ ((okW y (yS y i)) j = true ∧ (bestN (okW y (yS y i)) (fun j => kP (yK y j)) j).2 < (fun j => kP (yK y j)) j) := fun z9 => by have z8 := ((Bool.and_eq_true _ _).mp z9.1).2; rw [sFits_m1.mp c_65] at z8; cases z8
              refine lv_iinc (v := nI (j + 1)) (lv' := [(5, .int (nI (j + 1))), (6, .ref (L 5 j)), (0, .ref (L 0 0)), (1, .int (nI i)), (2, .ref (L 3 i)), (3, .int (oI o)), (4, .int (nI pp))]) hx hb dX3_dearestWanted_78 hl (k := 6) rfl (nI_add _ 1) (by decide) rfl (fun ls hl => ?_)
              refine lv_goto (tgt := 14) hx hb dX3_dearestWanted_81 (by decide) ?_
              exact ih (j + 1) o pp H locs ls (by omega) (by omega) (by rw [bestN_no hno]; exact hq) hI (lv_sub hl [2,3,4,5,6,0] rfl)
            · skip
              have hyes : (okW y (yS y i)) j = true := (Bool.and_eq_true _ _).mpr ⟨decide_eq_true c_45, by cases hf9 : sFits (yS y i) (yK y j) with | none => exact absurd (sFits_m1.mpr hf9) c_65 | some q => rfl⟩
              refine lv_iload hx hb dX3_dearestWanted_68 (lv_at hl 6 rfl) ?_
              refine lv_istore_n (lv' := [(3, .int (nI j)), (6, .ref (L 5 j)), (0, .ref (L 0 0)), (1, .int (nI i)), (2, .ref (L 3 i)), (4, .int (nI pp)), (5, .int (nI j))]) hx hb dX3_dearestWanted_70 rfl hl (by decide) rfl (fun ls hl => ?_)
              refine lv_aload hx hb dX3_dearestWanted_71 (lv_at hl 1 rfl) ?_
              refine g_getN S hE hI (C := RX0) (T := TX0) (N := 8) (ref := "StonecutterYard$Kind") (host := "StonecutterYard") (fun w h => (List.mem_cons_of_mem _ (List.mem_append_left _ (List.mem_append_right _ h)))) hkd rfl 4 (by decide) (List.mem_of_getElem? (i := 19) rfl) (fun _ h9 => h9) (v := .int (nI (kP (yK y j)))) rfl dX3_dearestWanted_73 ?_
              refine lv_istore (lv' := [(4, .int (nI (kP (yK y j)))), (3, .int (nI j)), (6, .ref (L 5 j)), (0, .ref (L 0 0)), (1, .int (nI i)), (2, .ref (L 3 i)), (5, .int (nI j))]) hx hb dX3_dearestWanted_76 hl (by decide) rfl (fun ls hl => ?_)
              refine lv_iinc (v := nI (j + 1)) (lv' := [(5, .int (nI (j + 1))), (4, .int (nI (kP (yK y j)))), (3, .int (nI j)), (6, .ref (L 5 j)), (0, .ref (L 0 0)), (1, .int (nI i)), (2, .ref (L 3 i))]) hx hb dX3_dearestWanted_78 hl (k := 6) rfl (nI_add _ 1) (by decide) rfl (fun ls hl => ?_)
              refine lv_goto (tgt := 14) hx hb dX3_dearestWanted_81 (by decide) ?_
              exact ih (j + 1) (some j) _ H locs ls (by omega) (by omega) (by rw [bestN_yes (ok := (okW y (yS y i))) (pr := (fun j => kP (yK y j))) hyes (by rw [← hq]; exact c_55)]) hI (lv_sub hl [4,5,6,2,1,0] rfl)
  exact L14 _ 0 none 0 H locs ls (Nat.lt_succ_self _) (Nat.zero_le _) rfl hI (lv_sub hl [4,5,3,2,1,0] rfl)
theorem yNext_le {K : gK} {z : Bool} {r : Nat} {L : Nat → Nat → Nat} {G : gW} {y : YV} (hs : StockG K z r L G y) : ∀ {n : Nat}, n ≤ ySc y → (yNext y n).2.1 ≤ 999 ∧ (yNext y n).2.2 ≤ 576
  | 0, _ => ⟨Nat.zero_le _, Nat.zero_le _⟩
  | n + 1, h => by
    rw [yNext]
    split
    · rename_i c
      obtain ⟨j, hj⟩ := Option.isSome_iff_exists.mp c.1
      have h1 := yDear_p hj
      obtain ⟨P, -, -, -, hok⟩ := hs.slab (show n < ySc y from h)
      refine ⟨?_, sA_lt hok⟩
      show (yDear y n).2 ≤ 999
      rw [h1.2.2.2]
      exact (hs.kind h1.1).2.2.2.2.2.2.2.2.1
    · exact yNext_le hs (Nat.le_of_succ_le h)
set_option maxHeartbeats 4000000 in
set_option maxRecDepth 100000 in
/-- Stock.nextPlannedSlab() -/
theorem c_X3_nextPlannedSlab (l : Launch) (K : gK) (G : gW) (z : Bool) (r : Nat) (L : Nat → Nat → Nat) (y : YV) (hs : StockG K z r L G y) : gM l yX3_nextPlannedSlab wsX3_nextPlannedSlab 5 116 0 0 K [.ref (L 0 0)] G (fun v G1 => v = some (.int (oI (yNext y (ySc y)).1)) ∧ G1 = G) (gNo) := by
  refine gM.of (cc := cX3_nextPlannedSlab) (maxL := 7) (ret := (some .int)) (by decide) rfl (Nat.le_of_ble_eq_true rfl) ?_
  intro p e s m below meth c A S hr hlocks htab hname hE hA hI ls hl
  have hx := S.1
  have hb := S.2.1
  have hml := S.2.2.1
  have hl : lv_has ls 7 [(0, .ref (L 0 0))] := hl
  have h44 := hs.1.2.2.2.1
  have h6 := hs.1.2.2.2.2.1
  have hf2 := hs.1.2.2.2.2.2
  obtain ⟨H, hHe⟩ : ∃ z, z = s.heap := ⟨_, rfl⟩
  obtain ⟨locs, hLe⟩ : ∃ z : List Loc, z = [] := ⟨_, rfl⟩
  rw [← hHe, ← hLe]
  have hI : gI K A s G H locs := by rw [hHe, hLe]; exact hI
  clear hHe hLe
  refine lv_iconst (v := (-1)) hx hb dX3_nextPlannedSlab_0 (by decide) ?_
  refine lv_istore_n (lv' := [(1, .int (-1)), (0, .ref (L 0 0))]) hx hb dX3_nextPlannedSlab_1 rfl hl (by decide) rfl (fun ls hl => ?_)
  refine lv_iconst (v := nI 0) hx hb dX3_nextPlannedSlab_2 (by decide) ?_
  refine lv_istore_n (lv' := [(2, .int (nI 0)), (1, .int (-1)), (0, .ref (L 0 0))]) hx hb dX3_nextPlannedSlab_3 rfl hl (by decide) rfl (fun ls hl => ?_)
  refine lv_iconst (v := nI 0) hx hb dX3_nextPlannedSlab_4 (by decide) ?_
  refine lv_istore_n (lv' := [(3, .int (nI 0)), (2, .int (nI 0)), (1, .int (-1)), (0, .ref (L 0 0))]) hx hb dX3_nextPlannedSlab_5 rfl hl (by decide) rfl (fun ls hl => ?_)
  refine lv_iconst (v := nI 0) hx hb dX3_nextPlannedSlab_6 (by decide) ?_
  refine lv_istore (lv' := [(4, .int (nI 0)), (3, .int (nI 0)), (2, .int (nI 0)), (1, .int (-1)), (0, .ref (L 0 0))]) hx hb dX3_nextPlannedSlab_7 hl (by decide) rfl (fun ls hl => ?_)
  have L9 : ∀ (n : Nat) (i : Nat) (o : Option Nat) (pp aa : Nat) (H : Heap) (locs : List Loc) (ls : Array Slot) (hn : ySc y - i < n) (hi : i ≤ ySc y) (hq : (o, pp, aa) = yNext y i), gI K A s G H locs → lv_has ls 7 [(0, .ref (L 0 0)), (1, .int (oI o)), (2, .int (nI pp)), (3, .int (nI aa)), (4, .int (nI i))] → W p l e (gRoom 5 116 0 0) s m ([.ref (L 0 0)] : List Value).toArray below meth c H locs 0 0 (gEnd K below (fun v G1 => v = some (.int (oI (yNext y (ySc y)).1)) ∧ G1 = G) (gNo) A ([.ref (L 0 0)] : List Value).toArray s 0 0) (F0 m 9 ls []) := by
    clear hI hl
    intro n
    induction n with
    | zero =>
      intro i o pp aa H locs ls hn hi hq hI hl
      exact absurd hn (Nat.not_lt_zero _)
    | succ n ih =>
      intro i o pp aa H locs ls hn hi hq hI hl
      have hpa : pp ≤ 999 ∧ aa ≤ 576 := by have := yNext_le hs hi; rw [← hq] at this; exact this
      obtain ⟨hpp, haa⟩ := hpa
      refine lv_iload hx hb dX3_nextPlannedSlab_9 (lv_at hl 4 rfl) ?_
      refine lv_aload_n hx hb dX3_nextPlannedSlab_11 rfl (lv_at hl 0 rfl) ?_
      refine g_get S hE hI (C := RX3) (T := TX3) (N := 5) (ref := "StonecutterYard$Stock") (fun w h => (List.mem_cons_of_mem _ (List.mem_append_left _ (List.mem_append_left _ (List.mem_append_right _ h))))) hs.1.1 rfl 2 (by decide) (List.mem_cons_of_mem _ (List.mem_append_left _ (List.mem_append_left _ (List.mem_append_left _ (List.mem_append_left _ (List.mem_of_getElem? (i := 0) rfl)))))) (fun _ h9 => h9) (v := .int (nI (ySc y))) rfl dX3_nextPlannedSlab_12 ?_
      refine lv_icmp_ge (tgt := 96) hx hb dX3_nextPlannedSlab_15 (by decide) (fun c_15 => ?_) (fun c_15 => ?_)
      · skip
        have c_15 : (ySc y) ≤ i := (nI_leI (a := (ySc y)) (b := i) (by omega) (by omega)).mp c_15
        refine lv_iload_n hx hb dX3_nextPlannedSlab_96 rfl (lv_at hl 1 rfl) ?_
        exact g_iret S hI hr hlocks (Nat.zero_le _) (Nat.zero_le _) dX3_nextPlannedSlab_97 ⟨by rw [show ySc y = i by omega, ← hq], rfl⟩
      · skip
        have c_15 : i < (ySc y) := Nat.not_le.mp (fun z => c_15 ((nI_leI (a := (ySc y)) (b := i) (by omega) (by omega)).mpr z))
        refine lv_aload_n hx hb dX3_nextPlannedSlab_18 rfl (lv_at hl 0 rfl) ?_
        refine lv_iload hx hb dX3_nextPlannedSlab_19 (lv_at hl 4 rfl) ?_
        refine g_callV (As := [.int (nI i)]) (rest := []) (b := (L 0 0)) (n := 1) S hE hI hA (c_slabIn l K _ r L (ySc y) (yKc y) (yF y) i hs.1 c_15) gX3_nextPlannedSlab_X3_slabOrNull rfl (by decide +kernel) ⟨Nat.le_of_ble_eq_true rfl, Nat.le_of_ble_eq_true rfl⟩ (g_hro hE hI hs.1.1 rfl) rfl hl.1 rfl (Nat.le_of_ble_eq_true rfl) dX3_nextPlannedSlab_21 ⟨Nat.le_of_ble_eq_true rfl, Nat.le_of_ble_eq_true rfl⟩ (fun E ce q9 Gx H1 locs1 hx9 => hx9.elim) (fun rv Gc_21 H locs hp hI => ?_)
        obtain ⟨rfl, hq9⟩ := hp
        rw [hq9] at hI
        obtain ⟨P, hsl, hpt, hpk, hsok⟩ := hs.slab c_15
        have hsok9 := hsok
        obtain ⟨s1, s2, s3, s4, s5, s6, s7, s8⟩ := hsok9
        refine W.eq (g2 := F0 m 24 ls [.ref (L 3 i)]) rfl ?_
        refine lv_astore (lv' := [(5, .ref (L 3 i)), (0, .ref (L 0 0)), (1, .int (oI o)), (2, .int (nI pp)), (3, .int (nI aa)), (4, .int (nI i))]) hx hb dX3_nextPlannedSlab_24 hl (by decide) rfl (fun ls hl => ?_)
        refine lv_aload_n hx hb dX3_nextPlannedSlab_26 rfl (lv_at hl 1 rfl) ?_
        refine lv_aload_n hx hb dX3_nextPlannedSlab_27 rfl (lv_at hl 1 rfl) ?_
        refine lv_iload hx hb dX3_nextPlannedSlab_28 (lv_at hl 5 rfl) ?_
        refine g_callV (As := [.int (nI i)]) (rest := [.ref (L 0 0)]) (b := (L 0 0)) (n := 1) S hE hI hA (c_X3_dearestWanted l K _ z r L y i hs c_15) gX3_nextPlannedSlab_X3_dearestWanted rfl (by decide +kernel) ⟨Nat.le_of_ble_eq_true rfl, Nat.le_of_ble_eq_true rfl⟩ (g_hro hE hI hs.1.1 rfl) rfl hl.1 rfl (Nat.le_of_ble_eq_true rfl) dX3_nextPlannedSlab_30 ⟨Nat.le_of_ble_eq_true rfl, Nat.le_of_ble_eq_true rfl⟩ (fun E ce q9 Gx H1 locs1 hx9 => hx9.elim) (fun rv Gc_30 H locs hp hI => ?_)
        obtain ⟨rfl, hq9⟩ := hp
        rw [hq9] at hI
        refine W.eq (g2 := F0 m 33 ls [.int (oI (yDear y i).1), .ref (L 0 0)]) rfl ?_
        rcases hdd : (yDear y i).1 with _ | j
        · skip
          refine W.eq (g2 := F0 m 33 ls [.int (-1), .ref (L 0 0)]) rfl ?_
          refine g_callV (As := [.int (-1)]) (rest := []) (b := (L 0 0)) (n := 1) S hE hI hA (c_kindOut l K _ r L (ySc y) (yKc y) (yF y) (-1) hs.1 (fun q hq8 => m1_nI (by omega))) gX3_nextPlannedSlab_X3_kindOrNull rfl (by decide +kernel) ⟨Nat.le_of_ble_eq_true rfl, Nat.le_of_ble_eq_true rfl⟩ (g_hro hE hI hs.1.1 rfl) rfl hl.1 rfl (Nat.le_of_ble_eq_true rfl) dX3_nextPlannedSlab_33 ⟨Nat.le_of_ble_eq_true rfl, Nat.le_of_ble_eq_true rfl⟩ (fun E ce q9 Gx H1 locs1 hx9 => hx9.elim) (fun rv Gc_33 H locs hp hI => ?_)
          obtain ⟨rfl, hq9⟩ := hp
          rw [hq9] at hI
          have hno : ∀ q, (yDear y i).1 = some q → ¬ ((yNext y i).2.1 < kP (yK y q) ∨ (kP (yK y q) = (yNext y i).2.1 ∧ sA (yS y i) < (yNext y i).2.2)) := fun q hq8 => by rw [hdd] at hq8; cases hq8
          refine W.eq (g2 := F0 m 36 ls [.null]) rfl ?_
          refine lv_astoreN (lv' := [(6, .null), (5, .ref (L 3 i)), (0, .ref (L 0 0)), (1, .int (oI o)), (2, .int (nI pp)), (3, .int (nI aa)), (4, .int (nI i))]) hx hb dX3_nextPlannedSlab_36 hl (by decide) rfl (fun ls hl => ?_)
          refine lv_aload hx hb dX3_nextPlannedSlab_38 (lv_at hl 1 rfl) ?_
          refine lv_ifnull hx hb dX3_nextPlannedSlab_40 ?_
          refine lv_aloadN hx hb dX3_nextPlannedSlab_43 (lv_at hl 0 rfl) ?_
          refine lv_ifnullN (tgt := 90) hx hb dX3_nextPlannedSlab_45 (by decide) ?_
          refine lv_iinc (v := nI (i + 1)) (lv' := [(4, .int (nI (i + 1))), (6, .null), (5, .ref (L 3 i)), (0, .ref (L 0 0)), (1, .int (oI o)), (2, .int (nI pp)), (3, .int (nI aa))]) hx hb dX3_nextPlannedSlab_90 hl (k := 6) rfl (nI_add _ 1) (by decide) rfl (fun ls hl => ?_)
          refine lv_goto (tgt := 9) hx hb dX3_nextPlannedSlab_93 (by decide) ?_
          exact ih (i + 1) o pp aa H locs ls (by omega) (by omega) (by rw [yNext_no hno]; exact hq) hI (lv_sub hl [3,4,5,6,0] rfl)
        · skip
          refine W.eq (g2 := F0 m 33 ls [.int (nI j), .ref (L 0 0)]) rfl ?_
          refine g_callV (As := [.int (nI j)]) (rest := []) (b := (L 0 0)) (n := 1) S hE hI hA (c_kindIn l K _ r L (ySc y) (yKc y) (yF y) j hs.1 (yDear_p hdd).1) gX3_nextPlannedSlab_X3_kindOrNull rfl (by decide +kernel) ⟨Nat.le_of_ble_eq_true rfl, Nat.le_of_ble_eq_true rfl⟩ (g_hro hE hI hs.1.1 rfl) rfl hl.1 rfl (Nat.le_of_ble_eq_true rfl) dX3_nextPlannedSlab_33 ⟨Nat.le_of_ble_eq_true rfl, Nat.le_of_ble_eq_true rfl⟩ (fun E ce q9 Gx H1 locs1 hx9 => hx9.elim) (fun rv Gc_33 H locs hp hI => ?_)
          obtain ⟨rfl, hq9⟩ := hp
          rw [hq9] at hI
          obtain ⟨hkd, hkok⟩ := hs.kind (yDear_p hdd).1
          have hkok9 := hkok
          obtain ⟨k1, k2, k3, k4, k5, k6, k7, k8, k9⟩ := hkok9
          have hA9 := sA_lt hsok
          refine W.eq (g2 := F0 m 36 ls [.ref (L 5 j)]) rfl ?_
          refine lv_astore (lv' := [(6, .ref (L 5 j)), (5, .ref (L 3 i)), (0, .ref (L 0 0)), (1, .int (oI o)), (2, .int (nI pp)), (3, .int (nI aa)), (4, .int (nI i))]) hx hb dX3_nextPlannedSlab_36 hl (by decide) rfl (fun ls hl => ?_)
          refine lv_aload hx hb dX3_nextPlannedSlab_38 (lv_at hl 1 rfl) ?_
          refine lv_ifnull hx hb dX3_nextPlannedSlab_40 ?_
          refine lv_aload hx hb dX3_nextPlannedSlab_43 (lv_at hl 0 rfl) ?_
          refine lv_ifnull hx hb dX3_nextPlannedSlab_45 ?_
          refine lv_aload hx hb dX3_nextPlannedSlab_48 (lv_at hl 0 rfl) ?_
          refine g_getN S hE hI (C := RX0) (T := TX0) (N := 8) (ref := "StonecutterYard$Kind") (host := "StonecutterYard") (fun w h => (List.mem_cons_of_mem _ (List.mem_append_left _ (List.mem_append_right _ h)))) hkd rfl 4 (by decide) (List.mem_of_getElem? (i := 19) rfl) (fun _ h9 => h9) (v := .int (nI (kP (yK y j)))) rfl dX3_nextPlannedSlab_50 ?_
          refine lv_iload_n hx hb dX3_nextPlannedSlab_53 rfl (lv_at hl 4 rfl) ?_
          refine lv_icmp_gt (tgt := 75) hx hb dX3_nextPlannedSlab_54 (by decide) (fun c_54 => ?_) (fun c_54 => ?_)
          · skip
            have c_54 : pp < (kP (yK y j)) := (nI_ltI (a := pp) (b := (kP (yK y j))) (by omega) (by omega)).mp c_54
            have hyes : (yNext y i).2.1 < kP (yK y j) ∨ (kP (yK y j) = (yNext y i).2.1 ∧ sA (yS y i) < (yNext y i).2.2) := by rw [← hq]; show pp < kP (yK y j) ∨ (kP (yK y j) = pp ∧ sA (yS y i) < aa); omega
            refine lv_iload hx hb dX3_nextPlannedSlab_75 (lv_at hl 6 rfl) ?_
            refine lv_istore_n (lv' := [(1, .int (nI i)), (6, .ref (L 5 j)), (5, .ref (L 3 i)), (0, .ref (L 0 0)), (2, .int (nI pp)), (3, .int (nI aa)), (4, .int (nI i))]) hx hb dX3_nextPlannedSlab_77 rfl hl (by decide) rfl (fun ls hl => ?_)
            refine lv_aload hx hb dX3_nextPlannedSlab_78 (lv_at hl 1 rfl) ?_
            refine g_getN S hE hI (C := RX0) (T := TX0) (N := 8) (ref := "StonecutterYard$Kind") (host := "StonecutterYard") (fun w h => (List.mem_cons_of_mem _ (List.mem_append_left _ (List.mem_append_right _ h)))) hkd rfl 4 (by decide) (List.mem_of_getElem? (i := 19) rfl) (fun _ h9 => h9) (v := .int (nI (kP (yK y j)))) rfl dX3_nextPlannedSlab_80 ?_
            refine lv_istore_n (lv' := [(2, .int (nI (kP (yK y j)))), (1, .int (nI i)), (6, .ref (L 5 j)), (5, .ref (L 3 i)), (0, .ref (L 0 0)), (3, .int (nI aa)), (4, .int (nI i))]) hx hb dX3_nextPlannedSlab_83 rfl hl (by decide) rfl (fun ls hl => ?_)
            refine lv_aload hx hb dX3_nextPlannedSlab_84 (lv_at hl 3 rfl) ?_
            refine g_callV (As := []) (rest := []) (b := (L 3 i)) (n := 0) S hE hI hA (c_X2_area l K _ (r, 3, i) (L 3 i) (yS y i) (L 4 i) hsl) gX3_nextPlannedSlab_X2_area rfl (by decide +kernel) ⟨Nat.le_of_ble_eq_true rfl, Nat.le_of_ble_eq_true rfl⟩ (g_hro hE hI hsl rfl) rfl hl.1 rfl (Nat.le_of_ble_eq_true rfl) dX3_nextPlannedSlab_86 ⟨Nat.le_of_ble_eq_true rfl, Nat.le_of_ble_eq_true rfl⟩ (fun E ce q9 Gx H1 locs1 hx9 => hx9.elim) (fun rv Gc_86 H locs hp hI => ?_)
            obtain ⟨rfl, hq9⟩ := hp
            rw [hq9] at hI
            refine W.eq (g2 := F0 m 89 ls [.int (nI (sA (yS y i)))]) rfl ?_
            refine lv_istore_n (lv' := [(3, .int (nI (sA (yS y i)))), (2, .int (nI (kP (yK y j)))), (1, .int (nI i)), (6, .ref (L 5 j)), (5, .ref (L 3 i)), (0, .ref (L 0 0)), (4, .int (nI i))]) hx hb dX3_nextPlannedSlab_89 rfl hl (by decide) rfl (fun ls hl => ?_)
            refine lv_iinc (v := nI (i + 1)) (lv' := [(4, .int (nI (i + 1))), (3, .int (nI (sA (yS y i)))), (2, .int (nI (kP (yK y j)))), (1, .int (nI i)), (6, .ref (L 5 j)), (5, .ref (L 3 i)), (0, .ref (L 0 0))]) hx hb dX3_nextPlannedSlab_90 hl (k := 6) rfl (nI_add _ 1) (by decide) rfl (fun ls hl => ?_)
            refine lv_goto (tgt := 9) hx hb dX3_nextPlannedSlab_93 (by decide) ?_
            exact ih (i + 1) (some i) _ _ H locs ls (by omega) (by omega) (by rw [yNext_yes hdd hyes]) hI (lv_sub hl [6,3,2,1,0] rfl)
          · skip
            have c_54 : (kP (yK y j)) ≤ pp := Nat.not_lt.mp (fun z => c_54 ((nI_ltI (a := pp) (b := (kP (yK y j))) (by omega) (by omega)).mpr z))
            refine lv_aload hx hb dX3_nextPlannedSlab_57 (lv_at hl 0 rfl) ?_
            refine g_getN S hE hI (C := RX0) (T := TX0) (N := 8) (ref := "StonecutterYard$Kind") (host := "StonecutterYard") (fun w h => (List.mem_cons_of_mem _ (List.mem_append_left _ (List.mem_append_right _ h)))) hkd rfl 4 (by decide) (List.mem_of_getElem? (i := 19) rfl) (fun _ h9 => h9) (v := .int (nI (kP (yK y j)))) rfl dX3_nextPlannedSlab_59 ?_
            refine lv_iload_n hx hb dX3_nextPlannedSlab_62 rfl (lv_at hl 4 rfl) ?_
            refine lv_icmp_ne (tgt := 90) hx hb dX3_nextPlannedSlab_63 (by decide) (fun c_63 => ?_) (fun c_63 => ?_)
            · skip
              have c_63 : (kP (yK y j)) ≠ pp := fun z => c_63 ((nI_eq (a := (kP (yK y j))) (b := pp) (by omega) (by omega)).mpr z)
              have hno : ∀ q, (yDear y i).1 = some q → ¬ ((yNext y i).2.1 < kP (yK y q) ∨ (kP (yK y q) = (yNext y i).2.1 ∧ sA (yS y i) < (yNext y i).2.2)) := fun q hq8 => by rw [← hq]; rw [hdd] at hq8; cases hq8; show ¬ (pp < kP (yK y j) ∨ (kP (yK y j) = pp ∧ sA (yS y i) < aa)); omega
              refine lv_iinc (v := nI (i + 1)) (lv' := [(4, .int (nI (i + 1))), (6, .ref (L 5 j)), (5, .ref (L 3 i)), (0, .ref (L 0 0)), (1, .int (oI o)), (2, .int (nI pp)), (3, .int (nI aa))]) hx hb dX3_nextPlannedSlab_90 hl (k := 6) rfl (nI_add _ 1) (by decide) rfl (fun ls hl => ?_)
              refine lv_goto (tgt := 9) hx hb dX3_nextPlannedSlab_93 (by decide) ?_
              exact ih (i + 1) o pp aa H locs ls (by omega) (by omega) (by rw [yNext_no hno]; exact hq) hI (lv_sub hl [3,4,5,6,0] rfl)
            · skip
              have c_63 : (kP (yK y j)) = pp := (nI_eq (a := (kP (yK y j))) (b := pp) (by omega) (by omega)).mp c_63
              refine lv_aload hx hb dX3_nextPlannedSlab_66 (lv_at hl 1 rfl) ?_
              refine g_callV (As := []) (rest := []) (b := (L 3 i)) (n := 0) S hE hI hA (c_X2_area l K _ (r, 3, i) (L 3 i) (yS y i) (L 4 i) hsl) gX3_nextPlannedSlab_X2_area rfl (by decide +kernel) ⟨Nat.le_of_ble_eq_true rfl, Nat.le_of_ble_eq_true rfl⟩ (g_hro hE hI hsl rfl) rfl hl.1 rfl (Nat.le_of_ble_eq_true rfl) dX3_nextPlannedSlab_68 ⟨Nat.le_of_ble_eq_true rfl, Nat.le_of_ble_eq_true rfl⟩ (fun E ce q9 Gx H1 locs1 hx9 => hx9.elim) (fun rv Gc_68 H locs hp hI => ?_)
              obtain ⟨rfl, hq9⟩ := hp
              rw [hq9] at hI
              refine W.eq (g2 := F0 m 71 ls [.int (nI (sA (yS y i)))]) rfl ?_
              refine lv_iload_n hx hb dX3_nextPlannedSlab_71 rfl (lv_at hl 5 rfl) ?_
              refine lv_icmp_ge (tgt := 90) hx hb dX3_nextPlannedSlab_72 (by decide) (fun c_72 => ?_) (fun c_72 => ?_)
              · skip
                have c_72 : aa ≤ (sA (yS y i)) := (nI_leI (a := aa) (b := (sA (yS y i))) (by omega) (by omega)).mp c_72
                have hno : ∀ q, (yDear y i).1 = some q → ¬ ((yNext y i).2.1 < kP (yK y q) ∨ (kP (yK y q) = (yNext y i).2.1 ∧ sA (yS y i) < (yNext y i).2.2)) := fun q hq8 => by rw [← hq]; rw [hdd] at hq8; cases hq8; show ¬ (pp < kP (yK y j) ∨ (kP (yK y j) = pp ∧ sA (yS y i) < aa)); omega
                refine lv_iinc (v := nI (i + 1)) (lv' := [(4, .int (nI (i + 1))), (6, .ref (L 5 j)), (5, .ref (L 3 i)), (0, .ref (L 0 0)), (1, .int (oI o)), (2, .int (nI pp)), (3, .int (nI aa))]) hx hb dX3_nextPlannedSlab_90 hl (k := 6) rfl (nI_add _ 1) (by decide) rfl (fun ls hl => ?_)
                refine lv_goto (tgt := 9) hx hb dX3_nextPlannedSlab_93 (by decide) ?_
                exact ih (i + 1) o pp aa H locs ls (by omega) (by omega) (by rw [yNext_no hno]; exact hq) hI (lv_sub hl [3,4,5,6,0] rfl)
              · skip
                have c_72 : (sA (yS y i)) < aa := Nat.not_le.mp (fun z => c_72 ((nI_leI (a := aa) (b := (sA (yS y i))) (by omega) (by omega)).mpr z))
                have hyes : (yNext y i).2.1 < kP (yK y j) ∨ (kP (yK y j) = (yNext y i).2.1 ∧ sA (yS y i) < (yNext y i).2.2) := by rw [← hq]; show pp < kP (yK y j) ∨ (kP (yK y j) = pp ∧ sA (yS y i) < aa); omega
                refine lv_iload hx hb dX3_nextPlannedSlab_75 (lv_at hl 6 rfl) ?_
                refine lv_istore_n (lv' := [(1, .int (nI i)), (6, .ref (L 5 j)), (5, .ref (L 3 i)), (0, .ref (L 0 0)), (2, .int (nI pp)), (3, .int (nI aa)), (4, .int (nI i))]) hx hb dX3_nextPlannedSlab_77 rfl hl (by decide) rfl (fun ls hl => ?_)
                refine lv_aload hx hb dX3_nextPlannedSlab_78 (lv_at hl 1 rfl) ?_
                refine g_getN S hE hI (C := RX0) (T := TX0) (N := 8) (ref := "StonecutterYard$Kind") (host := "StonecutterYard") (fun w h => (List.mem_cons_of_mem _ (List.mem_append_left _ (List.mem_append_right _ h)))) hkd rfl 4 (by decide) (List.mem_of_getElem? (i := 19) rfl) (fun _ h9 => h9) (v := .int (nI (kP (yK y j)))) rfl dX3_nextPlannedSlab_80 ?_
                refine lv_istore_n (lv' := [(2, .int (nI (kP (yK y j)))), (1, .int (nI i)), (6, .ref (L 5 j)), (5, .ref (L 3 i)), (0, .ref (L 0 0)), (3, .int (nI aa)), (4, .int (nI i))]) hx hb dX3_nextPlannedSlab_83 rfl hl (by decide) rfl (fun ls hl => ?_)
                refine lv_aload hx hb dX3_nextPlannedSlab_84 (lv_at hl 3 rfl) ?_
                refine g_callV (As := []) (rest := []) (b := (L 3 i)) (n := 0) S hE hI hA (c_X2_area l K _ (r, 3, i) (L 3 i) (yS y i) (L 4 i) hsl) gX3_nextPlannedSlab_X2_area rfl (by decide +kernel) ⟨Nat.le_of_ble_eq_true rfl, Nat.le_of_ble_eq_true rfl⟩ (g_hro hE hI hsl rfl) rfl hl.1 rfl (Nat.le_of_ble_eq_true rfl) dX3_nextPlannedSlab_86 ⟨Nat.le_of_ble_eq_true rfl, Nat.le_of_ble_eq_true rfl⟩ (fun E ce q9 Gx H1 locs1 hx9 => hx9.elim) (fun rv Gc_86 H locs hp hI => ?_)
                obtain ⟨rfl, hq9⟩ := hp
                rw [hq9] at hI
                refine W.eq (g2 := F0 m 89 ls [.int (nI (sA (yS y i)))]) rfl ?_
                refine lv_istore_n (lv' := [(3, .int (nI (sA (yS y i)))), (2, .int (nI (kP (yK y j)))), (1, .int (nI i)), (6, .ref (L 5 j)), (5, .ref (L 3 i)), (0, .ref (L 0 0)), (4, .int (nI i))]) hx hb dX3_nextPlannedSlab_89 rfl hl (by decide) rfl (fun ls hl => ?_)
                refine lv_iinc (v := nI (i + 1)) (lv' := [(4, .int (nI (i + 1))), (3, .int (nI (sA (yS y i)))), (2, .int (nI (kP (yK y j)))), (1, .int (nI i)), (6, .ref (L 5 j)), (5, .ref (L 3 i)), (0, .ref (L 0 0))]) hx hb dX3_nextPlannedSlab_90 hl (k := 6) rfl (nI_add _ 1) (by decide) rfl (fun ls hl => ?_)
                refine lv_goto (tgt := 9) hx hb dX3_nextPlannedSlab_93 (by decide) ?_
                exact ih (i + 1) (some i) _ _ H locs ls (by omega) (by omega) (by rw [yNext_yes hdd hyes]) hI (lv_sub hl [6,3,2,1,0] rfl)
  exact L9 _ 0 none 0 0 H locs ls (Nat.lt_succ_self _) (Nat.zero_le _) rfl hI (lv_sub hl [4,3,2,1,0] rfl)
set_option maxHeartbeats 4000000 in
set_option maxRecDepth 100000 in
/-- Stock.takeByPlan(most) -/
theorem c_X3_takeByPlan (l : Launch) (K : gK) (G : gW) (z : Bool) (r : Nat) (L : Nat → Nat → Nat) (y : YV) (most : Nat) (hs : StockG K z r L G y) (hmost : most ≤ 20) : gM l yX3_takeByPlan wsX3_takeByPlan 6 145 0 0 K [.ref (L 0 0), .int (nI most)] G (fun v G1 => v = some (.int (nI (yPlan most y).1)) ∧ StockG K z r L G1 (yPlan most y).2 ∧ Ag r G G1) (gNo) := by
  refine gM.of (cc := cX3_takeByPlan) (maxL := 5) (ret := (some .int)) (by decide) rfl (Nat.le_of_ble_eq_true rfl) ?_
  intro p e s m below meth c A S hr hlocks htab hname hE hA hI ls hl
  have hx := S.1
  have hb := S.2.1
  have hml := S.2.2.1
  have hl : lv_has ls 5 [(0, .ref (L 0 0)), (1, .int (nI most))] := hl
  have h44 := hs.1.2.2.2.1
  have h6 := hs.1.2.2.2.2.1
  have hf2 := hs.1.2.2.2.2.2
  obtain ⟨H, hHe⟩ : ∃ z, z = s.heap := ⟨_, rfl⟩
  obtain ⟨locs, hLe⟩ : ∃ z : List Loc, z = [] := ⟨_, rfl⟩
  rw [← hHe, ← hLe]
  have hI : gI K A s G H locs := by rw [hHe, hLe]; exact hI
  clear hHe hLe
  refine lv_iconst (v := nI 0) hx hb dX3_takeByPlan_0 (by decide) ?_
  refine lv_istore_n (lv' := [(2, .int (nI 0)), (0, .ref (L 0 0)), (1, .int (nI most))]) hx hb dX3_takeByPlan_1 rfl hl (by decide) rfl (fun ls hl => ?_)
  refine lv_iconst (v := nI 0) hx hb dX3_takeByPlan_2 (by decide) ?_
  refine lv_istore_n (lv' := [(3, .int (nI 0)), (2, .int (nI 0)), (0, .ref (L 0 0)), (1, .int (nI most))]) hx hb dX3_takeByPlan_3 rfl hl (by decide) rfl (fun ls hl => ?_)
  have L4 : ∀ (n : Nat) (i : Nat) (y1 : YV) (G1 : gW) (H : Heap) (locs : List Loc) (ls : Array Slot) (hn : most - i < n) (hi : i ≤ most) (hpl : yPlan most y = (i + (yPlan (most - i) y1).1, (yPlan (most - i) y1).2)) (hsi : StockG K z r L G1 y1) (hai : Ag r G G1), gI K A s G1 H locs → lv_has ls 5 [(0, .ref (L 0 0)), (1, .int (nI most)), (2, .int (nI i)), (3, .int (nI i))] → W p l e (gRoom 6 145 0 0) s m ([.ref (L 0 0), .int (nI most)] : List Value).toArray below meth c H locs 0 0 (gEnd K below (fun v G1 => v = some (.int (nI (yPlan most y).1)) ∧ StockG K z r L G1 (yPlan most y).2 ∧ Ag r G G1) (gNo) A ([.ref (L 0 0), .int (nI most)] : List Value).toArray s 0 0) (F0 m 4 ls []) := by
    clear hI hl
    intro n
    induction n with
    | zero =>
      intro i y1 G1 H locs ls hn hi hpl hsi hai hI hl
      exact absurd hn (Nat.not_lt_zero _)
    | succ n ih =>
      intro i y1 G1 H locs ls hn hi hpl hsi hai hI hl
      have g44 := hsi.1.2.2.2.1
      have g6 := hsi.1.2.2.2.2.1
      refine lv_iload_n hx hb dX3_takeByPlan_4 rfl (lv_at hl 3 rfl) ?_
      refine lv_iload_n hx hb dX3_takeByPlan_5 rfl (lv_at hl 1 rfl) ?_
      refine lv_icmp_ge (tgt := 53) hx hb dX3_takeByPlan_6 (by decide) (fun c_6 => ?_) (fun c_6 => ?_)
      · skip
        have c_6 : most ≤ i := (nI_leI (a := most) (b := i) (by omega) (by omega)).mp c_6
        have hfin : yPlan most y = (i, y1) := by rw [hpl, show most - i = 0 by omega]; rfl
        refine lv_iload_n hx hb dX3_takeByPlan_53 rfl (lv_at hl 2 rfl) ?_
        exact g_iret S hI hr hlocks (Nat.zero_le _) (Nat.zero_le _) dX3_takeByPlan_54 ⟨by rw [hfin], by rw [hfin]; exact hsi, hai⟩
      · skip
        have c_6 : i < most := Nat.not_le.mp (fun z => c_6 ((nI_leI (a := most) (b := i) (by omega) (by omega)).mpr z))
        refine lv_aload_n hx hb dX3_takeByPlan_9 rfl (lv_at hl 0 rfl) ?_
        refine g_callV (As := []) (rest := []) (b := (L 0 0)) (n := 0) S hE hI hA (c_X3_hasRoomForStone l K _ z r L y1 hsi) gX3_takeByPlan_X3_hasRoomForStone rfl (by decide +kernel) ⟨Nat.le_of_ble_eq_true rfl, Nat.le_of_ble_eq_true rfl⟩ (g_hro hE hI hsi.1.1 rfl) rfl hl.1 rfl (Nat.le_of_ble_eq_true rfl) dX3_takeByPlan_10 ⟨Nat.le_of_ble_eq_true rfl, Nat.le_of_ble_eq_true rfl⟩ (fun E ce q9 Gx H1 locs1 hx9 => hx9.elim) (fun rv Gc_10 H locs hp hI => ?_)
        obtain ⟨rfl, hq9⟩ := hp
        rw [hq9] at hI
        refine W.eq (g2 := F0 m 13 ls [.int (bI (decide (ySc y1 ≤ 36)))]) rfl ?_
        refine lv_if_eq (tgt := 53) hx hb dX3_takeByPlan_13 (by decide) (fun c_13 => ?_) (fun c_13 => ?_)
        · skip
          have c_13 : (decide (ySc y1 ≤ 36)) = false := bI_0.mp c_13
          have hfin : yPlan most y = (i, y1) := by rw [hpl, yPlan_full (of_decide_eq_false c_13)]; rfl
          refine lv_iload_n hx hb dX3_takeByPlan_53 rfl (lv_at hl 2 rfl) ?_
          exact g_iret S hI hr hlocks (Nat.zero_le _) (Nat.zero_le _) dX3_takeByPlan_54 ⟨by rw [hfin], by rw [hfin]; exact hsi, hai⟩
        · skip
          have c_13 : (decide (ySc y1 ≤ 36)) = true := bI_1.mp c_13
          have c_13 : ySc y1 ≤ 36 := of_decide_eq_true c_13
          refine lv_aload_n hx hb dX3_takeByPlan_16 rfl (lv_at hl 0 rfl) ?_
          refine g_callV (As := []) (rest := []) (b := (L 0 0)) (n := 0) S hE hI hA (c_X3_nextPlannedSlab l K _ z r L y1 hsi) gX3_takeByPlan_X3_nextPlannedSlab rfl (by decide +kernel) ⟨Nat.le_of_ble_eq_true rfl, Nat.le_of_ble_eq_true rfl⟩ (g_hro hE hI hsi.1.1 rfl) rfl hl.1 rfl (Nat.le_of_ble_eq_true rfl) dX3_takeByPlan_17 ⟨Nat.le_of_ble_eq_true rfl, Nat.le_of_ble_eq_true rfl⟩ (fun E ce q9 Gx H1 locs1 hx9 => hx9.elim) (fun rv Gc_17 H locs hp hI => ?_)
          obtain ⟨rfl, hq9⟩ := hp
          rw [hq9] at hI
          refine W.eq (g2 := F0 m 20 ls [.int (oI (yNext y1 (ySc y1)).1)]) rfl ?_
          rcases hnx : (yNext y1 (ySc y1)).1 with _ | i9
          · skip
            refine W.eq (g2 := F0 m 20 ls [.int (-1)]) rfl ?_
            refine lv_istore (lv' := [(4, .int (-1)), (0, .ref (L 0 0)), (1, .int (nI most)), (2, .int (nI i)), (3, .int (nI i))]) hx hb dX3_takeByPlan_20 hl (by decide) rfl (fun ls hl => ?_)
            refine lv_iload hx hb dX3_takeByPlan_22 (lv_at hl 0 rfl) ?_
            refine lv_iconst (v := (-1)) hx hb dX3_takeByPlan_24 (by decide) ?_
            refine lv_icmp_ne (tgt := 31) hx hb dX3_takeByPlan_25 (by decide) (fun c_25 => ?_) (fun c_25 => ?_)
            · skip
              exact absurd rfl c_25
            · skip
              have hfin : yPlan most y = (i, y1) := by rw [hpl, yPlan_none hnx]; rfl
              refine lv_goto (tgt := 53) hx hb dX3_takeByPlan_28 (by decide) ?_
              refine lv_iload_n hx hb dX3_takeByPlan_53 rfl (lv_at hl 3 rfl) ?_
              exact g_iret S hI hr hlocks (Nat.zero_le _) (Nat.zero_le _) dX3_takeByPlan_54 ⟨by rw [hfin], by rw [hfin]; exact hsi, hai⟩
          · skip
            refine W.eq (g2 := F0 m 20 ls [.int (nI i9)]) rfl ?_
            obtain ⟨hi9, hd9⟩ := yNext_some hnx
            refine lv_istore (lv' := [(4, .int (nI i9)), (0, .ref (L 0 0)), (1, .int (nI most)), (2, .int (nI i)), (3, .int (nI i))]) hx hb dX3_takeByPlan_20 hl (by decide) rfl (fun ls hl => ?_)
            refine lv_iload hx hb dX3_takeByPlan_22 (lv_at hl 0 rfl) ?_
            refine lv_iconst (v := (-1)) hx hb dX3_takeByPlan_24 (by decide) ?_
            refine lv_icmp_ne (tgt := 31) hx hb dX3_takeByPlan_25 (by decide) (fun c_25 => ?_) (fun c_25 => ?_)
            · skip
              refine lv_aload_n hx hb dX3_takeByPlan_31 rfl (lv_at hl 1 rfl) ?_
              refine lv_iload hx hb dX3_takeByPlan_32 (lv_at hl 0 rfl) ?_
              refine lv_aload_n hx hb dX3_takeByPlan_34 rfl (lv_at hl 1 rfl) ?_
              refine lv_iload hx hb dX3_takeByPlan_35 (lv_at hl 0 rfl) ?_
              refine g_callV (As := [.int (nI i9)]) (rest := [.int (nI i9), .ref (L 0 0)]) (b := (L 0 0)) (n := 1) S hE hI hA (c_X3_dearestWanted l K _ z r L y1 i9 hsi hi9) gX3_takeByPlan_X3_dearestWanted rfl (by decide +kernel) ⟨Nat.le_of_ble_eq_true rfl, Nat.le_of_ble_eq_true rfl⟩ (g_hro hE hI hsi.1.1 rfl) rfl hl.1 rfl (Nat.le_of_ble_eq_true rfl) dX3_takeByPlan_37 ⟨Nat.le_of_ble_eq_true rfl, Nat.le_of_ble_eq_true rfl⟩ (fun E ce q9 Gx H1 locs1 hx9 => hx9.elim) (fun rv Gc_37 H locs hp hI => ?_)
              obtain ⟨rfl, hq9⟩ := hp
              rw [hq9] at hI
              refine W.eq (g2 := F0 m 40 ls [.int (oI (yDear y1 i9).1), .int (nI i9), .ref (L 0 0)]) rfl ?_
              rcases hdd : (yDear y1 i9).1 with _ | j9
              · skip
                obtain ⟨q9, hq9⟩ := hd9; rw [hq9] at hdd; cases hdd
              · skip
                refine W.eq (g2 := F0 m 40 ls [.int (nI j9), .int (nI i9), .ref (L 0 0)]) rfl ?_
                obtain ⟨hj9, hn9, ⟨mn, hfit⟩, -⟩ := yDear_p hdd
                refine g_callV (As := [.int (nI i9), .int (nI j9)]) (rest := []) (b := (L 0 0)) (n := 2) S hE hI hA (c_X3_takeStone l K _ z r L y1 i9 j9 mn hsi hi9 hj9 hfit (Nat.le_trans c_13 (by decide))) gX3_takeByPlan_X3_takeStone rfl (by decide +kernel) ⟨Nat.le_of_ble_eq_true rfl, Nat.le_of_ble_eq_true rfl⟩ (g_hro hE hI hsi.1.1 rfl) rfl hl.1 rfl (Nat.le_of_ble_eq_true rfl) dX3_takeByPlan_40 ⟨Nat.le_of_ble_eq_true rfl, Nat.le_of_ble_eq_true rfl⟩ (fun E ce q9 Gx H1 locs1 hx9 => hx9.elim) (fun rv Gc_40 H locs hp hI => ?_)
                obtain ⟨rfl, hsn, ha9⟩ := hp
                have han : Ag r G Gc_40 := hai.tr ha9
                have hpl9 : yPlan most y = (i + 1 + (yPlan (most - (i + 1)) (yTake y1 i9 j9 mn)).1, (yPlan (most - (i + 1)) (yTake y1 i9 j9 mn)).2) := by rw [hpl, show most - i = (most - (i + 1)) + 1 by omega, yPlan_s c_13 hnx hdd hfit]; show (i + (_ + 1), _) = (i + 1 + _, _); rw [show i + ((yPlan (most - (i + 1)) (yTake y1 i9 j9 mn)).1 + 1) = i + 1 + (yPlan (most - (i + 1)) (yTake y1 i9 j9 mn)).1 by omega]
                refine W.eq (g2 := F0 m 43 ls [.int (nI (sellP (yK y1 j9)))]) rfl ?_
                refine lv_pop hx hb dX3_takeByPlan_43 rfl ?_
                refine lv_iinc (v := nI (i + 1)) (lv' := [(2, .int (nI (i + 1))), (4, .int (nI i9)), (0, .ref (L 0 0)), (1, .int (nI most)), (3, .int (nI i))]) hx hb dX3_takeByPlan_44 hl (k := 3) rfl (nI_add _ 1) (by decide) rfl (fun ls hl => ?_)
                refine lv_iinc (v := nI (i + 1)) (lv' := [(3, .int (nI (i + 1))), (2, .int (nI (i + 1))), (4, .int (nI i9)), (0, .ref (L 0 0)), (1, .int (nI most))]) hx hb dX3_takeByPlan_47 hl (k := 4) rfl (nI_add _ 1) (by decide) rfl (fun ls hl => ?_)
                refine lv_goto (tgt := 4) hx hb dX3_takeByPlan_50 (by decide) ?_
                exact ih (i + 1) _ Gc_40 H locs ls (by omega) (by omega) hpl9 hsn han hI (lv_sub hl [3,4,1,0] rfl)
            · skip
              exact absurd c_25 (nI_m1 (by omega))
  exact L4 _ 0 y G H locs ls (Nat.lt_succ_self _) (Nat.zero_le _) (by rw [Nat.zero_add]; rfl) hs Ag.rf hI (lv_sub hl [2,3,1,0] rfl)
