/-! plans and stones taken -/
theorem nI_m1 {n : Nat} (h : n < 2 ^ 31) : ¬ nI n = -1 := fun z => by
  have e : (nI n).toInt = (-1 : Int32).toInt := by rw [z]
  rw [nI_toInt h, show (-1 : Int32).toInt = -1 from by decide] at e
  omega
theorem m1_nI {n : Nat} (h : n < 2 ^ 31) : (-1 : Int32) ≠ nI n := fun z => nI_m1 h z.symm
theorem oI_m1 {o : Option Nat} (h : ∀ n, o = some n → n < 2 ^ 31) : oI o = -1 ↔ o = none := by
  cases o with
  | none => exact ⟨fun _ => rfl, fun _ => rfl⟩
  | some n => exact ⟨fun z => absurd z (nI_m1 (h n rfl)), fun z => by cases z⟩
theorem sFits_lt {u : SV} {k : KV} {mn : Nat} (h : sFits u k = some mn) : mn < 2 := by
  unfold sFits at h
  split at h
  · split at h
    · cases h; decide
    · split at h
      · cases h; decide
      · cases h
  · cases h
theorem sFits_m1 {u : SV} {k : KV} : oI (sFits u k) = -1 ↔ sFits u k = none := oI_m1 (fun n hn => Nat.lt_trans (sFits_lt hn) (by decide))
theorem sellK_ok {k : KV} (h : kOK k) : kOK (sellK k) := by
  obtain ⟨k1, k2, k3, k4, k5, k6, k7, k8, k9⟩ := h
  refine ⟨k1, k2, k3, k4, k5, k6, ?_, ?_, ?_⟩
  · show 1 ≤ max 1 (kP k * 9 / 10); omega
  · show max 1 (kP k * 9 / 10) ≤ 999; omega
  · show kN k - 1 ≤ 20; omega
theorem dearK_ok {k : KV} (h : kOK k) : kOK (dearK k) := by
  obtain ⟨k1, k2, k3, k4, k5, k6, k7, k8, k9⟩ := h
  refine ⟨k1, k2, k3, k4, k5, k6, ?_, ?_, k9⟩
  · show 1 ≤ min 999 (kP k + 1); omega
  · show min 999 (kP k + 1) ≤ 999; omega
theorem StockG.getK {K : gK} {z : Bool} {r : Nat} {L : Nat → Nat → Nat} {G : gW} {y : YV} (h : StockG K z r L G y) {i : Nat} {k : KV} (hi : i < yKc y) (e : yK y i = k) : G (r, 5, i) = some (L 5 i, cK k) ∧ kOK k := by
  subst e; exact h.kind hi
theorem yCut_K {y : YV} {i : Nat} {dn : Bool} {x : Nat} : yK (yCut y i dn x) = yK y := by unfold yCut; split <;> rfl
theorem yCut_Kc {y : YV} {i : Nat} {dn : Bool} {x : Nat} : yKc (yCut y i dn x) = yKc y := by unfold yCut; split <;> rfl
theorem yCut_le {y : YV} {i : Nat} {dn : Bool} {x : Nat} : ySc (yCut y i dn x) ≤ ySc y + 2 := by
  unfold yCut
  split
  · exact Nat.le_refl _
  · exact Nat.le_add_right _ _
theorem yCutR_lt {y : YV} {i : Nat} {dn : Bool} {x : Nat} (hi : i < ySc y) : yCutR y i dn x < ySc (yCut y i dn x) := by
  unfold yCut yCutR
  split
  · show ySc y < ySc y + 2; omega
  · exact hi
def yRz (y : YV) (j n : Nat) : YV := (ySc y, yKc y, yF y, yS y, fun m => if m < n ∧ m ≠ j ∧ 0 < kN (yK y m) then dearK (yK y m) else yK y m)
def yRaise (y : YV) (j : Nat) : YV := (ySc y, yKc y, yF y, yS y, fun m => if m ≠ j ∧ 0 < kN (yK y m) then dearK (yK y m) else yK y m)
theorem yRz_at {y : YV} {j n : Nat} : yK (yRz y j n) n = yK y n := if_neg (fun z => absurd z.1 (Nat.lt_irrefl n))
theorem yRz_0 {y : YV} {j m : Nat} : yK (yRz y j 0) m = yK y m := by
  show (if m < 0 ∧ m ≠ j ∧ 0 < kN (yK y m) then dearK (yK y m) else yK y m) = yK y m
  exact if_neg (fun z => absurd z.1 (Nat.not_lt_zero m))
theorem yRz_no {y : YV} {j n : Nat} (h : ¬ (n ≠ j ∧ 0 < kN (yK y n))) (m : Nat) : yK (yRz y j (n + 1)) m = yK (yRz y j n) m := by
  show (if _ then _ else _) = (if _ then _ else _)
  by_cases e : m = n
  · subst e
    rw [if_neg (fun z => h z.2), if_neg (fun z => h z.2)]
  · by_cases c : m < n
    · simp only [show m < n + 1 from by omega, c]
    · simp only [show ¬ m < n + 1 from by omega, c]
theorem yRz_yes {y : YV} {j n : Nat} (h : n ≠ j) (h2 : 0 < kN (yK y n)) (m : Nat) : yK (yRz y j (n + 1)) m = fU (yK (yRz y j n)) n (dearK (yK y n)) m := by
  by_cases e : m = n
  · subst e
    rw [fU_eq]
    exact if_pos ⟨Nat.lt_succ_self _, h, h2⟩
  · rw [fU_ne e]
    show (if _ then _ else _) = (if _ then _ else _)
    by_cases c : m < n
    · simp only [show m < n + 1 from by omega, c]
    · simp only [show ¬ m < n + 1 from by omega, c]
/-- a stone of kind j from slab i in manner mn -/
abbrev yT1 (y : YV) (i mn : Nat) (k : KV) : YV := yCut y i true (kw k mn)
abbrev nT1 (y : YV) (i mn : Nat) (k : KV) : Nat := yCutR y i true (kw k mn)
abbrev yT2 (y : YV) (i mn : Nat) (k : KV) : YV := yCut (yT1 y i mn k) (nT1 y i mn k) false (kh k mn)
abbrev nT2 (y : YV) (i mn : Nat) (k : KV) : Nat := yCutR (yT1 y i mn k) (nT1 y i mn k) false (kh k mn)
abbrev yT3 (y : YV) (i mn : Nat) (k : KV) : YV := ySetS (yT2 y i mn k) (nT2 y i mn k) (sState (yS (yT2 y i mn k) (nT2 y i mn k)) 2)
def yTake (y : YV) (i j mn : Nat) : YV := yRaise (ySetK (yT3 y i mn (yK y j)) j (sellK (yK y j))) j
theorem yTake_le {y : YV} {i j mn : Nat} : ySc (yTake y i j mn) ≤ ySc y + 4 := by
  have h1 : ySc (yT1 y i mn (yK y j)) ≤ ySc y + 2 := yCut_le
  have h2 : ySc (yT2 y i mn (yK y j)) ≤ ySc (yT1 y i mn (yK y j)) + 2 := yCut_le
  show ySc (yT2 y i mn (yK y j)) ≤ _
  omega
set_option maxHeartbeats 4000000 in
set_option maxRecDepth 100000 in
/-- Stock.raiseOthers(sold) -/
theorem c_X3_raiseOthers (l : Launch) (K : gK) (G : gW) (z : Bool) (r : Nat) (L : Nat → Nat → Nat) (y : YV) (j : Nat) (hs : StockG K z r L G y) (hj : j < 2 ^ 31) : gM l yX3_raiseOthers wsX3_raiseOthers 3 61 0 0 K [.ref (L 0 0), .int (nI j)] G (fun v G1 => v = none ∧ StockG K z r L G1 (yRaise y j) ∧ Ag r G G1) (gNo) := by
  refine gM.of (cc := cX3_raiseOthers) (maxL := 4) (ret := none) (by decide) rfl (Nat.le_of_ble_eq_true rfl) ?_
  intro p e s m below meth c A S hr hlocks htab hname hE hA hI ls hl
  have hx := S.1
  have hb := S.2.1
  have hml := S.2.2.1
  have hl : lv_has ls 4 [(0, .ref (L 0 0)), (1, .int (nI j))] := hl
  have h44 := hs.1.2.2.2.1
  have h6 := hs.1.2.2.2.2.1
  have hf2 := hs.1.2.2.2.2.2
  obtain ⟨H, hHe⟩ : ∃ z, z = s.heap := ⟨_, rfl⟩
  obtain ⟨locs, hLe⟩ : ∃ z : List Loc, z = [] := ⟨_, rfl⟩
  rw [← hHe, ← hLe]
  have hI : gI K A s G H locs := by rw [hHe, hLe]; exact hI
  clear hHe hLe
  refine lv_iconst (v := nI 0) hx hb dX3_raiseOthers_0 (by decide) ?_
  refine lv_istore_n (lv' := [(2, .int (nI 0)), (0, .ref (L 0 0)), (1, .int (nI j))]) hx hb dX3_raiseOthers_1 rfl hl (by decide) rfl (fun ls hl => ?_)
  have L2 : ∀ (n : Nat) (i : Nat) (G1 : gW) (H : Heap) (locs : List Loc) (ls : Array Slot) (hn : yKc y - i < n) (hi : i ≤ yKc y) (hsi : StockG K z r L G1 (yRz y j i)) (hai : Ag r G G1), gI K A s G1 H locs → lv_has ls 4 [(0, .ref (L 0 0)), (1, .int (nI j)), (2, .int (nI i))] → W p l e (gRoom 3 61 0 0) s m ([.ref (L 0 0), .int (nI j)] : List Value).toArray below meth c H locs 0 0 (gEnd K below (fun v G1 => v = none ∧ StockG K z r L G1 (yRaise y j) ∧ Ag r G G1) (gNo) A ([.ref (L 0 0), .int (nI j)] : List Value).toArray s 0 0) (F0 m 2 ls []) := by
    clear hI hl
    intro n
    induction n with
    | zero =>
      intro i G1 H locs ls hn hi hsi hai hI hl
      exact absurd hn (Nat.not_lt_zero _)
    | succ n ih =>
      intro i G1 H locs ls hn hi hsi hai hI hl
      have hkc9 : yKc (yRz y j i) = yKc y := rfl
      refine lv_iload_n hx hb dX3_raiseOthers_2 rfl (lv_at hl 2 rfl) ?_
      refine lv_aload_n hx hb dX3_raiseOthers_3 rfl (lv_at hl 0 rfl) ?_
      refine g_get S hE hI (C := RX3) (T := TX3) (N := 5) (ref := "StonecutterYard$Stock") (fun w h => (List.mem_cons_of_mem _ (List.mem_append_left _ (List.mem_append_right _ h)))) hsi.1.1 rfl 3 (by decide) (List.mem_cons_of_mem _ (List.mem_append_left _ (List.mem_append_left _ (List.mem_of_getElem? (i := 0) rfl)))) (fun _ h9 => h9) (v := .int (nI (yKc (yRz y j i)))) rfl dX3_raiseOthers_4 ?_
      refine lv_icmp_ge (tgt := 42) hx hb dX3_raiseOthers_7 (by decide) (fun c_7 => ?_) (fun c_7 => ?_)
      · skip
        have c_7 : (yKc (yRz y j i)) ≤ i := (nI_leI (a := (yKc (yRz y j i))) (b := i) (by omega) (by omega)).mp c_7
        exact g_vret S hI hr hlocks (Nat.zero_le _) (Nat.zero_le _) dX3_raiseOthers_42 ⟨rfl, hsi.cg rfl rfl rfl (fun _ _ => rfl) (fun m hm => by have hm : m < yKc y := hm; show (if _ then _ else _) = (if _ then _ else _); simp only [show m < i from by omega, true_and]), hai⟩
      · skip
        have c_7 : i < (yKc (yRz y j i)) := Nat.not_le.mp (fun z => c_7 ((nI_leI (a := (yKc (yRz y j i))) (b := i) (by omega) (by omega)).mpr z))
        refine lv_aload_n hx hb dX3_raiseOthers_10 rfl (lv_at hl 0 rfl) ?_
        refine lv_iload_n hx hb dX3_raiseOthers_11 rfl (lv_at hl 2 rfl) ?_
        refine g_callV (As := [.int (nI i)]) (rest := []) (b := (L 0 0)) (n := 1) S hE hI hA (c_kindIn l K _ r L (ySc y) (yKc y) (yF y) i hsi.1 c_7) gX3_raiseOthers_X3_kindOrNull rfl (by decide +kernel) ⟨Nat.le_of_ble_eq_true rfl, Nat.le_of_ble_eq_true rfl⟩ (g_hro hE hI hsi.1.1 rfl) rfl hl.1 rfl (Nat.le_of_ble_eq_true rfl) dX3_raiseOthers_12 ⟨Nat.le_of_ble_eq_true rfl, Nat.le_of_ble_eq_true rfl⟩ (fun E ce q9 Gx H1 locs1 hx9 => hx9.elim) (fun rv Gc_12 H locs hp hI => ?_)
        obtain ⟨rfl, hq9⟩ := hp
        rw [hq9] at hI
        obtain ⟨hkd, hkok⟩ := hsi.getK c_7 yRz_at
        have hkok9 := hkok
        obtain ⟨k1, k2, k3, k4, k5, k6, k7, k8, k9⟩ := hkok9
        refine W.eq (g2 := F0 m 15 ls [.ref (L 5 i)]) rfl ?_
        refine lv_astore_n (lv' := [(3, .ref (L 5 i)), (0, .ref (L 0 0)), (1, .int (nI j)), (2, .int (nI i))]) hx hb dX3_raiseOthers_15 rfl hl (by decide) rfl (fun ls hl => ?_)
        refine lv_aload_n hx hb dX3_raiseOthers_16 rfl (lv_at hl 0 rfl) ?_
        refine lv_ifnull hx hb dX3_raiseOthers_17 ?_
        refine lv_iload_n hx hb dX3_raiseOthers_20 rfl (lv_at hl 3 rfl) ?_
        refine lv_iload_n hx hb dX3_raiseOthers_21 rfl (lv_at hl 2 rfl) ?_
        refine lv_icmp_eq (tgt := 36) hx hb dX3_raiseOthers_22 (by decide) (fun c_22 => ?_) (fun c_22 => ?_)
        · skip
          have c_22 : i = j := (nI_eq (a := i) (b := j) (by omega) (by omega)).mp c_22
          have hno : ¬ (i ≠ j ∧ 0 < kN (yK y i)) := fun z9 => z9.1 c_22
          refine lv_iinc (v := nI (i + 1)) (lv' := [(2, .int (nI (i + 1))), (3, .ref (L 5 i)), (0, .ref (L 0 0)), (1, .int (nI j))]) hx hb dX3_raiseOthers_36 hl (k := 3) rfl (nI_add _ 1) (by decide) rfl (fun ls hl => ?_)
          refine lv_goto (tgt := 2) hx hb dX3_raiseOthers_39 (by decide) ?_
          exact ih (i + 1) G1 H locs ls (by omega) (by omega) (hsi.cg rfl rfl rfl (fun _ _ => rfl) (fun m _ => yRz_no hno m)) hai hI (lv_sub hl [2,3,0] rfl)
        · skip
          have c_22 : i ≠ j := fun z => c_22 ((nI_eq (a := i) (b := j) (by omega) (by omega)).mpr z)
          refine lv_aload_n hx hb dX3_raiseOthers_25 rfl (lv_at hl 0 rfl) ?_
          refine g_getN S hE hI (C := RX0) (T := TX0) (N := 8) (ref := "StonecutterYard$Kind") (host := "StonecutterYard") (fun w h => (List.mem_cons_of_mem _ (List.mem_append_right _ h))) hkd rfl 5 (by decide) (List.mem_of_getElem? (i := 24) rfl) (fun _ h9 => h9) (v := .int (nI (kN (yK y i)))) rfl dX3_raiseOthers_26 ?_
          refine lv_if_le (tgt := 36) hx hb dX3_raiseOthers_29 (by decide) (fun c_29 => ?_) (fun c_29 => ?_)
          · skip
            have c_29 : (kN (yK y i)) ≤ 0 := (nI_leI (a := (kN (yK y i))) (b := 0) (by omega) (by omega)).mp c_29
            have hno : ¬ (i ≠ j ∧ 0 < kN (yK y i)) := fun z9 => absurd z9.2 (by omega)
            refine lv_iinc (v := nI (i + 1)) (lv' := [(2, .int (nI (i + 1))), (3, .ref (L 5 i)), (0, .ref (L 0 0)), (1, .int (nI j))]) hx hb dX3_raiseOthers_36 hl (k := 3) rfl (nI_add _ 1) (by decide) rfl (fun ls hl => ?_)
            refine lv_goto (tgt := 2) hx hb dX3_raiseOthers_39 (by decide) ?_
            exact ih (i + 1) G1 H locs ls (by omega) (by omega) (hsi.cg rfl rfl rfl (fun _ _ => rfl) (fun m _ => yRz_no hno m)) hai hI (lv_sub hl [2,3,0] rfl)
          · skip
            have c_29 : 0 < (kN (yK y i)) := Nat.not_le.mp (fun z => c_29 ((nI_leI (a := (kN (yK y i))) (b := 0) (by omega) (by omega)).mpr z))
            refine lv_aload_n hx hb dX3_raiseOthers_32 rfl (lv_at hl 0 rfl) ?_
            refine g_callV (As := []) (rest := []) (b := (L 5 i)) (n := 0) S hE hI hA (c_X0_becomeDearer l K _ (r, 5, i) (L 5 i) (yK y i) hkd hkok) gX3_raiseOthers_X0_becomeDearer rfl (by decide +kernel) ⟨Nat.le_of_ble_eq_true rfl, Nat.le_of_ble_eq_true rfl⟩ (g_hro hE hI hkd rfl) rfl hl.1 rfl (Nat.le_of_ble_eq_true rfl) dX3_raiseOthers_33 ⟨Nat.le_of_ble_eq_true rfl, Nat.le_of_ble_eq_true rfl⟩ (fun E ce q9 Gx H1 locs1 hx9 => hx9.elim) (fun rv Gc_33 H locs hp hI => ?_)
            obtain ⟨rfl, hGc⟩ := hp
            have hsn : StockG K z r L Gc_33 (yRz y j (i + 1)) := by rw [hGc]; exact (hsi.setK c_7 (dearK_ok hkok)).cg rfl rfl rfl (fun _ _ => rfl) (fun m _ => yRz_yes c_22 c_29 m)
            have han : Ag r G Gc_33 := by rw [hGc]; exact hai.st
            refine W.eq (g2 := F0 m 36 ls []) rfl ?_
            refine lv_iinc (v := nI (i + 1)) (lv' := [(2, .int (nI (i + 1))), (3, .ref (L 5 i)), (0, .ref (L 0 0)), (1, .int (nI j))]) hx hb dX3_raiseOthers_36 hl (k := 3) rfl (nI_add _ 1) (by decide) rfl (fun ls hl => ?_)
            refine lv_goto (tgt := 2) hx hb dX3_raiseOthers_39 (by decide) ?_
            exact ih (i + 1) Gc_33 H locs ls (by omega) (by omega) hsn han hI (lv_sub hl [2,3,0] rfl)
  exact L2 _ 0 G H locs ls (Nat.lt_succ_self _) (Nat.zero_le _) (hs.cg rfl rfl rfl (fun _ _ => rfl) (fun m _ => yRz_0)) Ag.rf hI (lv_sub hl [1,2,0] rfl)
set_option maxHeartbeats 4000000 in
set_option maxRecDepth 100000 in
/-- Stock.takeStone(slabNumber, kindNumber) -/
theorem c_X3_takeStone (l : Launch) (K : gK) (G : gW) (z : Bool) (r : Nat) (L : Nat → Nat → Nat) (y : YV) (i j mn : Nat) (hs : StockG K z r L G y) (hi : i < ySc y) (hj : j < yKc y) (hfit : sFits (yS y i) (yK y j) = some mn) (hroom : ySc y ≤ 40) : gM l yX3_takeStone wsX3_takeStone 5 117 0 0 K [.ref (L 0 0), .int (nI i), .int (nI j)] G (fun v G1 => v = some (.int (nI (sellP (yK y j)))) ∧ StockG K z r L G1 (yTake y i j mn) ∧ Ag r G G1) (gNo) := by
  refine gM.of (cc := cX3_takeStone) (maxL := 9) (ret := (some .int)) (by decide) rfl (Nat.le_of_ble_eq_true rfl) ?_
  intro p e s m below meth c A S hr hlocks htab hname hE hA hI ls hl
  have hx := S.1
  have hb := S.2.1
  have hml := S.2.2.1
  have hl : lv_has ls 9 [(0, .ref (L 0 0)), (1, .int (nI i)), (2, .int (nI j))] := hl
  have h44 := hs.1.2.2.2.1
  have h6 := hs.1.2.2.2.2.1
  have hf2 := hs.1.2.2.2.2.2
  have hmn := sFits_lt hfit
  obtain ⟨H, hHe⟩ : ∃ z, z = s.heap := ⟨_, rfl⟩
  obtain ⟨locs, hLe⟩ : ∃ z : List Loc, z = [] := ⟨_, rfl⟩
  rw [← hHe, ← hLe]
  have hI : gI K A s G H locs := by rw [hHe, hLe]; exact hI
  clear hHe hLe
  refine lv_aload_n hx hb dX3_takeStone_0 rfl (lv_at hl 0 rfl) ?_
  refine lv_iload_n hx hb dX3_takeStone_1 rfl (lv_at hl 1 rfl) ?_
  refine g_callV (As := [.int (nI i)]) (rest := []) (b := (L 0 0)) (n := 1) S hE hI hA (c_slabIn l K _ r L (ySc y) (yKc y) (yF y) i hs.1 hi) gX3_takeStone_X3_slabOrNull rfl (by decide +kernel) ⟨Nat.le_of_ble_eq_true rfl, Nat.le_of_ble_eq_true rfl⟩ (g_hro hE hI hs.1.1 rfl) rfl hl.1 rfl (Nat.le_of_ble_eq_true rfl) dX3_takeStone_2 ⟨Nat.le_of_ble_eq_true rfl, Nat.le_of_ble_eq_true rfl⟩ (fun E ce q9 Gx H1 locs1 hx9 => hx9.elim) (fun rv Gc_2 H locs hp hI => ?_)
  obtain ⟨rfl, hq9⟩ := hp
  rw [hq9] at hI
  obtain ⟨P, hsl, hpt, hpk, hsok⟩ := hs.slab hi
  have hsok9 := hsok
  obtain ⟨s1, s2, s3, s4, s5, s6, s7, s8⟩ := hsok9
  refine W.eq (g2 := F0 m 5 ls [.ref (L 3 i)]) rfl ?_
  refine lv_astore_n (lv' := [(3, .ref (L 3 i)), (0, .ref (L 0 0)), (1, .int (nI i)), (2, .int (nI j))]) hx hb dX3_takeStone_5 rfl hl (by decide) rfl (fun ls hl => ?_)
  refine lv_aload_n hx hb dX3_takeStone_6 rfl (lv_at hl 1 rfl) ?_
  refine lv_iload_n hx hb dX3_takeStone_7 rfl (lv_at hl 3 rfl) ?_
  refine g_callV (As := [.int (nI j)]) (rest := []) (b := (L 0 0)) (n := 1) S hE hI hA (c_kindIn l K _ r L (ySc y) (yKc y) (yF y) j hs.1 hj) gX3_takeStone_X3_kindOrNull rfl (by decide +kernel) ⟨Nat.le_of_ble_eq_true rfl, Nat.le_of_ble_eq_true rfl⟩ (g_hro hE hI hs.1.1 rfl) rfl hl.1 rfl (Nat.le_of_ble_eq_true rfl) dX3_takeStone_8 ⟨Nat.le_of_ble_eq_true rfl, Nat.le_of_ble_eq_true rfl⟩ (fun E ce q9 Gx H1 locs1 hx9 => hx9.elim) (fun rv Gc_8 H locs hp hI => ?_)
  obtain ⟨rfl, hq9⟩ := hp
  rw [hq9] at hI
  obtain ⟨hkd, hkok⟩ := hs.kind hj
  have hkok9 := hkok
  obtain ⟨k1, k2, k3, k4, k5, k6, k7, k8, k9⟩ := hkok9
  refine W.eq (g2 := F0 m 11 ls [.ref (L 5 j)]) rfl ?_
  refine lv_astore (lv' := [(4, .ref (L 5 j)), (3, .ref (L 3 i)), (0, .ref (L 0 0)), (1, .int (nI i)), (2, .int (nI j))]) hx hb dX3_takeStone_11 hl (by decide) rfl (fun ls hl => ?_)
  refine lv_aload_n hx hb dX3_takeStone_13 rfl (lv_at hl 1 rfl) ?_
  refine lv_ifnull hx hb dX3_takeStone_14 ?_
  refine lv_aload hx hb dX3_takeStone_17 (lv_at hl 0 rfl) ?_
  refine lv_ifnonnull (tgt := 24) hx hb dX3_takeStone_19 (by decide) ?_
  refine lv_aload_n hx hb dX3_takeStone_24 rfl (lv_at hl 1 rfl) ?_
  refine lv_aload hx hb dX3_takeStone_25 (lv_at hl 0 rfl) ?_
  refine g_callV (As := [.ref (L 5 j)]) (rest := []) (b := (L 3 i)) (n := 1) S hE hI hA (c_X2_firstManner l K _ (r, 3, i) (r, 4, i) (r, 5, j) (L 3 i) (L 5 j) (yS y i) (L 4 i) P (yK y j) hsl hpt hkd hsok hkok hpk) gX3_takeStone_X2_firstManner rfl (by decide +kernel) ⟨Nat.le_of_ble_eq_true rfl, Nat.le_of_ble_eq_true rfl⟩ (g_hro hE hI hsl rfl) rfl hl.1 rfl (Nat.le_of_ble_eq_true rfl) dX3_takeStone_27 ⟨Nat.le_of_ble_eq_true rfl, Nat.le_of_ble_eq_true rfl⟩ (fun E ce q9 Gx H1 locs1 hx9 => hx9.elim) (fun rv Gc_27 H locs hp hI => ?_)
  obtain ⟨rfl, hq9⟩ := hp
  rw [hq9] at hI
  rw [hfit]
  refine W.eq (g2 := F0 m 30 ls [.int (nI mn)]) rfl ?_
  refine lv_istore (lv' := [(5, .int (nI mn)), (4, .ref (L 5 j)), (3, .ref (L 3 i)), (0, .ref (L 0 0)), (1, .int (nI i)), (2, .int (nI j))]) hx hb dX3_takeStone_30 hl (by decide) rfl (fun ls hl => ?_)
  refine lv_iload hx hb dX3_takeStone_32 (lv_at hl 0 rfl) ?_
  refine lv_iconst (v := (-1)) hx hb dX3_takeStone_34 (by decide) ?_
  refine lv_icmp_ne (tgt := 40) hx hb dX3_takeStone_35 (by decide) (fun c_35 => ?_) (fun c_35 => ?_)
  · skip
    refine lv_aload_n hx hb dX3_takeStone_40 rfl (lv_at hl 3 rfl) ?_
    refine lv_iload_n hx hb dX3_takeStone_41 rfl (lv_at hl 4 rfl) ?_
    refine lv_iconst (v := nI 1) hx hb dX3_takeStone_42 (by decide) ?_
    refine lv_aload hx hb dX3_takeStone_43 (lv_at hl 1 rfl) ?_
    refine lv_iload hx hb dX3_takeStone_45 (lv_at hl 0 rfl) ?_
    refine g_callV (As := [.int (nI mn)]) (rest := [.int (nI 1), .int (nI i), .ref (L 0 0)]) (b := (L 5 j)) (n := 1) S hE hI hA (c_X0_wideIn l K _ (r, 5, j) (L 5 j) (yK y j) mn hkd hmn) gX3_takeStone_X0_wideIn rfl (by decide +kernel) ⟨Nat.le_of_ble_eq_true rfl, Nat.le_of_ble_eq_true rfl⟩ (g_hro hE hI hkd rfl) rfl hl.1 rfl (Nat.le_of_ble_eq_true rfl) dX3_takeStone_47 ⟨Nat.le_of_ble_eq_true rfl, Nat.le_of_ble_eq_true rfl⟩ (fun E ce q9 Gx H1 locs1 hx9 => hx9.elim) (fun rv Gc_47 H locs hp hI => ?_)
    obtain ⟨rfl, hq9⟩ := hp
    rw [hq9] at hI
    have hkw9 := kw_le hkok mn
    have hkh9 := kh_le hkok mn
    refine W.eq (g2 := F0 m 50 ls [.int (nI (kw (yK y j) mn)), .int (nI 1), .int (nI i), .ref (L 0 0)]) rfl ?_
    refine g_callV (As := [.int (nI i), .int (nI 1), .int (nI (kw (yK y j) mn))]) (rest := []) (b := (L 0 0)) (n := 3) S hE hI hA (c_cutD l K _ z r L y i (kw (yK y j) mn) hs hi hkw9 (fun _ => by omega)) gX3_takeStone_X3_cutSlab rfl (by decide +kernel) ⟨Nat.le_of_ble_eq_true rfl, Nat.le_of_ble_eq_true rfl⟩ (g_hro hE hI hs.1.1 rfl) rfl hl.1 rfl (Nat.le_of_ble_eq_true rfl) dX3_takeStone_50 ⟨Nat.le_of_ble_eq_true rfl, Nat.le_of_ble_eq_true rfl⟩ (fun E ce q9 Gx H1 locs1 hx9 => hx9.elim) (fun rv Gc_50 H locs hp hI => ?_)
    obtain ⟨rfl, hs1, ha1⟩ := hp
    have hkc1 : j < yKc (yT1 y i mn (yK y j)) := by rw [yCut_Kc]; exact hj
    obtain ⟨hkd_1, -⟩ := hs1.getK (i := j) (k := (yK y j)) hkc1 (by rw [yCut_K])
    have hn1 : nT1 y i mn (yK y j) < ySc (yT1 y i mn (yK y j)) := yCutR_lt hi
    have hl1 : ySc (yT1 y i mn (yK y j)) ≤ ySc y + 2 := yCut_le
    refine W.eq (g2 := F0 m 53 ls [.int (nI (nT1 y i mn (yK y j)))]) rfl ?_
    refine lv_istore (lv' := [(6, .int (nI (nT1 y i mn (yK y j)))), (5, .int (nI mn)), (4, .ref (L 5 j)), (3, .ref (L 3 i)), (0, .ref (L 0 0)), (1, .int (nI i)), (2, .int (nI j))]) hx hb dX3_takeStone_53 hl (by decide) rfl (fun ls hl => ?_)
    refine lv_aload_n hx hb dX3_takeStone_55 rfl (lv_at hl 4 rfl) ?_
    refine lv_iload hx hb dX3_takeStone_56 (lv_at hl 0 rfl) ?_
    refine lv_iconst (v := nI 0) hx hb dX3_takeStone_58 (by decide) ?_
    refine lv_aload hx hb dX3_takeStone_59 (lv_at hl 2 rfl) ?_
    refine lv_iload hx hb dX3_takeStone_61 (lv_at hl 1 rfl) ?_
    refine g_callV (As := [.int (nI mn)]) (rest := [.int (nI 0), .int (nI (nT1 y i mn (yK y j))), .ref (L 0 0)]) (b := (L 5 j)) (n := 1) S hE hI hA (c_X0_highIn l K _ (r, 5, j) (L 5 j) (yK y j) mn hkd_1 hmn) gX3_takeStone_X0_highIn rfl (by decide +kernel) ⟨Nat.le_of_ble_eq_true rfl, Nat.le_of_ble_eq_true rfl⟩ (g_hro hE hI hkd_1 rfl) rfl hl.1 rfl (Nat.le_of_ble_eq_true rfl) dX3_takeStone_63 ⟨Nat.le_of_ble_eq_true rfl, Nat.le_of_ble_eq_true rfl⟩ (fun E ce q9 Gx H1 locs1 hx9 => hx9.elim) (fun rv Gc_63 H locs hp hI => ?_)
    obtain ⟨rfl, hq9⟩ := hp
    rw [hq9] at hI
    refine W.eq (g2 := F0 m 66 ls [.int (nI (kh (yK y j) mn)), .int (nI 0), .int (nI (nT1 y i mn (yK y j))), .ref (L 0 0)]) rfl ?_
    refine g_callV (As := [.int (nI (nT1 y i mn (yK y j))), .int (nI 0), .int (nI (kh (yK y j) mn))]) (rest := []) (b := (L 0 0)) (n := 3) S hE hI hA (c_cutA l K _ z r L (yT1 y i mn (yK y j)) (nT1 y i mn (yK y j)) (kh (yK y j) mn) hs1 hn1 hkh9 (fun _ => by omega)) gX3_takeStone_X3_cutSlab rfl (by decide +kernel) ⟨Nat.le_of_ble_eq_true rfl, Nat.le_of_ble_eq_true rfl⟩ (g_hro hE hI hs1.1.1 rfl) rfl hl.1 rfl (Nat.le_of_ble_eq_true rfl) dX3_takeStone_66 ⟨Nat.le_of_ble_eq_true rfl, Nat.le_of_ble_eq_true rfl⟩ (fun E ce q9 Gx H1 locs1 hx9 => hx9.elim) (fun rv Gc_66 H locs hp hI => ?_)
    obtain ⟨rfl, hs2, ha2⟩ := hp
    have hkc2 : j < yKc (yT2 y i mn (yK y j)) := by rw [yCut_Kc]; exact hkc1
    obtain ⟨hkd_2, -⟩ := hs2.getK (i := j) (k := (yK y j)) hkc2 (by rw [yCut_K, yCut_K])
    have hn2 : nT2 y i mn (yK y j) < ySc (yT2 y i mn (yK y j)) := yCutR_lt hn1
    have hl2 : ySc (yT2 y i mn (yK y j)) ≤ ySc (yT1 y i mn (yK y j)) + 2 := yCut_le
    obtain ⟨P2, hsl2, hpt2, hpk2, hso2⟩ := hs2.slab hn2
    refine W.eq (g2 := F0 m 69 ls [.int (nI (nT2 y i mn (yK y j)))]) rfl ?_
    refine lv_istore (lv' := [(6, .int (nI (nT2 y i mn (yK y j)))), (5, .int (nI mn)), (4, .ref (L 5 j)), (3, .ref (L 3 i)), (0, .ref (L 0 0)), (1, .int (nI i)), (2, .int (nI j))]) hx hb dX3_takeStone_69 hl (by decide) rfl (fun ls hl => ?_)
    refine lv_aload_n hx hb dX3_takeStone_71 rfl (lv_at hl 4 rfl) ?_
    refine lv_iload hx hb dX3_takeStone_72 (lv_at hl 0 rfl) ?_
    refine g_callV (As := [.int (nI (nT2 y i mn (yK y j)))]) (rest := []) (b := (L 0 0)) (n := 1) S hE hI hA (c_slabIn l K _ r L (ySc (yT2 y i mn (yK y j))) (yKc (yT2 y i mn (yK y j))) (yF (yT2 y i mn (yK y j))) (nT2 y i mn (yK y j)) hs2.1 hn2) gX3_takeStone_X3_slabOrNull rfl (by decide +kernel) ⟨Nat.le_of_ble_eq_true rfl, Nat.le_of_ble_eq_true rfl⟩ (g_hro hE hI hs2.1.1 rfl) rfl hl.1 rfl (Nat.le_of_ble_eq_true rfl) dX3_takeStone_74 ⟨Nat.le_of_ble_eq_true rfl, Nat.le_of_ble_eq_true rfl⟩ (fun E ce q9 Gx H1 locs1 hx9 => hx9.elim) (fun rv Gc_74 H locs hp hI => ?_)
    obtain ⟨rfl, hq9⟩ := hp
    rw [hq9] at hI
    refine W.eq (g2 := F0 m 77 ls [.ref (L 3 (nT2 y i mn (yK y j)))]) rfl ?_
    refine lv_astore (lv' := [(7, .ref (L 3 (nT2 y i mn (yK y j)))), (6, .int (nI (nT2 y i mn (yK y j)))), (5, .int (nI mn)), (4, .ref (L 5 j)), (3, .ref (L 3 i)), (0, .ref (L 0 0)), (1, .int (nI i)), (2, .int (nI j))]) hx hb dX3_takeStone_77 hl (by decide) rfl (fun ls hl => ?_)
    refine lv_aload hx hb dX3_takeStone_79 (lv_at hl 0 rfl) ?_
    refine lv_ifnull hx hb dX3_takeStone_81 ?_
    refine lv_aload hx hb dX3_takeStone_84 (lv_at hl 0 rfl) ?_
    refine lv_iconst (v := nI 2) hx hb dX3_takeStone_86 (by decide) ?_
    refine g_putN S hE hI (C := RX2) (T := TX2) (N := 7) (ref := "StonecutterYard$Slab") (host := "StonecutterYard") (fun w h => (List.mem_cons_of_mem _ (List.mem_append_left _ (List.mem_append_left _ (List.mem_append_right _ h))))) tyX2 tyX2_ok nmX2 hsl2 rfl 4 (by decide) (List.mem_of_getElem? (i := 23) rfl) (fun _ h9 => h9) rfl rfl rfl (Nat.le_of_ble_eq_true rfl) dX3_takeStone_87 (fun H locs hI => ?_)
    have hI : gI K A s (gset Gc_66 (r, 3, nT2 y i mn (yK y j)) (L 3 (nT2 y i mn (yK y j))) (.inr (3, [.int (nI (sW (yS (yT2 y i mn (yK y j)) (nT2 y i mn (yK y j))))), .int (nI (sH (yS (yT2 y i mn (yK y j)) (nT2 y i mn (yK y j))))), .int (nI (sG (yS (yT2 y i mn (yK y j)) (nT2 y i mn (yK y j))))), .int (sF (yS (yT2 y i mn (yK y j)) (nT2 y i mn (yK y j)))), .int (nI 2), .int (nI ((sL (yS (yT2 y i mn (yK y j)) (nT2 y i mn (yK y j)))).length)), .ref (L 4 (nT2 y i mn (yK y j)))]))) H locs := hI
    obtain ⟨G_1, hG_1⟩ : ∃ z, z = gset Gc_66 (r, 3, nT2 y i mn (yK y j)) (L 3 (nT2 y i mn (yK y j))) (.inr (3, [.int (nI (sW (yS (yT2 y i mn (yK y j)) (nT2 y i mn (yK y j))))), .int (nI (sH (yS (yT2 y i mn (yK y j)) (nT2 y i mn (yK y j))))), .int (nI (sG (yS (yT2 y i mn (yK y j)) (nT2 y i mn (yK y j))))), .int (sF (yS (yT2 y i mn (yK y j)) (nT2 y i mn (yK y j)))), .int (nI 2), .int (nI ((sL (yS (yT2 y i mn (yK y j)) (nT2 y i mn (yK y j)))).length)), .ref (L 4 (nT2 y i mn (yK y j)))])) := ⟨_, rfl⟩
    rw [← hG_1] at hI
    have st_G_1 : G_1 (r, 0, 0) = some ((L 0 0), .inr (4, [.ref (L 1 0), .ref (L 2 0), .int (nI (ySc (yT2 y i mn (yK y j)))), .int (nI (yKc (yT2 y i mn (yK y j)))), .int (nI (yF (yT2 y i mn (yK y j))))])) := by rw [hG_1, gset_ne (g_tne hs2.1.1 hsl2 (by simp))]; exact hs2.1.1
    have aS_G_1 : G_1 (r, 1, 0) = some ((L 1 0), cR (K.2.1 2) 44 (fRef 44 (L 3))) := by rw [hG_1, gset_ne (g_tne hs2.1.2.1 hsl2 (by simp))]; exact hs2.1.2.1
    have aK_G_1 : G_1 (r, 2, 0) = some ((L 2 0), cR (K.2.1 3) 6 (fRef 6 (L 5))) := by rw [hG_1, gset_ne (g_tne hs2.1.2.2.1 hsl2 (by simp))]; exact hs2.1.2.2.1
    have k_G_1 : G_1 (r, 5, j) = some ((L 5 j), .inr (1, [.int (nI (kL (yK y j))), .int (nI (kB (yK y j))), .int (nI (kW (yK y j))), .int (nI (kF (yK y j))), .int (nI (kP (yK y j))), .int (nI (kN (yK y j))), .int (nI (kT (yK y j))), .int (nI (kD (yK y j)))])) := by rw [hG_1, gset_ne (g_tne hkd_2 hsl2 (by simp))]; exact hkd_2
    have u_G_1 : G_1 (r, 3, nT2 y i mn (yK y j)) = some ((L 3 (nT2 y i mn (yK y j))), .inr (3, [.int (nI (sW (yS (yT2 y i mn (yK y j)) (nT2 y i mn (yK y j))))), .int (nI (sH (yS (yT2 y i mn (yK y j)) (nT2 y i mn (yK y j))))), .int (nI (sG (yS (yT2 y i mn (yK y j)) (nT2 y i mn (yK y j))))), .int (sF (yS (yT2 y i mn (yK y j)) (nT2 y i mn (yK y j)))), .int (nI 2), .int (nI ((sL (yS (yT2 y i mn (yK y j)) (nT2 y i mn (yK y j)))).length)), .ref (L 4 (nT2 y i mn (yK y j)))])) := by rw [hG_1]; exact gset_eq _ _ _ _
    have hs3 : StockG K z r L G_1 (yT3 y i mn (yK y j)) := by rw [hG_1]; exact hs2.setS (Nat.lt_of_lt_of_le hn2 hs2.1.2.2.2.1) (P' := P2) (fun _ => ⟨hso2.state (by decide), hpk2⟩) (gset_eq _ _ _ _) ((gset_ne (by simp)).trans hpt2) (fun t _ h3 _ => gset_ne h3)
    have ha3 : Ag r G G_1 := by rw [hG_1]; exact (ha1.tr ha2).st
    obtain ⟨hkd_3, hkok_3⟩ := hs3.getK (i := j) (k := (yK y j)) hkc2 (by show yK (yT2 y i mn (yK y j)) j = _; rw [yCut_K, yCut_K])
    refine lv_aload hx hb dX3_takeStone_90 (lv_at hl 3 rfl) ?_
    refine g_callV (As := []) (rest := []) (b := (L 5 j)) (n := 0) S hE hI hA (c_X0_sell l K _ (r, 5, j) (L 5 j) (yK y j) hkd_3 hkok_3) gX3_takeStone_X0_sell rfl (by decide +kernel) ⟨Nat.le_of_ble_eq_true rfl, Nat.le_of_ble_eq_true rfl⟩ (g_hro hE hI hkd_3 rfl) rfl hl.1 rfl (Nat.le_of_ble_eq_true rfl) dX3_takeStone_92 ⟨Nat.le_of_ble_eq_true rfl, Nat.le_of_ble_eq_true rfl⟩ (fun E ce q9 Gx H1 locs1 hx9 => hx9.elim) (fun rv Gc_92 H locs hp hI => ?_)
    obtain ⟨rfl, hGc⟩ := hp
    have hs4 : StockG K z r L Gc_92 (ySetK (yT3 y i mn (yK y j)) j (sellK (yK y j))) := by rw [hGc]; exact hs3.setK hkc2 (sellK_ok hkok_3)
    have ha4 : Ag r G Gc_92 := by rw [hGc]; exact ha3.st
    refine W.eq (g2 := F0 m 95 ls [.int (nI (sellP (yK y j)))]) rfl ?_
    refine lv_istore (lv' := [(8, .int (nI (sellP (yK y j)))), (7, .ref (L 3 (nT2 y i mn (yK y j)))), (6, .int (nI (nT2 y i mn (yK y j)))), (5, .int (nI mn)), (4, .ref (L 5 j)), (3, .ref (L 3 i)), (0, .ref (L 0 0)), (1, .int (nI i)), (2, .int (nI j))]) hx hb dX3_takeStone_95 hl (by decide) rfl (fun ls hl => ?_)
    refine lv_aload_n hx hb dX3_takeStone_97 rfl (lv_at hl 6 rfl) ?_
    refine lv_iload_n hx hb dX3_takeStone_98 rfl (lv_at hl 8 rfl) ?_
    refine g_callV (As := [.int (nI j)]) (rest := []) (b := (L 0 0)) (n := 1) S hE hI hA (c_X3_raiseOthers l K _ z r L (ySetK (yT3 y i mn (yK y j)) j (sellK (yK y j))) j hs4 (by omega)) gX3_takeStone_X3_raiseOthers rfl (by decide +kernel) ⟨Nat.le_of_ble_eq_true rfl, Nat.le_of_ble_eq_true rfl⟩ (g_hro hE hI hs4.1.1 rfl) rfl hl.1 rfl (Nat.le_of_ble_eq_true rfl) dX3_takeStone_99 ⟨Nat.le_of_ble_eq_true rfl, Nat.le_of_ble_eq_true rfl⟩ (fun E ce q9 Gx H1 locs1 hx9 => hx9.elim) (fun rv Gc_99 H locs hp hI => ?_)
    obtain ⟨rfl, hs5, ha5⟩ := hp
    refine W.eq (g2 := F0 m 102 ls []) rfl ?_
    refine lv_iload hx hb dX3_takeStone_102 (lv_at hl 0 rfl) ?_
    exact g_iret S hI hr hlocks (Nat.zero_le _) (Nat.zero_le _) dX3_takeStone_104 ⟨rfl, hs5, ha4.tr ha5⟩
  · skip
    exact absurd c_35 (nI_m1 (by omega))
