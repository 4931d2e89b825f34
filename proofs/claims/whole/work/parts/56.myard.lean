/-! the reference's yard in region r -/
abbrev cY (a b f : Nat) : va_E := .inr (8, [.ref a, .ref b, .int (nI f)])
def tbL (r k : Nat) : Bool → gTag := fun b => (r, k, if b then 1 else 0)
def tbF (r i : Nat) : Bool → gTag := fun b => (r, 37, 2 * i + if b then 1 else 0)
def MY (K : gK) (r : Nat) (L : Nat → Nat → Nat) (G : gW) (y : YV) (N : Nat) : Prop :=
  (G (r, 30, 0) = some (L 30 0, cY (L 31 0) (L 33 0) (yF y)) ∧ yF y ≤ 2 ∧ ySc y ≤ 44 ∧ yKc y ≤ 6) ∧
  ALg K (r, 31, 0) (tbL r 32) G (L 31 0) (ySc y) (L 35) ∧ ALg K (r, 33, 0) (tbL r 34) G (L 33 0) (yKc y) (L 38) ∧
  (∀ i, i < ySc y → G (r, 35, i) = some (L 35 i, cMS (yS y i) (L 36 i)) ∧ FLi K G (r, 36, i) (tbF r i) (L 36 i) (sL (yS y i)) N ∧ sOK (yS y i)) ∧
  (∀ i, i < yKc y → G (r, 38, i) = some (L 38 i, cMK (yK y i)) ∧ kOK (yK y i))
theorem bestN_max {ok : Nat → Bool} {pr : Nat → Nat} {n : Nat} (h : ok n = true) : (bestN ok pr (n + 1)).2 = max (bestN ok pr n).2 (pr n) := by
  by_cases c : (bestN ok pr n).2 < pr n
  · rw [bestN_yes h c]
    exact (Nat.max_eq_right (Nat.le_of_lt c)).symm
  · rw [bestN_no (fun z => c z.2)]
    exact (Nat.max_eq_left (Nat.not_lt.mp c)).symm
theorem bestN_skip {ok : Nat → Bool} {pr : Nat → Nat} {n : Nat} (h : ok n = false) : bestN ok pr (n + 1) = bestN ok pr n := bestN_no (fun z => by rw [h] at z; exact absurd z.1 (by decide))
/-- the first of n with a property -/
def firstN (q : Nat → Bool) : Nat → Option Nat
  | 0 => none
  | n + 1 => match firstN q n with
    | some i => some i
    | none => if q n = true then some n else none
theorem firstN_none {q : Nat → Bool} : ∀ {n : Nat}, (∀ j, j < n → q j = false) → firstN q n = none
  | 0, _ => rfl
  | n + 1, h => by rw [firstN, firstN_none (fun j hj => h j (by omega)), h n (by omega)]; rfl
theorem firstN_at {q : Nat → Bool} {i : Nat} (h : q i = true) (hb : ∀ j, j < i → q j = false) : ∀ {n : Nat}, i < n → firstN q n = some i
  | 0, hi => absurd hi (Nat.not_lt_zero i)
  | n + 1, hi => by
    by_cases e : i < n
    · rw [firstN, firstN_at h hb e]
    · obtain rfl : i = n := by omega
      rw [firstN, firstN_none hb, if_pos h]
theorem firstN_some {q : Nat → Bool} {i : Nat} : ∀ {n : Nat}, firstN q n = some i → i < n ∧ q i = true ∧ ∀ j, j < i → q j = false
  | 0, h => by cases h
  | n + 1, h => by
    rw [firstN] at h
    cases c : firstN q n with
    | some k =>
      rw [c] at h
      cases h
      obtain ⟨a, b⟩ := firstN_some c
      exact ⟨by omega, b⟩
    | none =>
      rw [c] at h
      by_cases d : q n = true
      · rw [show (match (none : Option Nat) with | some i => some i | none => if q n = true then some n else none) = some n from if_pos d] at h
        cases h
        refine ⟨Nat.lt_succ_self _, d, fun j hj => ?_⟩
        cases e : q j with
        | false => rfl
        | true =>
          exfalso
          have : ∀ m, firstN q m = none → ∀ j, j < m → q j = false := by
            intro m
            induction m with
            | zero => intro _ j hj; exact absurd hj (Nat.not_lt_zero j)
            | succ m ih =>
              intro hm j hj
              rw [firstN] at hm
              cases c2 : firstN q m with
              | some k => rw [c2] at hm; cases hm
              | none =>
                rw [c2] at hm
                by_cases e2 : j = m
                · subst e2
                  cases d2 : q j with
                  | false => rfl
                  | true => rw [show (match (none : Option Nat) with | some i => some i | none => if q j = true then some j else none) = some j from if_pos d2] at hm; cases hm
                · exact ih c2 j (by omega)
          rw [this _ c j hj] at e
          cases e
      · rw [show (match (none : Option Nat) with | some i => some i | none => if q n = true then some n else none) = none from if_neg d] at h
        cases h
set_option maxHeartbeats 4000000 in
set_option maxRecDepth 100000 in
/-- Yard.there() -/
theorem c_X7_there (l : Launch) (K : gK) (G : gW) (r : Nat) (L : Nat → Nat → Nat) (y : YV) (N : Nat) (hm : MY K r L G y N) : gM l yX7_there wsX7_there 5 104 0 0 K [.ref (L 30 0)] G (fun v G1 => v = some (.int (nI (yThere y))) ∧ G1 = G) (gNo) := by
  refine gM.of (cc := cX7_there) (maxL := 3) (ret := (some .int)) (by decide) rfl (Nat.le_of_ble_eq_true rfl) ?_
  intro p e s m below meth c A S hr hlocks htab hname hE hA hI ls hl
  have hx := S.1
  have hb := S.2.1
  have hml := S.2.2.1
  have hl : lv_has ls 3 [(0, .ref (L 30 0))] := hl
  have h44 := hm.1.2.2.1
  have h6 := hm.1.2.2.2
  have hf2 := hm.1.2.1
  obtain ⟨m1, ar1, hl1⟩ := hm.2.1.obj
  obtain ⟨m2, ar2, hl2⟩ := hm.2.2.1.obj
  obtain ⟨H, hHe⟩ : ∃ z, z = s.heap := ⟨_, rfl⟩
  obtain ⟨locs, hLe⟩ : ∃ z : List Loc, z = [] := ⟨_, rfl⟩
  rw [← hHe, ← hLe]
  have hI : gI K A s G H locs := by rw [hHe, hLe]; exact hI
  clear hHe hLe
  refine lv_iconst (v := nI 0) hx hb dX7_there_0 (by decide) ?_
  refine lv_istore_n (lv' := [(1, .int (nI 0)), (0, .ref (L 30 0))]) hx hb dX7_there_1 rfl hl (by decide) rfl (fun ls hl => ?_)
  refine lv_iconst (v := nI 0) hx hb dX7_there_2 (by decide) ?_
  refine lv_istore_n (lv' := [(2, .int (nI 0)), (1, .int (nI 0)), (0, .ref (L 30 0))]) hx hb dX7_there_3 rfl hl (by decide) rfl (fun ls hl => ?_)
  have L4 : ∀ (n : Nat) (i acc : Nat) (H : Heap) (locs : List Loc) (ls : Array Slot) (hn : (ySc y) - i < n) (hi : i ≤ (ySc y)) (hacc : acc = sumN (fun i => isT (yS y i)) i), gI K A s G H locs → lv_has ls 3 [(0, .ref (L 30 0)), (1, .int (nI acc)), (2, .int (nI i))] → W p l e (gRoom 5 104 0 0) s m ([.ref (L 30 0)] : List Value).toArray below meth c H locs 0 0 (gEnd K below (fun v G1 => v = some (.int (nI (yThere y))) ∧ G1 = G) (gNo) A ([.ref (L 30 0)] : List Value).toArray s 0 0) (F0 m 4 ls []) := by
    clear hI hl
    intro n
    induction n with
    | zero =>
      intro i acc H locs ls hn hi hacc hI hl
      exact absurd hn (Nat.not_lt_zero _)
    | succ n ih =>
      intro i acc H locs ls hn hi hacc hI hl
      refine lv_iload_n hx hb dX7_there_4 rfl (lv_at hl 2 rfl) ?_
      refine lv_aload_n hx hb dX7_there_5 rfl (lv_at hl 0 rfl) ?_
      refine g_get S hE hI (C := RX7) (T := TX7) (N := 3) (ref := "StonecutterYardModel$Yard") (fun w h => (List.mem_cons_of_mem _ (List.mem_append_left _ (List.mem_append_left _ (List.mem_append_right _ h))))) hm.1.1 rfl 0 (by decide) (List.mem_cons_of_mem _ (List.mem_append_left _ (List.mem_append_left _ (List.mem_append_left _ (List.mem_append_left _ (List.mem_of_getElem? (i := 0) rfl)))))) (fun _ h9 => h9) (v := .ref (L 31 0)) rfl dX7_there_6 ?_
      refine g_callV (As := []) (rest := [.int (nI i)]) (b := (L 31 0)) (n := 0) S hE hI hA (l_size l K _ (r, 31, 0) (tbL r 32) (L 31 0) (ySc y) (L 35) hm.2.1) gX7_there_Jx4a65c_size_8abf5 rfl (by decide +kernel) ⟨Nat.le_of_ble_eq_true rfl, Nat.le_of_ble_eq_true rfl⟩ (g_hro hE hI hl1 rfl) rfl hl.1 rfl (Nat.le_of_ble_eq_true rfl) dX7_there_9 ⟨Nat.le_of_ble_eq_true rfl, Nat.le_of_ble_eq_true rfl⟩ (fun E ce q9 Gx H1 locs1 hx9 => hx9.elim) (fun rv Gc_9 H locs hp hI => ?_)
      obtain ⟨rfl, hq9⟩ := hp
      rw [hq9] at hI
      refine W.eq (g2 := F0 m 12 ls [.int (nI (ySc y)), .int (nI i)]) rfl ?_
      refine lv_icmp_ge (tgt := 46) hx hb dX7_there_12 (by decide) (fun c_12 => ?_) (fun c_12 => ?_)
      · skip
        have c_12 : (ySc y) ≤ i := (nI_leI (a := (ySc y)) (b := i) (by omega) (by omega)).mp c_12
        refine lv_iload_n hx hb dX7_there_46 rfl (lv_at hl 1 rfl) ?_
        exact g_iret S hI hr hlocks (Nat.zero_le _) (Nat.zero_le _) dX7_there_47 ⟨by rw [hacc, show i = ySc y by omega]; rfl, rfl⟩
      · skip
        have c_12 : i < (ySc y) := Nat.not_le.mp (fun z => c_12 ((nI_leI (a := (ySc y)) (b := i) (by omega) (by omega)).mpr z))
        refine lv_iload_n hx hb dX7_there_15 rfl (lv_at hl 1 rfl) ?_
        refine lv_aload_n hx hb dX7_there_16 rfl (lv_at hl 0 rfl) ?_
        refine g_get S hE hI (C := RX7) (T := TX7) (N := 3) (ref := "StonecutterYardModel$Yard") (fun w h => (List.mem_cons_of_mem _ (List.mem_append_left _ (List.mem_append_left _ (List.mem_append_right _ h))))) hm.1.1 rfl 0 (by decide) (List.mem_cons_of_mem _ (List.mem_append_left _ (List.mem_append_left _ (List.mem_append_left _ (List.mem_append_left _ (List.mem_of_getElem? (i := 0) rfl)))))) (fun _ h9 => h9) (v := .ref (L 31 0)) rfl dX7_there_17 ?_
        refine lv_iload_n hx hb dX7_there_20 rfl (lv_at hl 2 rfl) ?_
        refine g_callV (As := [.int (nI i)]) (rest := [.int (nI acc)]) (b := (L 31 0)) (n := 1) S hE hI hA (l_get l K _ (r, 31, 0) (tbL r 32) (L 31 0) (ySc y) (L 35) i hm.2.1 c_12) gX7_there_Jx4a65c_get_915e3 rfl (by decide +kernel) ⟨Nat.le_of_ble_eq_true rfl, Nat.le_of_ble_eq_true rfl⟩ (g_hro hE hI hl1 rfl) rfl hl.1 rfl (Nat.le_of_ble_eq_true rfl) dX7_there_21 ⟨Nat.le_of_ble_eq_true rfl, Nat.le_of_ble_eq_true rfl⟩ (fun E ce q9 Gx H1 locs1 hx9 => hx9.elim) (fun rv Gc_21 H locs hp hI => ?_)
        obtain ⟨rfl, hq9⟩ := hp
        rw [hq9] at hI
        obtain ⟨hsl, hfl, hsok⟩ := hm.2.2.2.1 i c_12
        have hsok9 := hsok
        obtain ⟨s1, s2, s3, s4, s5, s6, s7, s8⟩ := hsok9
        refine W.eq (g2 := F0 m 24 ls [.ref (L 35 i), .int (nI acc)]) rfl ?_
        refine g_cast S (List.mem_cons_of_mem _ (List.mem_append_left _ (List.mem_append_left _ (List.mem_append_left _ (List.mem_append_left _ (List.mem_of_getElem? (i := 1) rfl)))))) (g_hro hE hI hsl rfl) dX7_there_24 ?_
        refine g_callV (As := []) (rest := [.int (nI acc)]) (b := (L 35 i)) (n := 0) S hE hI hA (c_X6_isThere l K _ (r, 35, i) (L 35 i) (yS y i) (L 36 i) hsl s6) gX7_there_X6_isThere rfl (by decide +kernel) ⟨Nat.le_of_ble_eq_true rfl, Nat.le_of_ble_eq_true rfl⟩ (g_hro hE hI hsl rfl) rfl hl.1 rfl (Nat.le_of_ble_eq_true rfl) dX7_there_27 ⟨Nat.le_of_ble_eq_true rfl, Nat.le_of_ble_eq_true rfl⟩ (fun E ce q9 Gx H1 locs1 hx9 => hx9.elim) (fun rv Gc_27 H locs hp hI => ?_)
        obtain ⟨rfl, hq9⟩ := hp
        rw [hq9] at hI
        refine W.eq (g2 := F0 m 30 ls [.int (bI (decide (sT (yS y i) = 0))), .int (nI acc)]) rfl ?_
        refine lv_if_eq (tgt := 37) hx hb dX7_there_30 (by decide) (fun c_30 => ?_) (fun c_30 => ?_)
        · skip
          have c_30 : (decide (sT (yS y i) = 0)) = false := bI_0.mp c_30
          have c_30 := of_decide_eq_false c_30
          refine lv_iconst (v := nI 0) hx hb dX7_there_37 (by decide) ?_
          refine t_iadd hx hb dX7_there_38 (nI_add _ _) ?_
          refine lv_istore_n (lv' := [(1, .int (nI (acc + 0))), (0, .ref (L 30 0)), (2, .int (nI i))]) hx hb dX7_there_39 rfl hl (by decide) rfl (fun ls hl => ?_)
          refine lv_iinc (v := nI (i + 1)) (lv' := [(2, .int (nI (i + 1))), (1, .int (nI (acc + 0))), (0, .ref (L 30 0))]) hx hb dX7_there_40 hl (k := 2) rfl (nI_add _ 1) (by decide) rfl (fun ls hl => ?_)
          refine lv_goto (tgt := 4) hx hb dX7_there_43 (by decide) ?_
          exact ih (i + 1) (acc + 0) H locs ls (by omega) (by omega) (by rw [hacc, sumN_s]; simp [isT, c_30]) hI (lv_sub hl [2,1,0] rfl)
        · skip
          have c_30 : (decide (sT (yS y i) = 0)) = true := bI_1.mp c_30
          have c_30 := of_decide_eq_true c_30
          refine lv_iconst (v := nI 1) hx hb dX7_there_33 (by decide) ?_
          refine lv_goto (tgt := 38) hx hb dX7_there_34 (by decide) ?_
          refine t_iadd hx hb dX7_there_38 (nI_add _ _) ?_
          refine lv_istore_n (lv' := [(1, .int (nI (acc + 1))), (0, .ref (L 30 0)), (2, .int (nI i))]) hx hb dX7_there_39 rfl hl (by decide) rfl (fun ls hl => ?_)
          refine lv_iinc (v := nI (i + 1)) (lv' := [(2, .int (nI (i + 1))), (1, .int (nI (acc + 1))), (0, .ref (L 30 0))]) hx hb dX7_there_40 hl (k := 2) rfl (nI_add _ 1) (by decide) rfl (fun ls hl => ?_)
          refine lv_goto (tgt := 4) hx hb dX7_there_43 (by decide) ?_
          exact ih (i + 1) (acc + 1) H locs ls (by omega) (by omega) (by rw [hacc, sumN_s]; simp [isT, c_30]) hI (lv_sub hl [2,1,0] rfl)
  exact L4 _ 0 0 H locs ls (Nat.lt_succ_self _) (Nat.zero_le _) rfl hI (lv_sub hl [2,1,0] rfl)
set_option maxHeartbeats 4000000 in
set_option maxRecDepth 100000 in
/-- Yard.areaThere() -/
theorem c_X7_areaThere (l : Launch) (K : gK) (G : gW) (r : Nat) (L : Nat → Nat → Nat) (y : YV) (N : Nat) (hm : MY K r L G y N) : gM l yX7_areaThere wsX7_areaThere 5 104 0 0 K [.ref (L 30 0)] G (fun v G1 => v = some (.int (nI (yAreaT y))) ∧ G1 = G) (gNo) := by
  refine gM.of (cc := cX7_areaThere) (maxL := 3) (ret := (some .int)) (by decide) rfl (Nat.le_of_ble_eq_true rfl) ?_
  intro p e s m below meth c A S hr hlocks htab hname hE hA hI ls hl
  have hx := S.1
  have hb := S.2.1
  have hml := S.2.2.1
  have hl : lv_has ls 3 [(0, .ref (L 30 0))] := hl
  have h44 := hm.1.2.2.1
  have h6 := hm.1.2.2.2
  have hf2 := hm.1.2.1
  obtain ⟨m1, ar1, hl1⟩ := hm.2.1.obj
  obtain ⟨m2, ar2, hl2⟩ := hm.2.2.1.obj
  obtain ⟨H, hHe⟩ : ∃ z, z = s.heap := ⟨_, rfl⟩
  obtain ⟨locs, hLe⟩ : ∃ z : List Loc, z = [] := ⟨_, rfl⟩
  rw [← hHe, ← hLe]
  have hI : gI K A s G H locs := by rw [hHe, hLe]; exact hI
  clear hHe hLe
  refine lv_iconst (v := nI 0) hx hb dX7_areaThere_0 (by decide) ?_
  refine lv_istore_n (lv' := [(1, .int (nI 0)), (0, .ref (L 30 0))]) hx hb dX7_areaThere_1 rfl hl (by decide) rfl (fun ls hl => ?_)
  refine lv_iconst (v := nI 0) hx hb dX7_areaThere_2 (by decide) ?_
  refine lv_istore_n (lv' := [(2, .int (nI 0)), (1, .int (nI 0)), (0, .ref (L 30 0))]) hx hb dX7_areaThere_3 rfl hl (by decide) rfl (fun ls hl => ?_)
  have L4 : ∀ (n : Nat) (i acc : Nat) (H : Heap) (locs : List Loc) (ls : Array Slot) (hn : (ySc y) - i < n) (hi : i ≤ (ySc y)) (hacc : acc = sumN (fun i => if sT (yS y i) = 0 then sA (yS y i) else 0) i), gI K A s G H locs → lv_has ls 3 [(0, .ref (L 30 0)), (1, .int (nI acc)), (2, .int (nI i))] → W p l e (gRoom 5 104 0 0) s m ([.ref (L 30 0)] : List Value).toArray below meth c H locs 0 0 (gEnd K below (fun v G1 => v = some (.int (nI (yAreaT y))) ∧ G1 = G) (gNo) A ([.ref (L 30 0)] : List Value).toArray s 0 0) (F0 m 4 ls []) := by
    clear hI hl
    intro n
    induction n with
    | zero =>
      intro i acc H locs ls hn hi hacc hI hl
      exact absurd hn (Nat.not_lt_zero _)
    | succ n ih =>
      intro i acc H locs ls hn hi hacc hI hl
      refine lv_iload_n hx hb dX7_areaThere_4 rfl (lv_at hl 2 rfl) ?_
      refine lv_aload_n hx hb dX7_areaThere_5 rfl (lv_at hl 0 rfl) ?_
      refine g_get S hE hI (C := RX7) (T := TX7) (N := 3) (ref := "StonecutterYardModel$Yard") (fun w h => (List.mem_cons_of_mem _ (List.mem_append_left _ (List.mem_append_left _ (List.mem_append_right _ h))))) hm.1.1 rfl 0 (by decide) (List.mem_cons_of_mem _ (List.mem_append_left _ (List.mem_append_left _ (List.mem_append_left _ (List.mem_append_left _ (List.mem_of_getElem? (i := 0) rfl)))))) (fun _ h9 => h9) (v := .ref (L 31 0)) rfl dX7_areaThere_6 ?_
      refine g_callV (As := []) (rest := [.int (nI i)]) (b := (L 31 0)) (n := 0) S hE hI hA (l_size l K _ (r, 31, 0) (tbL r 32) (L 31 0) (ySc y) (L 35) hm.2.1) gX7_areaThere_Jx4a65c_size_8abf5 rfl (by decide +kernel) ⟨Nat.le_of_ble_eq_true rfl, Nat.le_of_ble_eq_true rfl⟩ (g_hro hE hI hl1 rfl) rfl hl.1 rfl (Nat.le_of_ble_eq_true rfl) dX7_areaThere_9 ⟨Nat.le_of_ble_eq_true rfl, Nat.le_of_ble_eq_true rfl⟩ (fun E ce q9 Gx H1 locs1 hx9 => hx9.elim) (fun rv Gc_9 H locs hp hI => ?_)
      obtain ⟨rfl, hq9⟩ := hp
      rw [hq9] at hI
      refine W.eq (g2 := F0 m 12 ls [.int (nI (ySc y)), .int (nI i)]) rfl ?_
      refine lv_icmp_ge (tgt := 59) hx hb dX7_areaThere_12 (by decide) (fun c_12 => ?_) (fun c_12 => ?_)
      · skip
        have c_12 : (ySc y) ≤ i := (nI_leI (a := (ySc y)) (b := i) (by omega) (by omega)).mp c_12
        refine lv_iload_n hx hb dX7_areaThere_59 rfl (lv_at hl 1 rfl) ?_
        exact g_iret S hI hr hlocks (Nat.zero_le _) (Nat.zero_le _) dX7_areaThere_60 ⟨by rw [hacc, show i = ySc y by omega]; rfl, rfl⟩
      · skip
        have c_12 : i < (ySc y) := Nat.not_le.mp (fun z => c_12 ((nI_leI (a := (ySc y)) (b := i) (by omega) (by omega)).mpr z))
        refine lv_iload_n hx hb dX7_areaThere_15 rfl (lv_at hl 1 rfl) ?_
        refine lv_aload_n hx hb dX7_areaThere_16 rfl (lv_at hl 0 rfl) ?_
        refine g_get S hE hI (C := RX7) (T := TX7) (N := 3) (ref := "StonecutterYardModel$Yard") (fun w h => (List.mem_cons_of_mem _ (List.mem_append_left _ (List.mem_append_left _ (List.mem_append_right _ h))))) hm.1.1 rfl 0 (by decide) (List.mem_cons_of_mem _ (List.mem_append_left _ (List.mem_append_left _ (List.mem_append_left _ (List.mem_append_left _ (List.mem_of_getElem? (i := 0) rfl)))))) (fun _ h9 => h9) (v := .ref (L 31 0)) rfl dX7_areaThere_17 ?_
        refine lv_iload_n hx hb dX7_areaThere_20 rfl (lv_at hl 2 rfl) ?_
        refine g_callV (As := [.int (nI i)]) (rest := [.int (nI acc)]) (b := (L 31 0)) (n := 1) S hE hI hA (l_get l K _ (r, 31, 0) (tbL r 32) (L 31 0) (ySc y) (L 35) i hm.2.1 c_12) gX7_areaThere_Jx4a65c_get_915e3 rfl (by decide +kernel) ⟨Nat.le_of_ble_eq_true rfl, Nat.le_of_ble_eq_true rfl⟩ (g_hro hE hI hl1 rfl) rfl hl.1 rfl (Nat.le_of_ble_eq_true rfl) dX7_areaThere_21 ⟨Nat.le_of_ble_eq_true rfl, Nat.le_of_ble_eq_true rfl⟩ (fun E ce q9 Gx H1 locs1 hx9 => hx9.elim) (fun rv Gc_21 H locs hp hI => ?_)
        obtain ⟨rfl, hq9⟩ := hp
        rw [hq9] at hI
        obtain ⟨hsl, hfl, hsok⟩ := hm.2.2.2.1 i c_12
        have hsok9 := hsok
        obtain ⟨s1, s2, s3, s4, s5, s6, s7, s8⟩ := hsok9
        refine W.eq (g2 := F0 m 24 ls [.ref (L 35 i), .int (nI acc)]) rfl ?_
        refine g_cast S (List.mem_cons_of_mem _ (List.mem_append_left _ (List.mem_append_left _ (List.mem_append_left _ (List.mem_append_left _ (List.mem_of_getElem? (i := 1) rfl)))))) (g_hro hE hI hsl rfl) dX7_areaThere_24 ?_
        refine g_callV (As := []) (rest := [.int (nI acc)]) (b := (L 35 i)) (n := 0) S hE hI hA (c_X6_isThere l K _ (r, 35, i) (L 35 i) (yS y i) (L 36 i) hsl s6) gX7_areaThere_X6_isThere rfl (by decide +kernel) ⟨Nat.le_of_ble_eq_true rfl, Nat.le_of_ble_eq_true rfl⟩ (g_hro hE hI hsl rfl) rfl hl.1 rfl (Nat.le_of_ble_eq_true rfl) dX7_areaThere_27 ⟨Nat.le_of_ble_eq_true rfl, Nat.le_of_ble_eq_true rfl⟩ (fun E ce q9 Gx H1 locs1 hx9 => hx9.elim) (fun rv Gc_27 H locs hp hI => ?_)
        obtain ⟨rfl, hq9⟩ := hp
        rw [hq9] at hI
        refine W.eq (g2 := F0 m 30 ls [.int (bI (decide (sT (yS y i) = 0))), .int (nI acc)]) rfl ?_
        refine lv_if_eq (tgt := 50) hx hb dX7_areaThere_30 (by decide) (fun c_30 => ?_) (fun c_30 => ?_)
        · skip
          have c_30 : (decide (sT (yS y i) = 0)) = false := bI_0.mp c_30
          have c_30 := of_decide_eq_false c_30
          refine lv_iconst (v := nI 0) hx hb dX7_areaThere_50 (by decide) ?_
          refine t_iadd hx hb dX7_areaThere_51 (nI_add _ _) ?_
          refine lv_istore_n (lv' := [(1, .int (nI (acc + 0))), (0, .ref (L 30 0)), (2, .int (nI i))]) hx hb dX7_areaThere_52 rfl hl (by decide) rfl (fun ls hl => ?_)
          refine lv_iinc (v := nI (i + 1)) (lv' := [(2, .int (nI (i + 1))), (1, .int (nI (acc + 0))), (0, .ref (L 30 0))]) hx hb dX7_areaThere_53 hl (k := 2) rfl (nI_add _ 1) (by decide) rfl (fun ls hl => ?_)
          refine lv_goto (tgt := 4) hx hb dX7_areaThere_56 (by decide) ?_
          exact ih (i + 1) (acc + 0) H locs ls (by omega) (by omega) (by rw [hacc, sumN_s]; simp [c_30]) hI (lv_sub hl [2,1,0] rfl)
        · skip
          have c_30 : (decide (sT (yS y i) = 0)) = true := bI_1.mp c_30
          have c_30 := of_decide_eq_true c_30
          refine lv_aload_n hx hb dX7_areaThere_33 rfl (lv_at hl 0 rfl) ?_
          refine g_get S hE hI (C := RX7) (T := TX7) (N := 3) (ref := "StonecutterYardModel$Yard") (fun w h => (List.mem_cons_of_mem _ (List.mem_append_left _ (List.mem_append_left _ (List.mem_append_right _ h))))) hm.1.1 rfl 0 (by decide) (List.mem_cons_of_mem _ (List.mem_append_left _ (List.mem_append_left _ (List.mem_append_left _ (List.mem_append_left _ (List.mem_of_getElem? (i := 0) rfl)))))) (fun _ h9 => h9) (v := .ref (L 31 0)) rfl dX7_areaThere_34 ?_
          refine lv_iload_n hx hb dX7_areaThere_37 rfl (lv_at hl 2 rfl) ?_
          refine g_callV (As := [.int (nI i)]) (rest := [.int (nI acc)]) (b := (L 31 0)) (n := 1) S hE hI hA (l_get l K _ (r, 31, 0) (tbL r 32) (L 31 0) (ySc y) (L 35) i hm.2.1 c_12) gX7_areaThere_Jx4a65c_get_915e3 rfl (by decide +kernel) ⟨Nat.le_of_ble_eq_true rfl, Nat.le_of_ble_eq_true rfl⟩ (g_hro hE hI hl1 rfl) rfl hl.1 rfl (Nat.le_of_ble_eq_true rfl) dX7_areaThere_38 ⟨Nat.le_of_ble_eq_true rfl, Nat.le_of_ble_eq_true rfl⟩ (fun E ce q9 Gx H1 locs1 hx9 => hx9.elim) (fun rv Gc_38 H locs hp hI => ?_)
          obtain ⟨rfl, hq9⟩ := hp
          rw [hq9] at hI
          obtain ⟨hsl, hfl, hsok⟩ := hm.2.2.2.1 i c_12
          have hsok9 := hsok
          obtain ⟨s1, s2, s3, s4, s5, s6, s7, s8⟩ := hsok9
          refine W.eq (g2 := F0 m 41 ls [.ref (L 35 i), .int (nI acc)]) rfl ?_
          refine g_cast S (List.mem_cons_of_mem _ (List.mem_append_left _ (List.mem_append_left _ (List.mem_append_left _ (List.mem_append_left _ (List.mem_of_getElem? (i := 1) rfl)))))) (g_hro hE hI hsl rfl) dX7_areaThere_41 ?_
          refine g_callV (As := []) (rest := [.int (nI acc)]) (b := (L 35 i)) (n := 0) S hE hI hA (c_X6_area l K _ (r, 35, i) (L 35 i) (yS y i) (L 36 i) hsl) gX7_areaThere_X6_area rfl (by decide +kernel) ⟨Nat.le_of_ble_eq_true rfl, Nat.le_of_ble_eq_true rfl⟩ (g_hro hE hI hsl rfl) rfl hl.1 rfl (Nat.le_of_ble_eq_true rfl) dX7_areaThere_44 ⟨Nat.le_of_ble_eq_true rfl, Nat.le_of_ble_eq_true rfl⟩ (fun E ce q9 Gx H1 locs1 hx9 => hx9.elim) (fun rv Gc_44 H locs hp hI => ?_)
          obtain ⟨rfl, hq9⟩ := hp
          rw [hq9] at hI
          refine W.eq (g2 := F0 m 47 ls [.int (nI (sA (yS y i))), .int (nI acc)]) rfl ?_
          refine lv_goto (tgt := 51) hx hb dX7_areaThere_47 (by decide) ?_
          refine t_iadd hx hb dX7_areaThere_51 (nI_add _ _) ?_
          refine lv_istore_n (lv' := [(1, .int (nI (acc + (sA (yS y i))))), (0, .ref (L 30 0)), (2, .int (nI i))]) hx hb dX7_areaThere_52 rfl hl (by decide) rfl (fun ls hl => ?_)
          refine lv_iinc (v := nI (i + 1)) (lv' := [(2, .int (nI (i + 1))), (1, .int (nI (acc + (sA (yS y i))))), (0, .ref (L 30 0))]) hx hb dX7_areaThere_53 hl (k := 2) rfl (nI_add _ 1) (by decide) rfl (fun ls hl => ?_)
          refine lv_goto (tgt := 4) hx hb dX7_areaThere_56 (by decide) ?_
          exact ih (i + 1) (acc + (sA (yS y i))) H locs ls (by omega) (by omega) (by rw [hacc, sumN_s]; simp [c_30]) hI (lv_sub hl [2,1,0] rfl)
  exact L4 _ 0 0 H locs ls (Nat.lt_succ_self _) (Nat.zero_le _) rfl hI (lv_sub hl [2,1,0] rfl)
set_option maxHeartbeats 4000000 in
set_option maxRecDepth 100000 in
/-- Yard.paid() -/
theorem c_X7_paid (l : Launch) (K : gK) (G : gW) (r : Nat) (L : Nat → Nat → Nat) (y : YV) (N : Nat) (hm : MY K r L G y N) : gM l yX7_paid wsX7_paid 5 104 0 0 K [.ref (L 30 0)] G (fun v G1 => v = some (.int (nI (yPaid y))) ∧ G1 = G) (gNo) := by
  refine gM.of (cc := cX7_paid) (maxL := 3) (ret := (some .int)) (by decide) rfl (Nat.le_of_ble_eq_true rfl) ?_
  intro p e s m below meth c A S hr hlocks htab hname hE hA hI ls hl
  have hx := S.1
  have hb := S.2.1
  have hml := S.2.2.1
  have hl : lv_has ls 3 [(0, .ref (L 30 0))] := hl
  have h44 := hm.1.2.2.1
  have h6 := hm.1.2.2.2
  have hf2 := hm.1.2.1
  obtain ⟨m1, ar1, hl1⟩ := hm.2.1.obj
  obtain ⟨m2, ar2, hl2⟩ := hm.2.2.1.obj
  obtain ⟨H, hHe⟩ : ∃ z, z = s.heap := ⟨_, rfl⟩
  obtain ⟨locs, hLe⟩ : ∃ z : List Loc, z = [] := ⟨_, rfl⟩
  rw [← hHe, ← hLe]
  have hI : gI K A s G H locs := by rw [hHe, hLe]; exact hI
  clear hHe hLe
  refine lv_iconst (v := nI 0) hx hb dX7_paid_0 (by decide) ?_
  refine lv_istore_n (lv' := [(1, .int (nI 0)), (0, .ref (L 30 0))]) hx hb dX7_paid_1 rfl hl (by decide) rfl (fun ls hl => ?_)
  refine lv_iconst (v := nI 0) hx hb dX7_paid_2 (by decide) ?_
  refine lv_istore_n (lv' := [(2, .int (nI 0)), (1, .int (nI 0)), (0, .ref (L 30 0))]) hx hb dX7_paid_3 rfl hl (by decide) rfl (fun ls hl => ?_)
  have L4 : ∀ (n : Nat) (i acc : Nat) (H : Heap) (locs : List Loc) (ls : Array Slot) (hn : (yKc y) - i < n) (hi : i ≤ (yKc y)) (hacc : acc = sumN (fun i => kD (yK y i)) i), gI K A s G H locs → lv_has ls 3 [(0, .ref (L 30 0)), (1, .int (nI acc)), (2, .int (nI i))] → W p l e (gRoom 5 104 0 0) s m ([.ref (L 30 0)] : List Value).toArray below meth c H locs 0 0 (gEnd K below (fun v G1 => v = some (.int (nI (yPaid y))) ∧ G1 = G) (gNo) A ([.ref (L 30 0)] : List Value).toArray s 0 0) (F0 m 4 ls []) := by
    clear hI hl
    intro n
    induction n with
    | zero =>
      intro i acc H locs ls hn hi hacc hI hl
      exact absurd hn (Nat.not_lt_zero _)
    | succ n ih =>
      intro i acc H locs ls hn hi hacc hI hl
      refine lv_iload_n hx hb dX7_paid_4 rfl (lv_at hl 2 rfl) ?_
      refine lv_aload_n hx hb dX7_paid_5 rfl (lv_at hl 0 rfl) ?_
      refine g_get S hE hI (C := RX7) (T := TX7) (N := 3) (ref := "StonecutterYardModel$Yard") (fun w h => (List.mem_cons_of_mem _ (List.mem_append_left _ (List.mem_append_left _ (List.mem_append_right _ h))))) hm.1.1 rfl 1 (by decide) (List.mem_cons_of_mem _ (List.mem_append_left _ (List.mem_append_left _ (List.mem_append_left _ (List.mem_append_left _ (List.mem_of_getElem? (i := 0) rfl)))))) (fun _ h9 => h9) (v := .ref (L 33 0)) rfl dX7_paid_6 ?_
      refine g_callV (As := []) (rest := [.int (nI i)]) (b := (L 33 0)) (n := 0) S hE hI hA (l_size l K _ (r, 33, 0) (tbL r 34) (L 33 0) (yKc y) (L 38) hm.2.2.1) gX7_paid_Jx4a65c_size_8abf5 rfl (by decide +kernel) ⟨Nat.le_of_ble_eq_true rfl, Nat.le_of_ble_eq_true rfl⟩ (g_hro hE hI hl2 rfl) rfl hl.1 rfl (Nat.le_of_ble_eq_true rfl) dX7_paid_9 ⟨Nat.le_of_ble_eq_true rfl, Nat.le_of_ble_eq_true rfl⟩ (fun E ce q9 Gx H1 locs1 hx9 => hx9.elim) (fun rv Gc_9 H locs hp hI => ?_)
      obtain ⟨rfl, hq9⟩ := hp
      rw [hq9] at hI
      refine W.eq (g2 := F0 m 12 ls [.int (nI (yKc y)), .int (nI i)]) rfl ?_
      refine lv_icmp_ge (tgt := 38) hx hb dX7_paid_12 (by decide) (fun c_12 => ?_) (fun c_12 => ?_)
      · skip
        have c_12 : (yKc y) ≤ i := (nI_leI (a := (yKc y)) (b := i) (by omega) (by omega)).mp c_12
        refine lv_iload_n hx hb dX7_paid_38 rfl (lv_at hl 1 rfl) ?_
        exact g_iret S hI hr hlocks (Nat.zero_le _) (Nat.zero_le _) dX7_paid_39 ⟨by rw [hacc, show i = yKc y by omega]; rfl, rfl⟩
      · skip
        have c_12 : i < (yKc y) := Nat.not_le.mp (fun z => c_12 ((nI_leI (a := (yKc y)) (b := i) (by omega) (by omega)).mpr z))
        refine lv_iload_n hx hb dX7_paid_15 rfl (lv_at hl 1 rfl) ?_
        refine lv_aload_n hx hb dX7_paid_16 rfl (lv_at hl 0 rfl) ?_
        refine g_get S hE hI (C := RX7) (T := TX7) (N := 3) (ref := "StonecutterYardModel$Yard") (fun w h => (List.mem_cons_of_mem _ (List.mem_append_left _ (List.mem_append_left _ (List.mem_append_right _ h))))) hm.1.1 rfl 1 (by decide) (List.mem_cons_of_mem _ (List.mem_append_left _ (List.mem_append_left _ (List.mem_append_left _ (List.mem_append_left _ (List.mem_of_getElem? (i := 0) rfl)))))) (fun _ h9 => h9) (v := .ref (L 33 0)) rfl dX7_paid_17 ?_
        refine lv_iload_n hx hb dX7_paid_20 rfl (lv_at hl 2 rfl) ?_
        refine g_callV (As := [.int (nI i)]) (rest := [.int (nI acc)]) (b := (L 33 0)) (n := 1) S hE hI hA (l_get l K _ (r, 33, 0) (tbL r 34) (L 33 0) (yKc y) (L 38) i hm.2.2.1 c_12) gX7_paid_Jx4a65c_get_915e3 rfl (by decide +kernel) ⟨Nat.le_of_ble_eq_true rfl, Nat.le_of_ble_eq_true rfl⟩ (g_hro hE hI hl2 rfl) rfl hl.1 rfl (Nat.le_of_ble_eq_true rfl) dX7_paid_21 ⟨Nat.le_of_ble_eq_true rfl, Nat.le_of_ble_eq_true rfl⟩ (fun E ce q9 Gx H1 locs1 hx9 => hx9.elim) (fun rv Gc_21 H locs hp hI => ?_)
        obtain ⟨rfl, hq9⟩ := hp
        rw [hq9] at hI
        obtain ⟨hkd, hkok⟩ := hm.2.2.2.2 i c_12
        have hkok9 := hkok
        obtain ⟨k1, k2, k3, k4, k5, k6, k7, k8, k9⟩ := hkok9
        refine W.eq (g2 := F0 m 24 ls [.ref (L 38 i), .int (nI acc)]) rfl ?_
        refine g_cast S (List.mem_cons_of_mem _ (List.mem_append_left _ (List.mem_append_left _ (List.mem_append_left _ (List.mem_append_left _ (List.mem_of_getElem? (i := 1) rfl)))))) (g_hro hE hI hkd rfl) dX7_paid_24 ?_
        refine g_get S hE hI (C := RX5) (T := TX5) (N := 8) (ref := "StonecutterYardModel$Kind") (fun w h => (List.mem_cons_of_mem _ (List.mem_append_left _ (List.mem_append_right _ h)))) hkd rfl 7 (by decide) (List.mem_cons_of_mem _ (List.mem_append_left _ (List.mem_append_left _ (List.mem_append_left _ (List.mem_append_left _ (List.mem_of_getElem? (i := 2) rfl)))))) (fun _ h9 => h9) (v := .int (nI (kD (yK y i)))) rfl dX7_paid_27 ?_
        refine t_iadd hx hb dX7_paid_30 (nI_add _ _) ?_
        refine lv_istore_n (lv' := [(1, .int (nI (acc + (kD (yK y i))))), (0, .ref (L 30 0)), (2, .int (nI i))]) hx hb dX7_paid_31 rfl hl (by decide) rfl (fun ls hl => ?_)
        refine lv_iinc (v := nI (i + 1)) (lv' := [(2, .int (nI (i + 1))), (1, .int (nI (acc + (kD (yK y i))))), (0, .ref (L 30 0))]) hx hb dX7_paid_32 hl (k := 2) rfl (nI_add _ 1) (by decide) rfl (fun ls hl => ?_)
        refine lv_goto (tgt := 4) hx hb dX7_paid_35 (by decide) ?_
        exact ih (i + 1) (acc + (kD (yK y i))) H locs ls (by omega) (by omega) (by rw [hacc, sumN_s]) hI (lv_sub hl [2,1,0] rfl)
  exact L4 _ 0 0 H locs ls (Nat.lt_succ_self _) (Nat.zero_le _) rfl hI (lv_sub hl [2,1,0] rfl)
theorem i32_neg_add (a b : Int32) : -a + b = b - a := by rw [Int32.add_comm, Int32.sub_eq_add_neg]
set_option maxHeartbeats 4000000 in
set_option maxRecDepth 100000 in
/-- Yard.waste() -/
theorem c_X7_waste (l : Launch) (K : gK) (G : gW) (r : Nat) (L : Nat → Nat → Nat) (y : YV) (N : Nat) (hm : MY K r L G y N) : gM l yX7_waste wsX7_waste 6 126 0 0 K [.ref (L 30 0)] G (fun v G1 => v = some (.int (yWaste y)) ∧ G1 = G) (gNo) := by
  refine gM.of (cc := cX7_waste) (maxL := 3) (ret := (some .int)) (by decide) rfl (Nat.le_of_ble_eq_true rfl) ?_
  intro p e s m below meth c A S hr hlocks htab hname hE hA hI ls hl
  have hx := S.1
  have hb := S.2.1
  have hml := S.2.2.1
  have hl : lv_has ls 3 [(0, .ref (L 30 0))] := hl
  have h44 := hm.1.2.2.1
  have h6 := hm.1.2.2.2
  have hf2 := hm.1.2.1
  obtain ⟨m1, ar1, hl1⟩ := hm.2.1.obj
  obtain ⟨m2, ar2, hl2⟩ := hm.2.2.1.obj
  obtain ⟨H, hHe⟩ : ∃ z, z = s.heap := ⟨_, rfl⟩
  obtain ⟨locs, hLe⟩ : ∃ z : List Loc, z = [] := ⟨_, rfl⟩
  rw [← hHe, ← hLe]
  have hI : gI K A s G H locs := by rw [hHe, hLe]; exact hI
  clear hHe hLe
  have L66 : ∀ (n : Nat) (i : Nat) (w : Int32) (H : Heap) (locs : List Loc) (ls : Array Slot) (hn : yKc y - i < n) (hi : i ≤ yKc y) (hw : w = nI (yArea0 y) - nI (yAreaT y) - nI (sumN (fun i => kT (yK y i) * kL (yK y i) * kB (yK y i)) i)), gI K A s G H locs → lv_has ls 3 [(0, .ref (L 30 0)), (1, .int w), (2, .int (nI i))] → W p l e (gRoom 6 126 0 0) s m ([.ref (L 30 0)] : List Value).toArray below meth c H locs 0 0 (gEnd K below (fun v G1 => v = some (.int (yWaste y)) ∧ G1 = G) (gNo) A ([.ref (L 30 0)] : List Value).toArray s 0 0) (F0 m 66 ls []) := by
    clear hI hl
    intro n
    induction n with
    | zero =>
      intro i w H locs ls hn hi hw hI hl
      exact absurd hn (Nat.not_lt_zero _)
    | succ n ih =>
      intro i w H locs ls hn hi hw hI hl
      refine lv_iload_n hx hb dX7_waste_66 rfl (lv_at hl 2 rfl) ?_
      refine lv_aload_n hx hb dX7_waste_67 rfl (lv_at hl 0 rfl) ?_
      refine g_get S hE hI (C := RX7) (T := TX7) (N := 3) (ref := "StonecutterYardModel$Yard") (fun w h => (List.mem_cons_of_mem _ (List.mem_append_left _ (List.mem_append_left _ (List.mem_append_left _ (List.mem_append_right _ h)))))) hm.1.1 rfl 1 (by decide) (List.mem_cons_of_mem _ (List.mem_append_left _ (List.mem_append_left _ (List.mem_append_left _ (List.mem_append_left _ (List.mem_append_left _ (List.mem_of_getElem? (i := 3) rfl))))))) (fun _ h9 => h9) (v := .ref (L 33 0)) rfl dX7_waste_68 ?_
      refine g_callV (As := []) (rest := [.int (nI i)]) (b := (L 33 0)) (n := 0) S hE hI hA (l_size l K _ (r, 33, 0) (tbL r 34) (L 33 0) (yKc y) (L 38) hm.2.2.1) gX7_waste_Jx4a65c_size_8abf5 rfl (by decide +kernel) ⟨Nat.le_of_ble_eq_true rfl, Nat.le_of_ble_eq_true rfl⟩ (g_hro hE hI hl2 rfl) rfl hl.1 rfl (Nat.le_of_ble_eq_true rfl) dX7_waste_71 ⟨Nat.le_of_ble_eq_true rfl, Nat.le_of_ble_eq_true rfl⟩ (fun E ce q9 Gx H1 locs1 hx9 => hx9.elim) (fun rv Gc_71 H locs hp hI => ?_)
      obtain ⟨rfl, hq9⟩ := hp
      rw [hq9] at hI
      refine W.eq (g2 := F0 m 74 ls [.int (nI (yKc y)), .int (nI i)]) rfl ?_
      refine lv_icmp_ge (tgt := 130) hx hb dX7_waste_74 (by decide) (fun c_74 => ?_) (fun c_74 => ?_)
      · skip
        have c_74 : (yKc y) ≤ i := (nI_leI (a := (yKc y)) (b := i) (by omega) (by omega)).mp c_74
        refine lv_iload_n hx hb dX7_waste_130 rfl (lv_at hl 1 rfl) ?_
        exact g_iret S hI hr hlocks (Nat.zero_le _) (Nat.zero_le _) dX7_waste_131 ⟨by rw [hw, show i = yKc y by omega]; rfl, rfl⟩
      · skip
        have c_74 : i < (yKc y) := Nat.not_le.mp (fun z => c_74 ((nI_leI (a := (yKc y)) (b := i) (by omega) (by omega)).mpr z))
        refine lv_iload_n hx hb dX7_waste_77 rfl (lv_at hl 1 rfl) ?_
        refine lv_aload_n hx hb dX7_waste_78 rfl (lv_at hl 0 rfl) ?_
        refine g_get S hE hI (C := RX7) (T := TX7) (N := 3) (ref := "StonecutterYardModel$Yard") (fun w h => (List.mem_cons_of_mem _ (List.mem_append_left _ (List.mem_append_left _ (List.mem_append_left _ (List.mem_append_right _ h)))))) hm.1.1 rfl 1 (by decide) (List.mem_cons_of_mem _ (List.mem_append_left _ (List.mem_append_left _ (List.mem_append_left _ (List.mem_append_left _ (List.mem_append_left _ (List.mem_of_getElem? (i := 3) rfl))))))) (fun _ h9 => h9) (v := .ref (L 33 0)) rfl dX7_waste_79 ?_
        refine lv_iload_n hx hb dX7_waste_82 rfl (lv_at hl 2 rfl) ?_
        refine g_callV (As := [.int (nI i)]) (rest := [.int w]) (b := (L 33 0)) (n := 1) S hE hI hA (l_get l K _ (r, 33, 0) (tbL r 34) (L 33 0) (yKc y) (L 38) i hm.2.2.1 c_74) gX7_waste_Jx4a65c_get_915e3 rfl (by decide +kernel) ⟨Nat.le_of_ble_eq_true rfl, Nat.le_of_ble_eq_true rfl⟩ (g_hro hE hI hl2 rfl) rfl hl.1 rfl (Nat.le_of_ble_eq_true rfl) dX7_waste_83 ⟨Nat.le_of_ble_eq_true rfl, Nat.le_of_ble_eq_true rfl⟩ (fun E ce q9 Gx H1 locs1 hx9 => hx9.elim) (fun rv Gc_83 H locs hp hI => ?_)
        obtain ⟨rfl, hq9⟩ := hp
        rw [hq9] at hI
        obtain ⟨hkd, hkok⟩ := hm.2.2.2.2 i c_74
        have hkok9 := hkok
        obtain ⟨k1, k2, k3, k4, k5, k6, k7, k8, k9⟩ := hkok9
        refine W.eq (g2 := F0 m 86 ls [.ref (L 38 i), .int w]) rfl ?_
        refine g_cast S (List.mem_cons_of_mem _ (List.mem_append_left _ (List.mem_append_left _ (List.mem_append_left _ (List.mem_append_left _ (List.mem_append_left _ (List.mem_of_getElem? (i := 4) rfl))))))) (g_hro hE hI hkd rfl) dX7_waste_86 ?_
        refine g_get S hE hI (C := RX5) (T := TX5) (N := 8) (ref := "StonecutterYardModel$Kind") (fun w h => (List.mem_cons_of_mem _ (List.mem_append_left _ (List.mem_append_right _ h)))) hkd rfl 6 (by decide) (List.mem_cons_of_mem _ (List.mem_append_left _ (List.mem_append_left _ (List.mem_append_left _ (List.mem_append_left _ (List.mem_append_left _ (List.mem_of_getElem? (i := 5) rfl))))))) (fun _ h9 => h9) (v := .int (nI (kT (yK y i)))) rfl dX7_waste_89 ?_
        refine lv_aload_n hx hb dX7_waste_92 rfl (lv_at hl 0 rfl) ?_
        refine g_get S hE hI (C := RX7) (T := TX7) (N := 3) (ref := "StonecutterYardModel$Yard") (fun w h => (List.mem_cons_of_mem _ (List.mem_append_left _ (List.mem_append_left _ (List.mem_append_left _ (List.mem_append_right _ h)))))) hm.1.1 rfl 1 (by decide) (List.mem_cons_of_mem _ (List.mem_append_left _ (List.mem_append_left _ (List.mem_append_left _ (List.mem_append_left _ (List.mem_append_left _ (List.mem_of_getElem? (i := 3) rfl))))))) (fun _ h9 => h9) (v := .ref (L 33 0)) rfl dX7_waste_93 ?_
        refine lv_iload_n hx hb dX7_waste_96 rfl (lv_at hl 2 rfl) ?_
        refine g_callV (As := [.int (nI i)]) (rest := [.int (nI (kT (yK y i))), .int w]) (b := (L 33 0)) (n := 1) S hE hI hA (l_get l K _ (r, 33, 0) (tbL r 34) (L 33 0) (yKc y) (L 38) i hm.2.2.1 c_74) gX7_waste_Jx4a65c_get_915e3 rfl (by decide +kernel) ⟨Nat.le_of_ble_eq_true rfl, Nat.le_of_ble_eq_true rfl⟩ (g_hro hE hI hl2 rfl) rfl hl.1 rfl (Nat.le_of_ble_eq_true rfl) dX7_waste_97 ⟨Nat.le_of_ble_eq_true rfl, Nat.le_of_ble_eq_true rfl⟩ (fun E ce q9 Gx H1 locs1 hx9 => hx9.elim) (fun rv Gc_97 H locs hp hI => ?_)
        obtain ⟨rfl, hq9⟩ := hp
        rw [hq9] at hI
        obtain ⟨hkd, hkok⟩ := hm.2.2.2.2 i c_74
        have hkok9 := hkok
        obtain ⟨k1, k2, k3, k4, k5, k6, k7, k8, k9⟩ := hkok9
        refine W.eq (g2 := F0 m 100 ls [.ref (L 38 i), .int (nI (kT (yK y i))), .int w]) rfl ?_
        refine g_cast S (List.mem_cons_of_mem _ (List.mem_append_left _ (List.mem_append_left _ (List.mem_append_left _ (List.mem_append_left _ (List.mem_append_left _ (List.mem_of_getElem? (i := 4) rfl))))))) (g_hro hE hI hkd rfl) dX7_waste_100 ?_
        refine g_get S hE hI (C := RX5) (T := TX5) (N := 8) (ref := "StonecutterYardModel$Kind") (fun w h => (List.mem_cons_of_mem _ (List.mem_append_left _ (List.mem_append_right _ h)))) hkd rfl 0 (by decide) (List.mem_cons_of_mem _ (List.mem_append_left _ (List.mem_append_left _ (List.mem_append_left _ (List.mem_append_left _ (List.mem_append_left _ (List.mem_of_getElem? (i := 6) rfl))))))) (fun _ h9 => h9) (v := .int (nI (kL (yK y i)))) rfl dX7_waste_103 ?_
        refine t_imul hx hb dX7_waste_106 (pk_mul _ _) ?_
        refine lv_aload_n hx hb dX7_waste_107 rfl (lv_at hl 0 rfl) ?_
        refine g_get S hE hI (C := RX7) (T := TX7) (N := 3) (ref := "StonecutterYardModel$Yard") (fun w h => (List.mem_cons_of_mem _ (List.mem_append_left _ (List.mem_append_left _ (List.mem_append_left _ (List.mem_append_right _ h)))))) hm.1.1 rfl 1 (by decide) (List.mem_cons_of_mem _ (List.mem_append_left _ (List.mem_append_left _ (List.mem_append_left _ (List.mem_append_left _ (List.mem_append_left _ (List.mem_of_getElem? (i := 3) rfl))))))) (fun _ h9 => h9) (v := .ref (L 33 0)) rfl dX7_waste_108 ?_
        refine lv_iload_n hx hb dX7_waste_111 rfl (lv_at hl 2 rfl) ?_
        refine g_callV (As := [.int (nI i)]) (rest := [.int (nI ((kT (yK y i)) * (kL (yK y i)))), .int w]) (b := (L 33 0)) (n := 1) S hE hI hA (l_get l K _ (r, 33, 0) (tbL r 34) (L 33 0) (yKc y) (L 38) i hm.2.2.1 c_74) gX7_waste_Jx4a65c_get_915e3 rfl (by decide +kernel) ⟨Nat.le_of_ble_eq_true rfl, Nat.le_of_ble_eq_true rfl⟩ (g_hro hE hI hl2 rfl) rfl hl.1 rfl (Nat.le_of_ble_eq_true rfl) dX7_waste_112 ⟨Nat.le_of_ble_eq_true rfl, Nat.le_of_ble_eq_true rfl⟩ (fun E ce q9 Gx H1 locs1 hx9 => hx9.elim) (fun rv Gc_112 H locs hp hI => ?_)
        obtain ⟨rfl, hq9⟩ := hp
        rw [hq9] at hI
        obtain ⟨hkd, hkok⟩ := hm.2.2.2.2 i c_74
        have hkok9 := hkok
        obtain ⟨k1, k2, k3, k4, k5, k6, k7, k8, k9⟩ := hkok9
        refine W.eq (g2 := F0 m 115 ls [.ref (L 38 i), .int (nI ((kT (yK y i)) * (kL (yK y i)))), .int w]) rfl ?_
        refine g_cast S (List.mem_cons_of_mem _ (List.mem_append_left _ (List.mem_append_left _ (List.mem_append_left _ (List.mem_append_left _ (List.mem_append_left _ (List.mem_of_getElem? (i := 4) rfl))))))) (g_hro hE hI hkd rfl) dX7_waste_115 ?_
        refine g_get S hE hI (C := RX5) (T := TX5) (N := 8) (ref := "StonecutterYardModel$Kind") (fun w h => (List.mem_cons_of_mem _ (List.mem_append_left _ (List.mem_append_right _ h)))) hkd rfl 1 (by decide) (List.mem_cons_of_mem _ (List.mem_append_left _ (List.mem_append_left _ (List.mem_append_left _ (List.mem_append_left _ (List.mem_append_left _ (List.mem_of_getElem? (i := 7) rfl))))))) (fun _ h9 => h9) (v := .int (nI (kB (yK y i)))) rfl dX7_waste_118 ?_
        refine t_imul hx hb dX7_waste_121 (pk_mul _ _) ?_
        refine lv_isub hx hb dX7_waste_122 ?_
        refine lv_istore_n (lv' := [(1, .int (w - (nI (((kT (yK y i)) * (kL (yK y i))) * (kB (yK y i)))))), (0, .ref (L 30 0)), (2, .int (nI i))]) hx hb dX7_waste_123 rfl hl (by decide) rfl (fun ls hl => ?_)
        refine lv_iinc (v := nI (i + 1)) (lv' := [(2, .int (nI (i + 1))), (1, .int (w - (nI (((kT (yK y i)) * (kL (yK y i))) * (kB (yK y i)))))), (0, .ref (L 30 0))]) hx hb dX7_waste_124 hl (k := 2) rfl (nI_add _ 1) (by decide) rfl (fun ls hl => ?_)
        refine lv_goto (tgt := 66) hx hb dX7_waste_127 (by decide) ?_
        exact ih (i + 1) _ H locs ls (by omega) (by omega) (by rw [hw, sumN_s, i32_sub_sub, nI_add]) hI (lv_sub hl [2,1,0] rfl)
  refine lv_aload_n hx hb dX7_waste_0 rfl (lv_at hl 0 rfl) ?_
  refine g_callV (As := []) (rest := []) (b := (L 30 0)) (n := 0) S hE hI hA (c_X7_areaThere l K _ r L y N hm) gX7_waste_X7_areaThere rfl (by decide +kernel) ⟨Nat.le_of_ble_eq_true rfl, Nat.le_of_ble_eq_true rfl⟩ (g_hro hE hI hm.1.1 rfl) rfl hl.1 rfl (Nat.le_of_ble_eq_true rfl) dX7_waste_1 ⟨Nat.le_of_ble_eq_true rfl, Nat.le_of_ble_eq_true rfl⟩ (fun E ce q9 Gx H1 locs1 hx9 => hx9.elim) (fun rv Gc_1 H locs hp hI => ?_)
  obtain ⟨rfl, hq9⟩ := hp
  rw [hq9] at hI
  refine W.eq (g2 := F0 m 4 ls [.int (nI (yAreaT y))]) rfl ?_
  refine lv_ineg hx hb dX7_waste_4 ?_
  refine lv_istore_n (lv' := [(1, .int (-(nI (yAreaT y)))), (0, .ref (L 30 0))]) hx hb dX7_waste_5 rfl hl (by decide) rfl (fun ls hl => ?_)
  refine lv_iconst (v := nI 0) hx hb dX7_waste_6 (by decide) ?_
  refine lv_istore_n (lv' := [(2, .int (nI 0)), (1, .int (-(nI (yAreaT y)))), (0, .ref (L 30 0))]) hx hb dX7_waste_7 rfl hl (by decide) rfl (fun ls hl => ?_)
  have L8 : ∀ (n : Nat) (i : Nat) (w : Int32) (H : Heap) (locs : List Loc) (ls : Array Slot) (hn : ySc y - i < n) (hi : i ≤ ySc y) (hw : w = -nI (yAreaT y) + nI (sumN (fun i => if sF (yS y i) = -1 then sA (yS y i) else 0) i)), gI K A s G H locs → lv_has ls 3 [(0, .ref (L 30 0)), (1, .int w), (2, .int (nI i))] → W p l e (gRoom 6 126 0 0) s m ([.ref (L 30 0)] : List Value).toArray below meth c H locs 0 0 (gEnd K below (fun v G1 => v = some (.int (yWaste y)) ∧ G1 = G) (gNo) A ([.ref (L 30 0)] : List Value).toArray s 0 0) (F0 m 8 ls []) := by
    clear hI hl
    intro n
    induction n with
    | zero =>
      intro i w H locs ls hn hi hw hI hl
      exact absurd hn (Nat.not_lt_zero _)
    | succ n ih =>
      intro i w H locs ls hn hi hw hI hl
      refine lv_iload_n hx hb dX7_waste_8 rfl (lv_at hl 2 rfl) ?_
      refine lv_aload_n hx hb dX7_waste_9 rfl (lv_at hl 0 rfl) ?_
      refine g_get S hE hI (C := RX7) (T := TX7) (N := 3) (ref := "StonecutterYardModel$Yard") (fun w h => (List.mem_cons_of_mem _ (List.mem_append_left _ (List.mem_append_left _ (List.mem_append_left _ (List.mem_append_right _ h)))))) hm.1.1 rfl 0 (by decide) (List.mem_cons_of_mem _ (List.mem_append_left _ (List.mem_append_left _ (List.mem_append_left _ (List.mem_append_left _ (List.mem_append_left _ (List.mem_of_getElem? (i := 0) rfl))))))) (fun _ h9 => h9) (v := .ref (L 31 0)) rfl dX7_waste_10 ?_
      refine g_callV (As := []) (rest := [.int (nI i)]) (b := (L 31 0)) (n := 0) S hE hI hA (l_size l K _ (r, 31, 0) (tbL r 32) (L 31 0) (ySc y) (L 35) hm.2.1) gX7_waste_Jx4a65c_size_8abf5 rfl (by decide +kernel) ⟨Nat.le_of_ble_eq_true rfl, Nat.le_of_ble_eq_true rfl⟩ (g_hro hE hI hl1 rfl) rfl hl.1 rfl (Nat.le_of_ble_eq_true rfl) dX7_waste_13 ⟨Nat.le_of_ble_eq_true rfl, Nat.le_of_ble_eq_true rfl⟩ (fun E ce q9 Gx H1 locs1 hx9 => hx9.elim) (fun rv Gc_13 H locs hp hI => ?_)
      obtain ⟨rfl, hq9⟩ := hp
      rw [hq9] at hI
      refine W.eq (g2 := F0 m 16 ls [.int (nI (ySc y)), .int (nI i)]) rfl ?_
      refine lv_icmp_ge (tgt := 64) hx hb dX7_waste_16 (by decide) (fun c_16 => ?_) (fun c_16 => ?_)
      · skip
        have c_16 : (ySc y) ≤ i := (nI_leI (a := (ySc y)) (b := i) (by omega) (by omega)).mp c_16
        refine lv_iconst (v := nI 0) hx hb dX7_waste_64 (by decide) ?_
        refine lv_istore_n (lv' := [(2, .int (nI 0)), (0, .ref (L 30 0)), (1, .int w)]) hx hb dX7_waste_65 rfl hl (by decide) rfl (fun ls hl => ?_)
        exact L66 _ 0 _ H locs ls (Nat.lt_succ_self _) (Nat.zero_le _) (by rw [hw, show i = ySc y by omega, i32_neg_add, show sumN (fun i => kT (yK y i) * kL (yK y i) * kB (yK y i)) 0 = 0 from rfl, show nI 0 = 0 from rfl, Int32.sub_zero]; rfl) hI (lv_sub hl [1,2,0] rfl)
      · skip
        have c_16 : i < (ySc y) := Nat.not_le.mp (fun z => c_16 ((nI_leI (a := (ySc y)) (b := i) (by omega) (by omega)).mpr z))
        refine lv_iload_n hx hb dX7_waste_19 rfl (lv_at hl 1 rfl) ?_
        refine lv_aload_n hx hb dX7_waste_20 rfl (lv_at hl 0 rfl) ?_
        refine g_get S hE hI (C := RX7) (T := TX7) (N := 3) (ref := "StonecutterYardModel$Yard") (fun w h => (List.mem_cons_of_mem _ (List.mem_append_left _ (List.mem_append_left _ (List.mem_append_left _ (List.mem_append_right _ h)))))) hm.1.1 rfl 0 (by decide) (List.mem_cons_of_mem _ (List.mem_append_left _ (List.mem_append_left _ (List.mem_append_left _ (List.mem_append_left _ (List.mem_append_left _ (List.mem_of_getElem? (i := 0) rfl))))))) (fun _ h9 => h9) (v := .ref (L 31 0)) rfl dX7_waste_21 ?_
        refine lv_iload_n hx hb dX7_waste_24 rfl (lv_at hl 2 rfl) ?_
        refine g_callV (As := [.int (nI i)]) (rest := [.int w]) (b := (L 31 0)) (n := 1) S hE hI hA (l_get l K _ (r, 31, 0) (tbL r 32) (L 31 0) (ySc y) (L 35) i hm.2.1 c_16) gX7_waste_Jx4a65c_get_915e3 rfl (by decide +kernel) ⟨Nat.le_of_ble_eq_true rfl, Nat.le_of_ble_eq_true rfl⟩ (g_hro hE hI hl1 rfl) rfl hl.1 rfl (Nat.le_of_ble_eq_true rfl) dX7_waste_25 ⟨Nat.le_of_ble_eq_true rfl, Nat.le_of_ble_eq_true rfl⟩ (fun E ce q9 Gx H1 locs1 hx9 => hx9.elim) (fun rv Gc_25 H locs hp hI => ?_)
        obtain ⟨rfl, hq9⟩ := hp
        rw [hq9] at hI
        obtain ⟨hsl, hfl, hsok⟩ := hm.2.2.2.1 i c_16
        have hsok9 := hsok
        obtain ⟨s1, s2, s3, s4, s5, s6, s7, s8⟩ := hsok9
        refine W.eq (g2 := F0 m 28 ls [.ref (L 35 i), .int w]) rfl ?_
        refine g_cast S (List.mem_cons_of_mem _ (List.mem_append_left _ (List.mem_append_left _ (List.mem_append_left _ (List.mem_append_left _ (List.mem_append_left _ (List.mem_of_getElem? (i := 1) rfl))))))) (g_hro hE hI hsl rfl) dX7_waste_28 ?_
        refine g_get S hE hI (C := RX6) (T := TX6) (N := 6) (ref := "StonecutterYardModel$Slab") (fun w h => (List.mem_cons_of_mem _ (List.mem_append_left _ (List.mem_append_left _ (List.mem_append_right _ h))))) hsl rfl 3 (by decide) (List.mem_cons_of_mem _ (List.mem_append_left _ (List.mem_append_left _ (List.mem_append_left _ (List.mem_append_left _ (List.mem_append_left _ (List.mem_of_getElem? (i := 2) rfl))))))) (fun _ h9 => h9) (v := .int (sF (yS y i))) rfl dX7_waste_31 ?_
        refine lv_iconst (v := (-1)) hx hb dX7_waste_34 (by decide) ?_
        refine lv_icmp_ne (tgt := 55) hx hb dX7_waste_35 (by decide) (fun c_35 => ?_) (fun c_35 => ?_)
        · skip
          refine lv_iconst (v := nI 0) hx hb dX7_waste_55 (by decide) ?_
          refine lv_iadd hx hb dX7_waste_56 ?_
          refine lv_istore_n (lv' := [(1, .int (w + (nI 0))), (0, .ref (L 30 0)), (2, .int (nI i))]) hx hb dX7_waste_57 rfl hl (by decide) rfl (fun ls hl => ?_)
          refine lv_iinc (v := nI (i + 1)) (lv' := [(2, .int (nI (i + 1))), (1, .int (w + (nI 0))), (0, .ref (L 30 0))]) hx hb dX7_waste_58 hl (k := 2) rfl (nI_add _ 1) (by decide) rfl (fun ls hl => ?_)
          refine lv_goto (tgt := 8) hx hb dX7_waste_61 (by decide) ?_
          exact ih (i + 1) _ H locs ls (by omega) (by omega) (by rw [hw, sumN_s, Int32.add_assoc, nI_add]; simp [c_35]) hI (lv_sub hl [2,1,0] rfl)
        · skip
          refine lv_aload_n hx hb dX7_waste_38 rfl (lv_at hl 0 rfl) ?_
          refine g_get S hE hI (C := RX7) (T := TX7) (N := 3) (ref := "StonecutterYardModel$Yard") (fun w h => (List.mem_cons_of_mem _ (List.mem_append_left _ (List.mem_append_left _ (List.mem_append_left _ (List.mem_append_right _ h)))))) hm.1.1 rfl 0 (by decide) (List.mem_cons_of_mem _ (List.mem_append_left _ (List.mem_append_left _ (List.mem_append_left _ (List.mem_append_left _ (List.mem_append_left _ (List.mem_of_getElem? (i := 0) rfl))))))) (fun _ h9 => h9) (v := .ref (L 31 0)) rfl dX7_waste_39 ?_
          refine lv_iload_n hx hb dX7_waste_42 rfl (lv_at hl 2 rfl) ?_
          refine g_callV (As := [.int (nI i)]) (rest := [.int w]) (b := (L 31 0)) (n := 1) S hE hI hA (l_get l K _ (r, 31, 0) (tbL r 32) (L 31 0) (ySc y) (L 35) i hm.2.1 c_16) gX7_waste_Jx4a65c_get_915e3 rfl (by decide +kernel) ⟨Nat.le_of_ble_eq_true rfl, Nat.le_of_ble_eq_true rfl⟩ (g_hro hE hI hl1 rfl) rfl hl.1 rfl (Nat.le_of_ble_eq_true rfl) dX7_waste_43 ⟨Nat.le_of_ble_eq_true rfl, Nat.le_of_ble_eq_true rfl⟩ (fun E ce q9 Gx H1 locs1 hx9 => hx9.elim) (fun rv Gc_43 H locs hp hI => ?_)
          obtain ⟨rfl, hq9⟩ := hp
          rw [hq9] at hI
          obtain ⟨hsl, hfl, hsok⟩ := hm.2.2.2.1 i c_16
          have hsok9 := hsok
          obtain ⟨s1, s2, s3, s4, s5, s6, s7, s8⟩ := hsok9
          refine W.eq (g2 := F0 m 46 ls [.ref (L 35 i), .int w]) rfl ?_
          refine g_cast S (List.mem_cons_of_mem _ (List.mem_append_left _ (List.mem_append_left _ (List.mem_append_left _ (List.mem_append_left _ (List.mem_append_left _ (List.mem_of_getElem? (i := 1) rfl))))))) (g_hro hE hI hsl rfl) dX7_waste_46 ?_
          refine g_callV (As := []) (rest := [.int w]) (b := (L 35 i)) (n := 0) S hE hI hA (c_X6_area l K _ (r, 35, i) (L 35 i) (yS y i) (L 36 i) hsl) gX7_waste_X6_area rfl (by decide +kernel) ⟨Nat.le_of_ble_eq_true rfl, Nat.le_of_ble_eq_true rfl⟩ (g_hro hE hI hsl rfl) rfl hl.1 rfl (Nat.le_of_ble_eq_true rfl) dX7_waste_49 ⟨Nat.le_of_ble_eq_true rfl, Nat.le_of_ble_eq_true rfl⟩ (fun E ce q9 Gx H1 locs1 hx9 => hx9.elim) (fun rv Gc_49 H locs hp hI => ?_)
          obtain ⟨rfl, hq9⟩ := hp
          rw [hq9] at hI
          refine W.eq (g2 := F0 m 52 ls [.int (nI (sA (yS y i))), .int w]) rfl ?_
          refine lv_goto (tgt := 56) hx hb dX7_waste_52 (by decide) ?_
          refine lv_iadd hx hb dX7_waste_56 ?_
          refine lv_istore_n (lv' := [(1, .int (w + (nI (sA (yS y i))))), (0, .ref (L 30 0)), (2, .int (nI i))]) hx hb dX7_waste_57 rfl hl (by decide) rfl (fun ls hl => ?_)
          refine lv_iinc (v := nI (i + 1)) (lv' := [(2, .int (nI (i + 1))), (1, .int (w + (nI (sA (yS y i))))), (0, .ref (L 30 0))]) hx hb dX7_waste_58 hl (k := 2) rfl (nI_add _ 1) (by decide) rfl (fun ls hl => ?_)
          refine lv_goto (tgt := 8) hx hb dX7_waste_61 (by decide) ?_
          exact ih (i + 1) _ H locs ls (by omega) (by omega) (by rw [hw, sumN_s, Int32.add_assoc, nI_add]; simp [c_35]) hI (lv_sub hl [2,1,0] rfl)
  exact L8 _ 0 _ H locs ls (Nat.lt_succ_self _) (Nat.zero_le _) (by rw [show sumN (fun i => if sF (yS y i) = -1 then sA (yS y i) else 0) 0 = 0 from rfl, show nI 0 = 0 from rfl, Int32.add_zero]) hI (lv_sub hl [2,1,0] rfl)
