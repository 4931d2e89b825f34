/-! the worth of all that is there, as the reference counts it -/
theorem tabOf {K : gK} {G : gW} {y : YV} {q0 q1 g : Nat} (h0 : Tab K 11 G q0 (wV (ySt2 y 0) (yF y))) (h1 : Tab K 12 G q1 (wV (ySt2 y 1) (yF y))) (hg : g ≤ 1) : ∃ rg : Nat, Tab K rg G (if g = 0 then q0 else q1) (wV (ySt2 y g) (yF y)) := by
  rcases (show g = 0 ∨ g = 1 by omega) with e | e
  · subst e; exact ⟨11, h0⟩
  · subst e; exact ⟨12, h1⟩
theorem tab2 {q0 q1 g : Nat} (hg : g ≤ 1) : va_rf (va_up (va_up (fun _ => none) 0 (some q0)) 1 (some q1) g) = .ref (if g = 0 then q0 else q1) := by
  rcases (show g = 0 ∨ g = 1 by omega) with e | e
  · subst e; rfl
  · subst e; rfl
set_option maxHeartbeats 4000000 in
set_option maxRecDepth 100000 in
/-- Yard.worthThere() -/
theorem c_X7_worthThere (l : Launch) (K : gK) (G : gW) (r : Nat) (L : Nat → Nat → Nat) (y : YV) (N : Nat) (hm : MY K r L G y N) (hr9 : r < 10) : gM l yX7_worthThere wsX7_worthThere 7 160 53 1302 K [.ref (L 30 0)] G (fun r9 G1 => r9 = some (.int (nI (yAll y))) ∧ ∀ u : gTag, u.1 ≠ 10 → u.1 ≠ 11 → u.1 ≠ 12 → G1 u = G u) (gNo) := by
  refine gM.of (cc := cX7_worthThere) (maxL := 5) (ret := (some .int)) (by decide) rfl (Nat.le_of_ble_eq_true rfl) ?_
  intro p e s m below meth c A S hr hlocks htab hname hE hA hI ls hl
  have hx := S.1
  have hb := S.2.1
  have hml := S.2.2.1
  have hl : lv_has ls 5 [(0, .ref (L 30 0))] := hl
  have hsG : ∀ i, i < ySc y → sG (yS y i) ≤ 1 := fun i hi => (hm.2.2.2.1 i hi).2.2.2.2.2.2.1
  have h44 := hm.1.2.2.1
  obtain ⟨H, hHe⟩ : ∃ z, z = s.heap := ⟨_, rfl⟩
  obtain ⟨locs, hLe⟩ : ∃ z : List Loc, z = [] := ⟨_, rfl⟩
  rw [← hHe, ← hLe]
  have hI : gI K A s G H locs := by rw [hHe, hLe]; exact hI
  clear hHe hLe
  refine lv_iconst (v := nI 2) hx hb dX7_worthThere_0 (by decide) ?_
  refine g_newT S hE hI hA (List.mem_cons_of_mem _ (List.mem_append_left _ (List.mem_append_left _ (List.mem_append_left _ (List.mem_append_left _ (List.mem_append_left _ (List.mem_of_getElem? (i := 0) rfl))))))) (N' := 2) rfl (by omega) (10, 43, 0) (by show _ ≤ 53; omega) (by show _ ≤ 1302; omega) dX7_worthThere_1 (fun q_1 H hq_1 hI => ?_)
  obtain ⟨G_1, hG_1⟩ : ∃ z, z = gset G (10, 43, 0) q_1 (cR (K.2.1 6) 2 (fun _ => none)) := ⟨_, rfl⟩
  have hI : gI K A s G_1 H locs := by rw [hG_1]; exact hI
  have yd_G_1 : G_1 (r, 30, 0) = some ((L 30 0), .inr (8, [.ref (L 31 0), .ref (L 33 0), .int (nI (yF y))])) := by rw [hG_1, gset_ne (by simp <;> omega)]; exact hm.1.1
  have o_G_1 : G_1 (10, 43, 0) = some (q_1, cR (K.2.1 6) 2 (fun _ => none)) := by rw [hG_1]; exact gset_eq _ _ _ _
  have hofN : ∀ u : gTag, u.1 ≠ 10 → G_1 u = G u := fun u hu => by rw [hG_1, gset_ne (fun z9 => hu (by rw [z9]))]
  have hm := mMY hm ⟨by omega, by decide⟩ hofN
  refine lv_dup hx hb dX7_worthThere_4 rfl ?_
  refine lv_iconst (v := nI 0) hx hb dX7_worthThere_5 (by decide) ?_
  refine lv_aload_n hx hb dX7_worthThere_6 rfl (lv_at hl 0 rfl) ?_
  refine lv_iconst (v := nI 0) hx hb dX7_worthThere_7 (by decide) ?_
  refine g_callV (As := [.int (nI 0)]) (rest := [.int (nI 0), .ref q_1, .ref q_1]) (b := (L 30 0)) (n := 1) S hE hI hA (c_X7_worths l K _ r L y N 0 11 hm (by decide) ⟨by omega, by decide⟩) gX7_worthThere_X7_worths rfl (by decide +kernel) ⟨Nat.le_of_ble_eq_true rfl, Nat.le_of_ble_eq_true rfl⟩ (g_hro hE hI hm.1.1 rfl) rfl hl.1 rfl (Nat.le_of_ble_eq_true rfl) dX7_worthThere_8 ⟨by show _ ≤ 53; omega, by show _ ≤ 1302; omega⟩ (fun E ce q9 Gx H1 locs1 hx9 => hx9.elim) (fun rv Gc_8 H locs hp hI => ?_)
  obtain ⟨qa, rfl, htb11, hof11⟩ := hp
  have hm := mMY hm ⟨by omega, by decide⟩ hof11
  have o_w11 : Gc_8 (10, 43, 0) = some (q_1, cR (K.2.1 6) 2 (fun _ => none)) := (hof11 _ (by show (10 : Nat) ≠ 11; decide)).trans o_G_1
  obtain ⟨GT11, hGT11⟩ : ∃ z, z = Gc_8 := ⟨_, rfl⟩
  obtain ⟨Rr11, hto11, hrw11⟩ := htb11
  have htb11 : Tab K 11 Gc_8 qa _ := ⟨Rr11, hto11, hrw11⟩
  refine W.eq (g2 := F0 m 11 ls [.ref qa, .int (nI 0), .ref q_1, .ref q_1]) rfl ?_
  refine g_aast S hE hI (j := 0) (f := (fun _ => none)) o_w11 (k := 6) rfl rfl (g_hra hE hI (k := 5) (ty := .array .int) hto11 rfl rfl) (g_compT hE) rfl (by decide) (by decide) dX7_worthThere_11 (fun H locs hI => ?_)
  have hI : gI K A s (gset Gc_8 (10, 43, 0) q_1 (cR (K.2.1 6) 2 (va_up (fun _ => none) 0 (some qa)))) H locs := hI
  obtain ⟨G_2, hG_2⟩ : ∃ z, z = gset Gc_8 (10, 43, 0) q_1 (cR (K.2.1 6) 2 (va_up (fun _ => none) 0 (some qa))) := ⟨_, rfl⟩
  rw [← hG_2] at hI
  have yd_G_2 : G_2 (r, 30, 0) = some ((L 30 0), .inr (8, [.ref (L 31 0), .ref (L 33 0), .int (nI (yF y))])) := by rw [hG_2, gset_ne (by simp <;> omega)]; exact hm.1.1
  have o_G_2 : G_2 (10, 43, 0) = some (q_1, cR (K.2.1 6) 2 (va_up (fun _ => none) 0 (some qa))) := by rw [hG_2]; exact gset_eq _ _ _ _
  have hof : ∀ u : gTag, u.1 ≠ 10 → G_2 u = Gc_8 u := fun u hu => by rw [hG_2, gset_ne (fun z9 => hu (by rw [z9]))]
  have hm := mMY hm ⟨by omega, by decide⟩ hof
  have htb11 := htb11.moved (fun t ht => hof t (by rw [ht]; decide))
  have hofS := hof
  refine lv_dup hx hb dX7_worthThere_12 rfl ?_
  refine lv_iconst (v := nI 1) hx hb dX7_worthThere_13 (by decide) ?_
  refine lv_aload_n hx hb dX7_worthThere_14 rfl (lv_at hl 0 rfl) ?_
  refine lv_iconst (v := nI 1) hx hb dX7_worthThere_15 (by decide) ?_
  refine g_callV (As := [.int (nI 1)]) (rest := [.int (nI 1), .ref q_1, .ref q_1]) (b := (L 30 0)) (n := 1) S hE hI hA (c_X7_worths l K _ r L y N 1 12 hm (by decide) ⟨by omega, by decide⟩) gX7_worthThere_X7_worths rfl (by decide +kernel) ⟨Nat.le_of_ble_eq_true rfl, Nat.le_of_ble_eq_true rfl⟩ (g_hro hE hI hm.1.1 rfl) rfl hl.1 rfl (Nat.le_of_ble_eq_true rfl) dX7_worthThere_16 ⟨by show _ ≤ 53; omega, by show _ ≤ 1302; omega⟩ (fun E ce q9 Gx H1 locs1 hx9 => hx9.elim) (fun rv Gc_16 H locs hp hI => ?_)
  obtain ⟨qb, rfl, htb12, hof12⟩ := hp
  have hm := mMY hm ⟨by omega, by decide⟩ hof12
  have o_w12 : Gc_16 (10, 43, 0) = some (q_1, cR (K.2.1 6) 2 (va_up (fun _ => none) 0 (some qa))) := (hof12 _ (by show (10 : Nat) ≠ 12; decide)).trans o_G_2
  have htb11 := htb11.moved (fun t ht => hof12 t (by rw [ht]; decide))
  obtain ⟨GT12, hGT12⟩ : ∃ z, z = Gc_16 := ⟨_, rfl⟩
  obtain ⟨Rr12, hto12, hrw12⟩ := htb12
  have htb12 : Tab K 12 Gc_16 qb _ := ⟨Rr12, hto12, hrw12⟩
  refine W.eq (g2 := F0 m 19 ls [.ref qb, .int (nI 1), .ref q_1, .ref q_1]) rfl ?_
  refine g_aast S hE hI (j := 1) (f := (va_up (fun _ => none) 0 (some qa))) o_w12 (k := 6) rfl rfl (g_hra hE hI (k := 5) (ty := .array .int) hto12 rfl rfl) (g_compT hE) rfl (by decide) (by decide) dX7_worthThere_19 (fun H locs hI => ?_)
  have hI : gI K A s (gset Gc_16 (10, 43, 0) q_1 (cR (K.2.1 6) 2 (va_up (va_up (fun _ => none) 0 (some qa)) 1 (some qb)))) H locs := hI
  obtain ⟨G_3, hG_3⟩ : ∃ z, z = gset Gc_16 (10, 43, 0) q_1 (cR (K.2.1 6) 2 (va_up (va_up (fun _ => none) 0 (some qa)) 1 (some qb))) := ⟨_, rfl⟩
  rw [← hG_3] at hI
  have yd_G_3 : G_3 (r, 30, 0) = some ((L 30 0), .inr (8, [.ref (L 31 0), .ref (L 33 0), .int (nI (yF y))])) := by rw [hG_3, gset_ne (by simp <;> omega)]; exact hm.1.1
  have o_G_3 : G_3 (10, 43, 0) = some (q_1, cR (K.2.1 6) 2 (va_up (va_up (fun _ => none) 0 (some qa)) 1 (some qb))) := by rw [hG_3]; exact gset_eq _ _ _ _
  have hof : ∀ u : gTag, u.1 ≠ 10 → G_3 u = Gc_16 u := fun u hu => by rw [hG_3, gset_ne (fun z9 => hu (by rw [z9]))]
  have hm := mMY hm ⟨by omega, by decide⟩ hof
  have htb12 := htb12.moved (fun t ht => hof t (by rw [ht]; decide))
  have htb11 := htb11.moved (fun t ht => hof t (by rw [ht]; decide))
  obtain ⟨m1, ar1, hl1⟩ := hm.2.1.obj
  obtain ⟨m2, ar2, hl2⟩ := hm.2.2.1.obj
  have hofA : ∀ u : gTag, u.1 ≠ 10 → u.1 ≠ 11 → u.1 ≠ 12 → G_3 u = G u := fun u c1 c2 c3 => (hof u c1).trans ((hof12 u c3).trans ((hofS u c1).trans ((hof11 u c2).trans (hofN u c1))))
  refine lv_astore_n (lv' := [(1, .ref q_1), (0, .ref (L 30 0))]) hx hb dX7_worthThere_20 rfl hl (by decide) rfl (fun ls hl => ?_)
  refine lv_iconst (v := nI 0) hx hb dX7_worthThere_21 (by decide) ?_
  refine lv_istore_n (lv' := [(2, .int (nI 0)), (1, .ref q_1), (0, .ref (L 30 0))]) hx hb dX7_worthThere_22 rfl hl (by decide) rfl (fun ls hl => ?_)
  refine lv_iconst (v := nI 0) hx hb dX7_worthThere_23 (by decide) ?_
  refine lv_istore_n (lv' := [(3, .int (nI 0)), (2, .int (nI 0)), (1, .ref q_1), (0, .ref (L 30 0))]) hx hb dX7_worthThere_24 rfl hl (by decide) rfl (fun ls hl => ?_)
  have L25 : ∀ (n : Nat) (i acc : Nat) (H : Heap) (locs : List Loc) (ls : Array Slot) (hn : ySc y - i < n) (hi : i ≤ ySc y) (hacc : acc = sumN (fun i => if sT (yS y i) = 0 then wV (ySt2 y (sG (yS y i))) (yF y) (sW (yS y i)) (sH (yS y i)) else 0) i), gI K A s G_3 H locs → lv_has ls 5 [(0, .ref (L 30 0)), (1, .ref q_1), (2, .int (nI acc)), (3, .int (nI i))] → W p l e (gRoom 7 160 53 1302) s m ([.ref (L 30 0)] : List Value).toArray below meth c H locs 53 1302 (gEnd K below (fun r9 G1 => r9 = some (.int (nI (yAll y))) ∧ ∀ u : gTag, u.1 ≠ 10 → u.1 ≠ 11 → u.1 ≠ 12 → G1 u = G u) (gNo) A ([.ref (L 30 0)] : List Value).toArray s 53 1302) (F0 m 25 ls []) := by
    clear hI hl
    intro n
    induction n with
    | zero =>
      intro i acc H locs ls hn hi hacc hI hl
      exact absurd hn (Nat.not_lt_zero _)
    | succ n ih =>
      intro i acc H locs ls hn hi hacc hI hl
      refine lv_iload_n hx hb dX7_worthThere_25 rfl (lv_at hl 3 rfl) ?_
      refine lv_aload_n hx hb dX7_worthThere_26 rfl (lv_at hl 0 rfl) ?_
      refine g_get S hE hI (C := RX7) (T := TX7) (N := 3) (ref := "StonecutterYardModel$Yard") (fun w h => (List.mem_cons_of_mem _ (List.mem_append_left _ (List.mem_append_left _ (List.mem_append_left _ (List.mem_append_right _ h)))))) hm.1.1 rfl 0 (by decide) (List.mem_cons_of_mem _ (List.mem_append_left _ (List.mem_append_left _ (List.mem_append_left _ (List.mem_append_left _ (List.mem_append_left _ (List.mem_of_getElem? (i := 1) rfl))))))) (fun _ h9 => h9) (v := .ref (L 31 0)) rfl dX7_worthThere_27 ?_
      refine g_callV (As := []) (rest := [.int (nI i)]) (b := (L 31 0)) (n := 0) S hE hI hA (l_size l K _ (r, 31, 0) (tbL r 32) (L 31 0) (ySc y) (L 35) hm.2.1) gX7_worthThere_Jx4a65c_size_8abf5 rfl (by decide +kernel) ⟨Nat.le_of_ble_eq_true rfl, Nat.le_of_ble_eq_true rfl⟩ (g_hro hE hI hl1 rfl) rfl hl.1 rfl (Nat.le_of_ble_eq_true rfl) dX7_worthThere_30 ⟨by show _ ≤ 53; omega, by show _ ≤ 1302; omega⟩ (fun E ce q9 Gx H1 locs1 hx9 => hx9.elim) (fun rv Gc_30 H locs hp hI => ?_)
      obtain ⟨rfl, hq9⟩ := hp
      rw [hq9] at hI
      refine W.eq (g2 := F0 m 33 ls [.int (nI (ySc y)), .int (nI i)]) rfl ?_
      refine lv_icmp_ge (tgt := 89) hx hb dX7_worthThere_33 (by decide) (fun c_33 => ?_) (fun c_33 => ?_)
      · skip
        have c_33 : (ySc y) ≤ i := (nI_leI (a := (ySc y)) (b := i) (by omega) (by omega)).mp c_33
        refine lv_iload_n hx hb dX7_worthThere_89 rfl (lv_at hl 2 rfl) ?_
        exact g_iret S hI hr hlocks (by omega) (by omega) dX7_worthThere_90 ⟨by rw [hacc, show i = ySc y by omega, yAll_one hsG], hofA⟩
      · skip
        have c_33 : i < (ySc y) := Nat.not_le.mp (fun z => c_33 ((nI_leI (a := (ySc y)) (b := i) (by omega) (by omega)).mpr z))
        refine lv_aload_n hx hb dX7_worthThere_36 rfl (lv_at hl 0 rfl) ?_
        refine g_get S hE hI (C := RX7) (T := TX7) (N := 3) (ref := "StonecutterYardModel$Yard") (fun w h => (List.mem_cons_of_mem _ (List.mem_append_left _ (List.mem_append_left _ (List.mem_append_left _ (List.mem_append_right _ h)))))) hm.1.1 rfl 0 (by decide) (List.mem_cons_of_mem _ (List.mem_append_left _ (List.mem_append_left _ (List.mem_append_left _ (List.mem_append_left _ (List.mem_append_left _ (List.mem_of_getElem? (i := 1) rfl))))))) (fun _ h9 => h9) (v := .ref (L 31 0)) rfl dX7_worthThere_37 ?_
        refine lv_iload_n hx hb dX7_worthThere_40 rfl (lv_at hl 3 rfl) ?_
        refine g_callV (As := [.int (nI i)]) (rest := []) (b := (L 31 0)) (n := 1) S hE hI hA (l_get l K _ (r, 31, 0) (tbL r 32) (L 31 0) (ySc y) (L 35) i hm.2.1 c_33) gX7_worthThere_Jx4a65c_get_915e3 rfl (by decide +kernel) ⟨Nat.le_of_ble_eq_true rfl, Nat.le_of_ble_eq_true rfl⟩ (g_hro hE hI hl1 rfl) rfl hl.1 rfl (Nat.le_of_ble_eq_true rfl) dX7_worthThere_41 ⟨by show _ ≤ 53; omega, by show _ ≤ 1302; omega⟩ (fun E ce q9 Gx H1 locs1 hx9 => hx9.elim) (fun rv Gc_41 H locs hp hI => ?_)
        obtain ⟨rfl, hq9⟩ := hp
        rw [hq9] at hI
        obtain ⟨hsl, hfl, hsok⟩ := hm.2.2.2.1 i c_33
        have hsok9 := hsok
        obtain ⟨s1, s2, s3, s4, s5, s6, s7, s8⟩ := hsok9
        refine W.eq (g2 := F0 m 44 ls [.ref (L 35 i)]) rfl ?_
        refine g_cast S (List.mem_cons_of_mem _ (List.mem_append_left _ (List.mem_append_left _ (List.mem_append_left _ (List.mem_append_left _ (List.mem_append_left _ (List.mem_of_getElem? (i := 2) rfl))))))) (g_hro hE hI hsl rfl) dX7_worthThere_44 ?_
        refine lv_astore (lv' := [(4, .ref (L 35 i)), (0, .ref (L 30 0)), (1, .ref q_1), (2, .int (nI acc)), (3, .int (nI i))]) hx hb dX7_worthThere_47 hl (by decide) rfl (fun ls hl => ?_)
        refine lv_iload_n hx hb dX7_worthThere_49 rfl (lv_at hl 3 rfl) ?_
        refine lv_aload hx hb dX7_worthThere_50 (lv_at hl 0 rfl) ?_
        refine g_callV (As := []) (rest := [.int (nI acc)]) (b := (L 35 i)) (n := 0) S hE hI hA (c_X6_isThere l K _ (r, 35, i) (L 35 i) (yS y i) (L 36 i) hsl s6) gX7_worthThere_X6_isThere rfl (by decide +kernel) ⟨Nat.le_of_ble_eq_true rfl, Nat.le_of_ble_eq_true rfl⟩ (g_hro hE hI hsl rfl) rfl hl.1 rfl (Nat.le_of_ble_eq_true rfl) dX7_worthThere_52 ⟨by show _ ≤ 53; omega, by show _ ≤ 1302; omega⟩ (fun E ce q9 Gx H1 locs1 hx9 => hx9.elim) (fun rv Gc_52 H locs hp hI => ?_)
        obtain ⟨rfl, hq9⟩ := hp
        rw [hq9] at hI
        refine W.eq (g2 := F0 m 55 ls [.int (bI (decide (sT (yS y i) = 0))), .int (nI acc)]) rfl ?_
        refine lv_if_eq (tgt := 80) hx hb dX7_worthThere_55 (by decide) (fun c_55 => ?_) (fun c_55 => ?_)
        · skip
          have c_55 : (decide (sT (yS y i) = 0)) = false := bI_0.mp c_55
          have c_55 := of_decide_eq_false c_55
          refine lv_iconst (v := nI 0) hx hb dX7_worthThere_80 (by decide) ?_
          refine t_iadd hx hb dX7_worthThere_81 (nI_add _ _) ?_
          refine lv_istore_n (lv' := [(2, .int (nI (acc + 0))), (4, .ref (L 35 i)), (0, .ref (L 30 0)), (1, .ref q_1), (3, .int (nI i))]) hx hb dX7_worthThere_82 rfl hl (by decide) rfl (fun ls hl => ?_)
          refine lv_iinc (v := nI (i + 1)) (lv' := [(3, .int (nI (i + 1))), (2, .int (nI (acc + 0))), (4, .ref (L 35 i)), (0, .ref (L 30 0)), (1, .ref q_1)]) hx hb dX7_worthThere_83 hl (k := 4) rfl (nI_add _ 1) (by decide) rfl (fun ls hl => ?_)
          refine lv_goto (tgt := 25) hx hb dX7_worthThere_86 (by decide) ?_
          exact W.widen (by omega) (by omega) (ih (i + 1) (acc + 0) H locs ls (by omega) (by omega) (by rw [hacc, sumN_s, if_neg c_55]) hI (lv_sub hl [3,4,1,0] rfl))
        · skip
          have c_55 : (decide (sT (yS y i) = 0)) = true := bI_1.mp c_55
          have c_55 := of_decide_eq_true c_55
          obtain ⟨rg, Rr9, hto9, hrw9⟩ := tabOf htb11 htb12 s5
          obtain ⟨f9, hrr9, hv9⟩ := hrw9 (sW (yS y i)) (by omega)
          refine lv_aload_n hx hb dX7_worthThere_58 rfl (lv_at hl 2 rfl) ?_
          refine lv_aload hx hb dX7_worthThere_59 (lv_at hl 0 rfl) ?_
          refine g_get S hE hI (C := RX6) (T := TX6) (N := 6) (ref := "StonecutterYardModel$Slab") (fun w h => (List.mem_cons_of_mem _ (List.mem_append_left _ (List.mem_append_left _ (List.mem_append_right _ h))))) hsl rfl 2 (by decide) (List.mem_cons_of_mem _ (List.mem_append_left _ (List.mem_append_left _ (List.mem_append_left _ (List.mem_append_left _ (List.mem_append_left _ (List.mem_of_getElem? (i := 3) rfl))))))) (fun _ h9 => h9) (v := .int (nI (sG (yS y i)))) rfl dX7_worthThere_61 ?_
          refine g_aald S hE hI (j := (sG (yS y i))) (f := (va_up (va_up (fun _ => none) 0 (some qa)) 1 (some qb))) o_G_3 (k := 6) rfl rfl rfl (by omega) (by decide) (v := .ref (if sG (yS y i) = 0 then qa else qb)) (tab2 s5) dX7_worthThere_64 ?_
          refine lv_aload hx hb dX7_worthThere_65 (lv_at hl 0 rfl) ?_
          refine g_get S hE hI (C := RX6) (T := TX6) (N := 6) (ref := "StonecutterYardModel$Slab") (fun w h => (List.mem_cons_of_mem _ (List.mem_append_left _ (List.mem_append_left _ (List.mem_append_right _ h))))) hsl rfl 0 (by decide) (List.mem_cons_of_mem _ (List.mem_append_left _ (List.mem_append_left _ (List.mem_append_left _ (List.mem_append_left _ (List.mem_append_left _ (List.mem_of_getElem? (i := 4) rfl))))))) (fun _ h9 => h9) (v := .int (nI (sW (yS y i)))) rfl dX7_worthThere_67 ?_
          refine g_aald S hE hI (j := (sW (yS y i))) (f := (fun j => if j < 25 then some (Rr9 j) else none)) hto9 (k := 5) rfl rfl rfl (by omega) (by decide) (v := .ref (Rr9 (sW (yS y i)))) (by show va_rf (if _ then _ else _) = _; rw [if_pos (by omega)]; rfl) dX7_worthThere_70 ?_
          refine lv_aload hx hb dX7_worthThere_71 (lv_at hl 0 rfl) ?_
          refine g_get S hE hI (C := RX6) (T := TX6) (N := 6) (ref := "StonecutterYardModel$Slab") (fun w h => (List.mem_cons_of_mem _ (List.mem_append_left _ (List.mem_append_left _ (List.mem_append_right _ h))))) hsl rfl 1 (by decide) (List.mem_cons_of_mem _ (List.mem_append_left _ (List.mem_append_left _ (List.mem_append_left _ (List.mem_append_left _ (List.mem_append_left _ (List.mem_of_getElem? (i := 5) rfl))))))) (fun _ h9 => h9) (v := .int (nI (sH (yS y i)))) rfl dX7_worthThere_73 ?_
          refine g_iald S hE hI (j := (sH (yS y i))) (f := f9) hrr9 rfl (by omega) (by decide) dX7_worthThere_76 ?_
          refine W.eq (g2 := F0 m 77 ls [.int (nI (wV (ySt2 y (sG (yS y i))) (yF y) (sW (yS y i)) (sH (yS y i)))), .int (nI acc)]) (by rw [hv9 _ (by omega) (by omega) (by omega)]) ?_
          refine lv_goto (tgt := 81) hx hb dX7_worthThere_77 (by decide) ?_
          refine t_iadd hx hb dX7_worthThere_81 (nI_add _ _) ?_
          refine lv_istore_n (lv' := [(2, .int (nI (acc + (wV (ySt2 y (sG (yS y i))) (yF y) (sW (yS y i)) (sH (yS y i)))))), (4, .ref (L 35 i)), (0, .ref (L 30 0)), (1, .ref q_1), (3, .int (nI i))]) hx hb dX7_worthThere_82 rfl hl (by decide) rfl (fun ls hl => ?_)
          refine lv_iinc (v := nI (i + 1)) (lv' := [(3, .int (nI (i + 1))), (2, .int (nI (acc + (wV (ySt2 y (sG (yS y i))) (yF y) (sW (yS y i)) (sH (yS y i)))))), (4, .ref (L 35 i)), (0, .ref (L 30 0)), (1, .ref q_1)]) hx hb dX7_worthThere_83 hl (k := 4) rfl (nI_add _ 1) (by decide) rfl (fun ls hl => ?_)
          refine lv_goto (tgt := 25) hx hb dX7_worthThere_86 (by decide) ?_
          exact W.widen (by omega) (by omega) (ih (i + 1) (acc + (wV (ySt2 y (sG (yS y i))) (yF y) (sW (yS y i)) (sH (yS y i)))) H locs ls (by omega) (by omega) (by rw [hacc, sumN_s, if_pos c_55]) hI (lv_sub hl [3,4,1,0] rfl))
  exact W.widen (by omega) (by omega) (L25 _ 0 0 H locs ls (Nat.lt_succ_self _) (Nat.zero_le _) rfl hI (lv_sub hl [3,2,1,0] rfl))
