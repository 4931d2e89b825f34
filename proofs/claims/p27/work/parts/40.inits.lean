/-! the constructors -/
section GCP
variable {s : State} {K : gK} {A : Nat → Prop}
theorem g_comp (hE : gE K A s s.heap) {k : Nat} {C : String} (hk : (gTys K.2.1)[k]? = some (K.2.1 k, .object C)) : ∀ (kA : Class) (comp : ClassId), s.vm.classes[K.2.1 k]? = some kA → kA.kind = .array comp (.object C) → ∀ c0 : ClassId, s.vm.findClass C = some c0 → s.vm.assignable c0 comp = true ∧ ∃ kc, s.vm.classes[comp]? = some kc := by
  intro kA comp h1 h2 c0 h3
  obtain ⟨kA2, comp2, e1, e2, e3, -⟩ := (hE.1.2 k _ hk).2
  cases h1.symm.trans e1
  cases h2.symm.trans e2
  cases h3.symm.trans e3
  obtain ⟨kC, hkC, -⟩ := Vm.findClass_spec e3
  exact ⟨Vm.assignable_self _ _, kC, hkC⟩
end GCP
theorem fRef_0 {n : Nat} {f : Nat → Nat} : fRef 0 f = fun _ => none := by
  funext j
  exact if_neg (Nat.not_lt_zero j)
theorem fRef_up {i q : Nat} {f : Nat → Nat} : va_up (fRef i f) i (some q) = fRef (i + 1) (fU f i q) := by
  funext j
  by_cases e : j = i
  · subst e
    rw [va_up, if_pos rfl, fRef, if_pos (Nat.lt_succ_self _), fU_eq]
  · rw [va_up, if_neg e]
    by_cases c : j < i
    · rw [fRef, fRef, if_pos c, if_pos (by omega), fU_ne e]
    · rw [fRef, fRef, if_neg c, if_neg (by omega)]
abbrev sZ : SV := (0, 0, 0, nI 0, 0, [])
abbrev yNew : YV := (0, 0, 1, fun _ => sZ, fun _ => kZ)
set_option maxHeartbeats 4000000 in
set_option maxRecDepth 100000 in
/-- Stock() -/
theorem c_X3_init (l : Launch) (K : gK) (G : gW) (r h0 : Nat) (hg : G (r, 0, 0) = some (h0, .inr (4, [.null, .null, .int (nI 0), .int (nI 0), .int (nI 0)]))) : gM l yX3_init wsX3_init 3 60 96 670 K [.ref h0] G (fun v G1 => v = none ∧ (∃ L, L 0 0 = h0 ∧ StockG K true r L G1 yNew) ∧ Ag r G G1) (gNo) := by
  refine gM.of (cc := cX3_init) (maxL := 2) (ret := none) (by decide) rfl (Nat.le_of_ble_eq_true rfl) ?_
  intro p e s m below meth c A S hr hlocks htab hname hE hA hI ls hl
  have hx := S.1
  have hb := S.2.1
  have hml := S.2.2.1
  have hl : lv_has ls 2 [(0, .ref h0)] := hl
  obtain ⟨H, hHe⟩ : ∃ z, z = s.heap := ⟨_, rfl⟩
  obtain ⟨locs, hLe⟩ : ∃ z : List Loc, z = [] := ⟨_, rfl⟩
  rw [← hHe, ← hLe]
  have hI : gI K A s G H locs := by rw [hHe, hLe]; exact hI
  clear hHe hLe
  refine lv_aload_n hx hb dX3_init_0 rfl (lv_at hl 0 rfl) ?_
  refine W.objInit hx hb S.2.2.2.1 (S.2.2.2.2 _ (List.mem_cons_of_mem _ (List.mem_append_left _ (List.mem_append_left _ (List.mem_append_left _ (List.mem_of_getElem? (i := 0) rfl)))))) (S.2.2.2.2 _ (List.mem_cons_of_mem _ (List.mem_append_left _ (List.mem_append_left _ (List.mem_append_left _ (List.mem_of_getElem? (i := 1) rfl)))))) (S.2.2.2.2 _ (List.mem_cons_of_mem _ (List.mem_append_left _ (List.mem_append_left _ (List.mem_append_left _ (List.mem_of_getElem? (i := 2) rfl)))))) rfl (by rw [hml]; exact hl.1) rfl dX3_init_1 (Nat.le_of_ble_eq_true rfl) (Nat.le_of_ble_eq_true rfl) ?_
  refine W.eq (g2 := F0 m 4 ls []) rfl ?_
  refine lv_aload_n hx hb dX3_init_4 rfl (lv_at hl 0 rfl) ?_
  refine lv_bipush (v := nI 44) hx hb dX3_init_5 (by decide) ?_
  refine g_newA S hE hI hA (List.mem_cons_of_mem _ (List.mem_append_left _ (List.mem_append_left _ (List.mem_append_left _ (List.mem_of_getElem? (i := 3) rfl))))) hE.2.2.2.2.2.2.2.2.2.1 2 rfl (N' := 44) rfl (by omega) (r, 1, 0) (by show _ ≤ 96; omega) (by show _ ≤ 670; omega) dX3_init_7 (fun q_7 H hq_7 hI => ?_)
  obtain ⟨G_1, hG_1⟩ : ∃ z, z = gset G (r, 1, 0) q_7 (cR (K.2.1 2) 44 (fun _ => none)) := ⟨_, rfl⟩
  have hI : gI K A s G_1 H locs := by rw [hG_1]; exact hI
  have o_G_1 : G_1 (r, 0, 0) = some (h0, .inr (4, [.null, .null, .int (nI 0), .int (nI 0), .int (nI 0)])) := by rw [hG_1, gset_ne (by simp)]; exact hg
  have q7_G_1 : G_1 (r, 1, 0) = some (q_7, cR (K.2.1 2) 44 (fun _ => none)) := by rw [hG_1]; exact gset_eq _ _ _ _
  refine g_putF S hE hI (C := RX3) (T := TX3) (N := 5) (ref := "StonecutterYard$Stock") (fun w h => (List.mem_cons_of_mem _ (List.mem_append_left _ (List.mem_append_left _ (List.mem_append_right _ h))))) tyX3 tyX3_ok nmX3 o_G_1 rfl 0 (by decide) (List.mem_cons_of_mem _ (List.mem_append_left _ (List.mem_append_left _ (List.mem_append_left _ (List.mem_of_getElem? (i := 4) rfl))))) (fun _ h9 => h9) rfl hname rfl rfl rfl (Nat.le_of_ble_eq_true rfl) dX3_init_10 (fun H locs hI => ?_)
  have hI : gI K A s (gset G_1 (r, 0, 0) h0 (.inr (4, [.ref q_7, .null, .int (nI 0), .int (nI 0), .int (nI 0)]))) H locs := hI
  obtain ⟨G_2, hG_2⟩ : ∃ z, z = gset G_1 (r, 0, 0) h0 (.inr (4, [.ref q_7, .null, .int (nI 0), .int (nI 0), .int (nI 0)])) := ⟨_, rfl⟩
  rw [← hG_2] at hI
  have q7_G_2 : G_2 (r, 1, 0) = some (q_7, cR (K.2.1 2) 44 (fun _ => none)) := by rw [hG_2, gset_ne (g_tne q7_G_1 o_G_1 (by simp))]; exact q7_G_1
  have o_G_2 : G_2 (r, 0, 0) = some (h0, .inr (4, [.ref q_7, .null, .int (nI 0), .int (nI 0), .int (nI 0)])) := by rw [hG_2]; exact gset_eq _ _ _ _
  refine lv_aload_n hx hb dX3_init_13 rfl (lv_at hl 0 rfl) ?_
  refine lv_bipush (v := nI 6) hx hb dX3_init_14 (by decide) ?_
  refine g_newA S hE hI hA (List.mem_cons_of_mem _ (List.mem_append_left _ (List.mem_append_left _ (List.mem_append_left _ (List.mem_of_getElem? (i := 5) rfl))))) hE.2.2.2.2.2.2.2.2.2.2.1 3 rfl (N' := 6) rfl (by omega) (r, 2, 0) (by show _ ≤ 96; omega) (by show _ ≤ 670; omega) dX3_init_16 (fun q_16 H hq_16 hI => ?_)
  obtain ⟨G_3, hG_3⟩ : ∃ z, z = gset G_2 (r, 2, 0) q_16 (cR (K.2.1 3) 6 (fun _ => none)) := ⟨_, rfl⟩
  have hI : gI K A s G_3 H locs := by rw [hG_3]; exact hI
  have o_G_3 : G_3 (r, 0, 0) = some (h0, .inr (4, [.ref q_7, .null, .int (nI 0), .int (nI 0), .int (nI 0)])) := by rw [hG_3, gset_ne (by simp)]; exact o_G_2
  have q7_G_3 : G_3 (r, 1, 0) = some (q_7, cR (K.2.1 2) 44 (fun _ => none)) := by rw [hG_3, gset_ne (by simp)]; exact q7_G_2
  have q16_G_3 : G_3 (r, 2, 0) = some (q_16, cR (K.2.1 3) 6 (fun _ => none)) := by rw [hG_3]; exact gset_eq _ _ _ _
  refine g_putF S hE hI (C := RX3) (T := TX3) (N := 5) (ref := "StonecutterYard$Stock") (fun w h => (List.mem_cons_of_mem _ (List.mem_append_left _ (List.mem_append_left _ (List.mem_append_right _ h))))) tyX3 tyX3_ok nmX3 o_G_3 rfl 1 (by decide) (List.mem_cons_of_mem _ (List.mem_append_left _ (List.mem_append_left _ (List.mem_append_left _ (List.mem_of_getElem? (i := 6) rfl))))) (fun _ h9 => h9) rfl hname rfl rfl rfl (Nat.le_of_ble_eq_true rfl) dX3_init_19 (fun H locs hI => ?_)
  have hI : gI K A s (gset G_3 (r, 0, 0) h0 (.inr (4, [.ref q_7, .ref q_16, .int (nI 0), .int (nI 0), .int (nI 0)]))) H locs := hI
  obtain ⟨G_4, hG_4⟩ : ∃ z, z = gset G_3 (r, 0, 0) h0 (.inr (4, [.ref q_7, .ref q_16, .int (nI 0), .int (nI 0), .int (nI 0)])) := ⟨_, rfl⟩
  rw [← hG_4] at hI
  have q7_G_4 : G_4 (r, 1, 0) = some (q_7, cR (K.2.1 2) 44 (fun _ => none)) := by rw [hG_4, gset_ne (g_tne q7_G_3 o_G_3 (by simp))]; exact q7_G_3
  have q16_G_4 : G_4 (r, 2, 0) = some (q_16, cR (K.2.1 3) 6 (fun _ => none)) := by rw [hG_4, gset_ne (g_tne q16_G_3 o_G_3 (by simp))]; exact q16_G_3
  have o_G_4 : G_4 (r, 0, 0) = some (h0, .inr (4, [.ref q_7, .ref q_16, .int (nI 0), .int (nI 0), .int (nI 0)])) := by rw [hG_4]; exact gset_eq _ _ _ _
  refine lv_aload_n hx hb dX3_init_22 rfl (lv_at hl 0 rfl) ?_
  refine lv_iconst (v := nI 1) hx hb dX3_init_23 (by decide) ?_
  refine g_put S hE hI (C := RX3) (T := TX3) (N := 5) (ref := "StonecutterYard$Stock") (fun w h => (List.mem_cons_of_mem _ (List.mem_append_left _ (List.mem_append_left _ (List.mem_append_right _ h))))) tyX3 tyX3_ok nmX3 o_G_4 rfl 4 (by decide) (List.mem_cons_of_mem _ (List.mem_append_left _ (List.mem_append_left _ (List.mem_append_left _ (List.mem_of_getElem? (i := 7) rfl))))) (fun _ h9 => h9) rfl rfl rfl (Nat.le_of_ble_eq_true rfl) dX3_init_24 (fun H locs hI => ?_)
  have hI : gI K A s (gset G_4 (r, 0, 0) h0 (.inr (4, [.ref q_7, .ref q_16, .int (nI 0), .int (nI 0), .int (nI 1)]))) H locs := hI
  obtain ⟨G_5, hG_5⟩ : ∃ z, z = gset G_4 (r, 0, 0) h0 (.inr (4, [.ref q_7, .ref q_16, .int (nI 0), .int (nI 0), .int (nI 1)])) := ⟨_, rfl⟩
  rw [← hG_5] at hI
  have q7_G_5 : G_5 (r, 1, 0) = some (q_7, cR (K.2.1 2) 44 (fun _ => none)) := by rw [hG_5, gset_ne (g_tne q7_G_4 o_G_4 (by simp))]; exact q7_G_4
  have q16_G_5 : G_5 (r, 2, 0) = some (q_16, cR (K.2.1 3) 6 (fun _ => none)) := by rw [hG_5, gset_ne (g_tne q16_G_4 o_G_4 (by simp))]; exact q16_G_4
  have o_G_5 : G_5 (r, 0, 0) = some (h0, .inr (4, [.ref q_7, .ref q_16, .int (nI 0), .int (nI 0), .int (nI 1)])) := by rw [hG_5]; exact gset_eq _ _ _ _
  refine lv_iconst (v := nI 0) hx hb dX3_init_27 (by decide) ?_
  refine lv_istore_n (lv' := [(1, .int (nI 0)), (0, .ref h0)]) hx hb dX3_init_28 rfl hl (by decide) rfl (fun ls hl => ?_)
  have L29 : ∀ (n : Nat) (a1 b1 : Nat) (L3 L4 : Nat → Nat) (i : Nat) (G1 : gW) (H : Heap) (locs : List Loc) (ls : Array Slot) (hn : 44 - i < n) (hi : i ≤ 44) (hgo : G1 (r, 0, 0) = some (h0, .inr (4, [.ref a1, .ref b1, .int (nI 0), .int (nI 0), .int (nI 1)]))) (hga : G1 (r, 1, 0) = some (a1, cR (K.2.1 2) 44 (fRef i L3))) (hgb : G1 (r, 2, 0) = some (b1, cR (K.2.1 3) 6 (fun _ => none))) (hgs : ∀ j, j < i → G1 (r, 3, j) = some (L3 j, cS sZ (L4 j)) ∧ G1 (r, 4, j) = some (L4 j, cI K 6 (fun _ => 0))) (hai : Ag r G G1), gI K A s G1 H locs → lv_has ls 2 [(0, .ref h0), (1, .int (nI i))] → W p l e (gRoom 3 60 96 670) s m ([.ref h0] : List Value).toArray below meth c H locs (2 + 2 * i) (50 + 13 * i) (gEnd K below (fun v G1 => v = none ∧ (∃ L, L 0 0 = h0 ∧ StockG K true r L G1 yNew) ∧ Ag r G G1) (gNo) A ([.ref h0] : List Value).toArray s 96 670) (F0 m 29 ls []) := by
    clear hI hl
    intro n
    induction n with
    | zero =>
      intro a1 b1 L3 L4 i G1 H locs ls hn hi hgo hga hgb hgs hai hI hl
      exact absurd hn (Nat.not_lt_zero _)
    | succ n ih =>
      intro a1 b1 L3 L4 i G1 H locs ls hn hi hgo hga hgb hgs hai hI hl
      refine lv_iload_n hx hb dX3_init_29 rfl (lv_at hl 1 rfl) ?_
      refine lv_aload_n hx hb dX3_init_30 rfl (lv_at hl 0 rfl) ?_
      refine g_get S hE hI (C := RX3) (T := TX3) (N := 5) (ref := "StonecutterYard$Stock") (fun w h => (List.mem_cons_of_mem _ (List.mem_append_left _ (List.mem_append_left _ (List.mem_append_right _ h))))) hgo rfl 0 (by decide) (List.mem_cons_of_mem _ (List.mem_append_left _ (List.mem_append_left _ (List.mem_append_left _ (List.mem_of_getElem? (i := 4) rfl))))) (fun _ h9 => h9) (v := .ref a1) rfl dX3_init_31 ?_
      refine g_alen S hE hI (k := 2) hga rfl (v := nI 44) rfl dX3_init_34 ?_
      refine lv_icmp_ge (tgt := 57) hx hb dX3_init_35 (by decide) (fun c_35 => ?_) (fun c_35 => ?_)
      · skip
        have c_35 : 44 ≤ i := (nI_leI (a := 44) (b := i) (by omega) (by omega)).mp c_35
        refine lv_iconst (v := nI 0) hx hb dX3_init_57 (by decide) ?_
        refine lv_istore_n (lv' := [(1, .int (nI 0)), (0, .ref h0)]) hx hb dX3_init_58 rfl hl (by decide) rfl (fun ls hl => ?_)
        have L59 : ∀ (n : Nat) (a1 b1 : Nat) (L3 L4 L5 : Nat → Nat) (i : Nat) (G1 : gW) (H : Heap) (locs : List Loc) (ls : Array Slot) (hn : 6 - i < n) (hi : i ≤ 6) (hgo : G1 (r, 0, 0) = some (h0, .inr (4, [.ref a1, .ref b1, .int (nI 0), .int (nI 0), .int (nI 1)]))) (hga : G1 (r, 1, 0) = some (a1, cR (K.2.1 2) 44 (fRef 44 L3))) (hgb : G1 (r, 2, 0) = some (b1, cR (K.2.1 3) 6 (fRef i L5))) (hgs : ∀ j, j < 44 → G1 (r, 3, j) = some (L3 j, cS sZ (L4 j)) ∧ G1 (r, 4, j) = some (L4 j, cI K 6 (fun _ => 0))) (hgk : ∀ j, j < i → G1 (r, 5, j) = some (L5 j, cK kZ)) (hai : Ag r G G1), gI K A s G1 H locs → lv_has ls 2 [(0, .ref h0), (1, .int (nI i))] → W p l e (gRoom 3 60 96 670) s m ([.ref h0] : List Value).toArray below meth c H locs (90 + i) (622 + 8 * i) (gEnd K below (fun v G1 => v = none ∧ (∃ L, L 0 0 = h0 ∧ StockG K true r L G1 yNew) ∧ Ag r G G1) (gNo) A ([.ref h0] : List Value).toArray s 96 670) (F0 m 59 ls []) := by
          clear hI hl
          intro n
          induction n with
          | zero =>
            intro a1 b1 L3 L4 L5 i G1 H locs ls hn hi hgo hga hgb hgs hgk hai hI hl
            exact absurd hn (Nat.not_lt_zero _)
          | succ n ih59 =>
            intro a1 b1 L3 L4 L5 i G1 H locs ls hn hi hgo hga hgb hgs hgk hai hI hl
            refine lv_iload_n hx hb dX3_init_59 rfl (lv_at hl 1 rfl) ?_
            refine lv_aload_n hx hb dX3_init_60 rfl (lv_at hl 0 rfl) ?_
            refine g_get S hE hI (C := RX3) (T := TX3) (N := 5) (ref := "StonecutterYard$Stock") (fun w h => (List.mem_cons_of_mem _ (List.mem_append_left _ (List.mem_append_left _ (List.mem_append_right _ h))))) hgo rfl 1 (by decide) (List.mem_cons_of_mem _ (List.mem_append_left _ (List.mem_append_left _ (List.mem_append_left _ (List.mem_of_getElem? (i := 6) rfl))))) (fun _ h9 => h9) (v := .ref b1) rfl dX3_init_61 ?_
            refine g_alen S hE hI (k := 3) hgb rfl (v := nI 6) rfl dX3_init_64 ?_
            refine lv_icmp_ge (tgt := 87) hx hb dX3_init_65 (by decide) (fun c_65 => ?_) (fun c_65 => ?_)
            · skip
              have c_65 : 6 ≤ i := (nI_leI (a := 6) (b := i) (by omega) (by omega)).mp c_65
              obtain rfl : i = 6 := by omega
              exact g_vret S hI hr hlocks (by omega) (by omega) dX3_init_87 ⟨rfl, ⟨fun a b => if a = 0 then h0 else if a = 1 then a1 else if a = 2 then b1 else if a = 3 then L3 b else if a = 4 then L4 b else L5 b, rfl, ⟨hgo, hga, hgb, by decide, by decide, by decide⟩, ⟨fun _ => sZ, fun _ _ => 0, fun j hj => hgs j hj, fun j hj => absurd hj (Nat.not_lt_zero j)⟩, fun _ => kZ, fun j hj => hgk j hj, fun j hj => absurd hj (Nat.not_lt_zero j), fun _ _ _ _ => rfl⟩, hai⟩
            · skip
              have c_65 : i < 6 := Nat.not_le.mp (fun z => c_65 ((nI_leI (a := 6) (b := i) (by omega) (by omega)).mpr z))
              refine lv_aload_n hx hb dX3_init_68 rfl (lv_at hl 0 rfl) ?_
              refine g_get S hE hI (C := RX3) (T := TX3) (N := 5) (ref := "StonecutterYard$Stock") (fun w h => (List.mem_cons_of_mem _ (List.mem_append_left _ (List.mem_append_left _ (List.mem_append_right _ h))))) hgo rfl 1 (by decide) (List.mem_cons_of_mem _ (List.mem_append_left _ (List.mem_append_left _ (List.mem_append_left _ (List.mem_of_getElem? (i := 6) rfl))))) (fun _ h9 => h9) (v := .ref b1) rfl dX3_init_69 ?_
              refine lv_iload_n hx hb dX3_init_72 rfl (lv_at hl 1 rfl) ?_
              refine g_new S hE hI hA (C := RX0) (T := TX0) (N := 8) (ci := 1) (fun w h => (List.mem_cons_of_mem _ (List.mem_append_right _ h))) tyX0 tyX0_ok (List.mem_cons_of_mem _ (List.mem_append_left _ (List.mem_append_left _ (List.mem_append_left _ (List.mem_of_getElem? (i := 5) rfl))))) (List.mem_cons_of_mem _ (List.mem_append_left _ (List.mem_append_left _ (List.mem_append_left _ (List.mem_of_getElem? (i := 10) rfl))))) (List.mem_cons_of_mem _ (List.mem_append_left _ (List.mem_append_left _ (List.mem_append_left _ (List.mem_of_getElem? (i := 11) rfl))))) rfl (fs := [.int (nI 0), .int (nI 0), .int (nI 0), .int (nI 0), .int (nI 0), .int (nI 0), .int (nI 0), .int (nI 0)]) (fun j hj => by rcases (show j = 0 ∨ j = 1 ∨ j = 2 ∨ j = 3 ∨ j = 4 ∨ j = 5 ∨ j = 6 ∨ j = 7 by omega) with rfl | rfl | rfl | rfl | rfl | rfl | rfl | rfl <;> rfl) (r, 5, i) (by show _ ≤ 96; omega) (by show _ ≤ 670; omega) dX3_init_73 (fun q_73 H hq_73 hI => ?_)
              obtain ⟨G_6, hG_6⟩ : ∃ z, z = gset G1 (r, 5, i) q_73 (.inr (1, [.int (nI 0), .int (nI 0), .int (nI 0), .int (nI 0), .int (nI 0), .int (nI 0), .int (nI 0), .int (nI 0)])) := ⟨_, rfl⟩
              have hI : gI K A s G_6 H locs := by rw [hG_6]; exact hI
              have o_G_6 : G_6 (r, 0, 0) = some (h0, .inr (4, [.ref a1, .ref b1, .int (nI 0), .int (nI 0), .int (nI 1)])) := by rw [hG_6, gset_ne (by simp)]; exact hgo
              have a_G_6 : G_6 (r, 1, 0) = some (a1, cR (K.2.1 2) 44 (fRef 44 L3)) := by rw [hG_6, gset_ne (by simp)]; exact hga
              have b_G_6 : G_6 (r, 2, 0) = some (b1, cR (K.2.1 3) 6 (fRef i L5)) := by rw [hG_6, gset_ne (by simp)]; exact hgb
              have v_G_6 : G_6 (r, 5, i) = some (q_73, .inr (1, [.int (nI 0), .int (nI 0), .int (nI 0), .int (nI 0), .int (nI 0), .int (nI 0), .int (nI 0), .int (nI 0)])) := by rw [hG_6]; exact gset_eq _ _ _ _
              refine lv_dup hx hb dX3_init_76 rfl ?_
              refine g_callIN (As := []) (rest := [.ref q_73, .int (nI i), .ref b1]) (b := q_73) (n := 0) (host := "StonecutterYard") S hE hI hA (c_X0_init l K _ q_73) gX3_init_X0_init_n28 rfl (List.mem_cons_of_mem _ (List.mem_append_left _ (List.mem_append_left _ (List.mem_append_left _ (List.mem_of_getElem? (i := 11) rfl))))) (List.mem_of_getElem? (i := 2) rfl) (List.mem_cons_of_mem _ (List.mem_append_left _ (List.mem_append_left _ (List.mem_append_left _ (List.mem_of_getElem? (i := 17) rfl))))) rfl (by decide +kernel) ⟨Nat.le_of_ble_eq_true rfl, Nat.le_of_ble_eq_true rfl⟩ rfl hl.1 rfl (Nat.le_of_ble_eq_true rfl) dX3_init_77 ⟨by show _ ≤ 96; omega, by show _ ≤ 670; omega⟩ (fun E ce q9 Gx H1 locs1 hx9 => hx9.elim) (fun rv Gc_77 H locs hp hI => ?_)
              obtain ⟨rfl, hq9⟩ := hp
              rw [hq9] at hI
              refine W.eq (g2 := F0 m 80 ls [.ref q_73, .int (nI i), .ref b1]) rfl ?_
              refine g_aast S hE hI (j := i) (f := (fRef i L5)) b_G_6 (k := 3) rfl rfl (g_hro hE hI v_G_6 rfl) (g_comp hE rfl) rfl (by omega) (by decide) dX3_init_80 (fun H locs hI => ?_)
              rw [fRef_up] at hI
              have hI : gI K A s (gset G_6 (r, 2, 0) b1 (cR (K.2.1 3) 6 (fRef (i + 1) (fU L5 i q_73)))) H locs := hI
              obtain ⟨G_7, hG_7⟩ : ∃ z, z = gset G_6 (r, 2, 0) b1 (cR (K.2.1 3) 6 (fRef (i + 1) (fU L5 i q_73))) := ⟨_, rfl⟩
              rw [← hG_7] at hI
              have o_G_7 : G_7 (r, 0, 0) = some (h0, .inr (4, [.ref a1, .ref b1, .int (nI 0), .int (nI 0), .int (nI 1)])) := by rw [hG_7, gset_ne (g_tne o_G_6 b_G_6 (by simp))]; exact o_G_6
              have a_G_7 : G_7 (r, 1, 0) = some (a1, cR (K.2.1 2) 44 (fRef 44 L3)) := by rw [hG_7, gset_ne (g_tne a_G_6 b_G_6 (by simp))]; exact a_G_6
              have v_G_7 : G_7 (r, 5, i) = some (q_73, .inr (1, [.int (nI 0), .int (nI 0), .int (nI 0), .int (nI 0), .int (nI 0), .int (nI 0), .int (nI 0), .int (nI 0)])) := by rw [hG_7, gset_ne (g_tne v_G_6 b_G_6 (by simp))]; exact v_G_6
              have b_G_7 : G_7 (r, 2, 0) = some (b1, cR (K.2.1 3) 6 (fRef (i + 1) (fU L5 i q_73))) := by rw [hG_7]; exact gset_eq _ _ _ _
              have hgsn : ∀ j, j < 44 → G_7 (r, 3, j) = some (L3 j, cS sZ (L4 j)) ∧ G_7 (r, 4, j) = some (L4 j, cI K 6 (fun _ => 0)) := fun j hj => by rw [hG_7, hG_6]; exact ⟨(gset_ne (by simp)).trans ((gset_ne (by simp)).trans (hgs j hj).1), (gset_ne (by simp)).trans ((gset_ne (by simp)).trans (hgs j hj).2)⟩
              have hgkn : ∀ j, j < i + 1 → G_7 (r, 5, j) = some (fU L5 i q_73 j, cK kZ) := fun j hj => by
                by_cases e : j = i
                · subst e; rw [fU_eq]; exact v_G_7
                · rw [fU_ne e, hG_7, hG_6]; exact  (gset_ne (by simp)).trans ((gset_ne (by simp [e])).trans (hgk j (by omega)))
              have han : Ag r G G_7 := by rw [hG_7, hG_6]; exact hai.st.st
              refine lv_iinc (v := nI (i + 1)) (lv' := [(1, .int (nI (i + 1))), (0, .ref h0)]) hx hb dX3_init_81 hl (k := 1) rfl (nI_add _ 1) (by decide) rfl (fun ls hl => ?_)
              refine lv_goto (tgt := 59) hx hb dX3_init_84 (by decide) ?_
              exact W.widen (by omega) (by omega) (ih59 a1 b1 L3 L4 (fU L5 i q_73) (i + 1) G_7 H locs ls (by omega) (by omega) o_G_7 a_G_7 b_G_7 hgsn hgkn han hI (lv_sub hl [1,0] rfl))
        exact W.widen (by omega) (by omega) (L59 _ a1 b1 L3 L4 (fun _ => 0) 0 G1 H locs ls (Nat.lt_succ_self _) (Nat.zero_le _) hgo (by obtain rfl : i = 44 := (by omega); exact hga) (by rw [fRef_0 (n := 0)]; exact hgb) (fun j hj => hgs j (by omega)) (fun j hj => absurd hj (Nat.not_lt_zero j)) hai hI (lv_sub hl [1,0] rfl))
      · skip
        have c_35 : i < 44 := Nat.not_le.mp (fun z => c_35 ((nI_leI (a := 44) (b := i) (by omega) (by omega)).mpr z))
        refine lv_aload_n hx hb dX3_init_38 rfl (lv_at hl 0 rfl) ?_
        refine g_get S hE hI (C := RX3) (T := TX3) (N := 5) (ref := "StonecutterYard$Stock") (fun w h => (List.mem_cons_of_mem _ (List.mem_append_left _ (List.mem_append_left _ (List.mem_append_right _ h))))) hgo rfl 0 (by decide) (List.mem_cons_of_mem _ (List.mem_append_left _ (List.mem_append_left _ (List.mem_append_left _ (List.mem_of_getElem? (i := 4) rfl))))) (fun _ h9 => h9) (v := .ref a1) rfl dX3_init_39 ?_
        refine lv_iload_n hx hb dX3_init_42 rfl (lv_at hl 1 rfl) ?_
        refine g_new S hE hI hA (C := RX2) (T := TX2) (N := 7) (ci := 3) (fun w h => (List.mem_cons_of_mem _ (List.mem_append_left _ (List.mem_append_right _ h)))) tyX2 tyX2_ok (List.mem_cons_of_mem _ (List.mem_append_left _ (List.mem_append_left _ (List.mem_append_left _ (List.mem_of_getElem? (i := 3) rfl))))) (List.mem_cons_of_mem _ (List.mem_append_left _ (List.mem_append_left _ (List.mem_append_left _ (List.mem_of_getElem? (i := 8) rfl))))) (List.mem_cons_of_mem _ (List.mem_append_left _ (List.mem_append_left _ (List.mem_append_left _ (List.mem_of_getElem? (i := 9) rfl))))) rfl (fs := [.int (nI 0), .int (nI 0), .int (nI 0), .int (nI 0), .int (nI 0), .int (nI 0), .null]) (fun j hj => by rcases (show j = 0 ∨ j = 1 ∨ j = 2 ∨ j = 3 ∨ j = 4 ∨ j = 5 ∨ j = 6 by omega) with rfl | rfl | rfl | rfl | rfl | rfl | rfl <;> rfl) (r, 3, i) (by show _ ≤ 96; omega) (by show _ ≤ 670; omega) dX3_init_43 (fun q_43 H hq_43 hI => ?_)
        obtain ⟨G_8, hG_8⟩ : ∃ z, z = gset G1 (r, 3, i) q_43 (.inr (3, [.int (nI 0), .int (nI 0), .int (nI 0), .int (nI 0), .int (nI 0), .int (nI 0), .null])) := ⟨_, rfl⟩
        have hI : gI K A s G_8 H locs := by rw [hG_8]; exact hI
        have o_G_8 : G_8 (r, 0, 0) = some (h0, .inr (4, [.ref a1, .ref b1, .int (nI 0), .int (nI 0), .int (nI 1)])) := by rw [hG_8, gset_ne (by simp)]; exact hgo
        have a_G_8 : G_8 (r, 1, 0) = some (a1, cR (K.2.1 2) 44 (fRef i L3)) := by rw [hG_8, gset_ne (by simp)]; exact hga
        have b_G_8 : G_8 (r, 2, 0) = some (b1, cR (K.2.1 3) 6 (fun _ => none)) := by rw [hG_8, gset_ne (by simp)]; exact hgb
        have v_G_8 : G_8 (r, 3, i) = some (q_43, .inr (3, [.int (nI 0), .int (nI 0), .int (nI 0), .int (nI 0), .int (nI 0), .int (nI 0), .null])) := by rw [hG_8]; exact gset_eq _ _ _ _
        refine lv_dup hx hb dX3_init_46 rfl ?_
        refine g_callIN (As := []) (rest := [.ref q_43, .int (nI i), .ref a1]) (b := q_43) (n := 0) (host := "StonecutterYard") S hE hI hA (c_X2_init l K _ (r, 3, i) (r, 4, i) q_43 v_G_8 (by simp)) gX3_init_X2_init_n27 rfl (List.mem_cons_of_mem _ (List.mem_append_left _ (List.mem_append_left _ (List.mem_append_left _ (List.mem_of_getElem? (i := 9) rfl))))) (List.mem_of_getElem? (i := 1) rfl) (List.mem_cons_of_mem _ (List.mem_append_left _ (List.mem_append_left _ (List.mem_append_left _ (List.mem_of_getElem? (i := 12) rfl))))) rfl (by decide +kernel) ⟨Nat.le_of_ble_eq_true rfl, Nat.le_of_ble_eq_true rfl⟩ rfl hl.1 rfl (Nat.le_of_ble_eq_true rfl) dX3_init_47 ⟨by show _ ≤ 96; omega, by show _ ≤ 670; omega⟩ (fun E ce q9 Gx H1 locs1 hx9 => hx9.elim) (fun rv Gc_47 H locs hp hI => ?_)
        obtain ⟨rfl, pa, hGc⟩ := hp
        have o_Gc47 : Gc_47 (r, 0, 0) = some (h0, .inr (4, [.ref a1, .ref b1, .int (nI 0), .int (nI 0), .int (nI 1)])) := by rw [hGc, gset_ne (by simp), gset_ne (by simp)]; exact o_G_8
        have a_Gc47 : Gc_47 (r, 1, 0) = some (a1, cR (K.2.1 2) 44 (fRef i L3)) := by rw [hGc, gset_ne (by simp), gset_ne (by simp)]; exact a_G_8
        have b_Gc47 : Gc_47 (r, 2, 0) = some (b1, cR (K.2.1 3) 6 (fun _ => none)) := by rw [hGc, gset_ne (by simp), gset_ne (by simp)]; exact b_G_8
        have v_Gc47 : Gc_47 (r, 3, i) = some (q_43, cS sZ pa) := by rw [hGc]; exact gset_eq _ _ _ _
        have p_Gc47 : Gc_47 (r, 4, i) = some (pa, cI K 6 (fun _ => 0)) := by rw [hGc, gset_ne (by simp)]; exact gset_eq _ _ _ _
        refine W.eq (g2 := F0 m 50 ls [.ref q_43, .int (nI i), .ref a1]) rfl ?_
        refine g_aast S hE hI (j := i) (f := (fRef i L3)) a_Gc47 (k := 2) rfl rfl (g_hro hE hI v_Gc47 rfl) (g_comp hE rfl) rfl (by omega) (by decide) dX3_init_50 (fun H locs hI => ?_)
        rw [fRef_up] at hI
        have hI : gI K A s (gset Gc_47 (r, 1, 0) a1 (cR (K.2.1 2) 44 (fRef (i + 1) (fU L3 i q_43)))) H locs := hI
        obtain ⟨G_9, hG_9⟩ : ∃ z, z = gset Gc_47 (r, 1, 0) a1 (cR (K.2.1 2) 44 (fRef (i + 1) (fU L3 i q_43))) := ⟨_, rfl⟩
        rw [← hG_9] at hI
        have o_G_9 : G_9 (r, 0, 0) = some (h0, .inr (4, [.ref a1, .ref b1, .int (nI 0), .int (nI 0), .int (nI 1)])) := by rw [hG_9, gset_ne (g_tne o_Gc47 a_Gc47 (by simp))]; exact o_Gc47
        have b_G_9 : G_9 (r, 2, 0) = some (b1, cR (K.2.1 3) 6 (fun _ => none)) := by rw [hG_9, gset_ne (g_tne b_Gc47 a_Gc47 (by simp))]; exact b_Gc47
        have v_G_9 : G_9 (r, 3, i) = some (q_43, .inr (3, [.int (nI (sW sZ)), .int (nI (sH sZ)), .int (nI (sG sZ)), .int (sF sZ), .int (nI (sT sZ)), .int (nI ((sL sZ).length)), .ref pa])) := by rw [hG_9, gset_ne (g_tne v_Gc47 a_Gc47 (by simp))]; exact v_Gc47
        have p_G_9 : G_9 (r, 4, i) = some (pa, cI K 6 (fun _ => 0)) := by rw [hG_9, gset_ne (g_tne p_Gc47 a_Gc47 (by simp))]; exact p_Gc47
        have a_G_9 : G_9 (r, 1, 0) = some (a1, cR (K.2.1 2) 44 (fRef (i + 1) (fU L3 i q_43))) := by rw [hG_9]; exact gset_eq _ _ _ _
        have hgsn : ∀ j, j < i + 1 → G_9 (r, 3, j) = some (fU L3 i q_43 j, cS sZ (fU L4 i pa j)) ∧ G_9 (r, 4, j) = some (fU L4 i pa j, cI K 6 (fun _ => 0)) := fun j hj => by
          by_cases e : j = i
          · subst e; rw [fU_eq, fU_eq]; exact ⟨v_G_9, p_G_9⟩
          · rw [fU_ne e, fU_ne e, hG_9, hGc, hG_8]; exact ⟨(gset_ne (by simp)).trans ((gset_ne (by simp [e])).trans ((gset_ne (by simp)).trans ((gset_ne (by simp [e])).trans (hgs j (by omega)).1))), (gset_ne (by simp)).trans ((gset_ne (by simp)).trans ((gset_ne (by simp [e])).trans ((gset_ne (by simp)).trans (hgs j (by omega)).2)))⟩
        have han : Ag r G G_9 := by rw [hG_9, hGc, hG_8]; exact hai.st.st.st.st
        refine lv_iinc (v := nI (i + 1)) (lv' := [(1, .int (nI (i + 1))), (0, .ref h0)]) hx hb dX3_init_51 hl (k := 1) rfl (nI_add _ 1) (by decide) rfl (fun ls hl => ?_)
        refine lv_goto (tgt := 29) hx hb dX3_init_54 (by decide) ?_
        exact W.widen (by omega) (by omega) (ih a1 b1 (fU L3 i q_43) (fU L4 i pa) (i + 1) G_9 H locs ls (by omega) (by omega) o_G_9 a_G_9 b_G_9 hgsn han hI (lv_sub hl [1,0] rfl))
  exact W.widen (by omega) (by omega) (L29 _ q_7 q_16 (fun _ => 0) (fun _ => 0) 0 G_5 H locs ls (Nat.lt_succ_self _) (Nat.zero_le _) o_G_5 (by rw [fRef_0 (n := 0)]; exact q7_G_5) q16_G_5 (fun j hj => absurd hj (Nat.not_lt_zero j)) (by rw [hG_5, hG_4, hG_3, hG_2, hG_1]; exact Ag.rf.st.st.st.st.st) hI (lv_sub hl [1,0] rfl))
