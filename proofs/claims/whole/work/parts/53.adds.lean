/-! lists: what is added, all that is added -/
theorem gset4 {G : gW} {x y : gTag} {a b : Nat} {e e' f f' : va_E} (h : x ≠ y) : gset (gset (gset (gset G x a e) y b f) x a e') y b f' = gset (gset G x a e') y b f' := by
  rw [gset_comm (G := gset G x a e) _ _ _ _ (Ne.symm h), gset_gset, gset_gset]
theorem up_some {g : Nat → Option Nat} {f : Nat → Nat} {n v : Nat} (h : ∀ j, j < n → g j = some (f j)) {j : Nat} (hj : j < n + 1) : va_up g n (some v) j = some (fU f n v j) := by
  by_cases e : j = n
  · subst e
    rw [fU_eq]
    exact if_pos rfl
  · rw [fU_ne e]
    exact (if_neg e).trans (h j (by omega))
set_option maxHeartbeats 4000000 in
set_option maxRecDepth 100000 in
/-- ArrayList.grow() of an empty list -/
theorem c_grow1E (l : Launch) (K : gK) (G : gW) (t td : gTag) (h : Nat) (mod : Int32) (hg : G t = some (h, cL mod K.2.2.1 0)) (hne : t ≠ td) : gM l yJx4a65c_grow_d5877 wsJx4a65c_grow_d5877 3 63 1 10 K [.ref h] G (fun r G1 => ∃ q, r = some (.ref q) ∧ G1 = gset (gset G td q (cR (K.2.1 4) 10 (fun _ => none))) t h (cL mod q 0)) (gNo) := by
  refine gM.of (cc := cJx4a65c_grow_d5877) (maxL := 1) (ret := (some (.array (.object "java/lang/Object")))) (by decide) rfl (Nat.le_of_ble_eq_true rfl) ?_
  intro p e s m below meth c A S hr hlocks htab hname hE hA hI ls hl
  have hx := S.1
  have hb := S.2.1
  have hml := S.2.2.1
  have hl : lv_has ls 1 [(0, .ref h)] := hl
  obtain ⟨H, hHe⟩ : ∃ z, z = s.heap := ⟨_, rfl⟩
  obtain ⟨locs, hLe⟩ : ∃ z : List Loc, z = [] := ⟨_, rfl⟩
  rw [← hHe, ← hLe]
  have hI : gI K A s G H locs := by rw [hHe, hLe]; exact hI
  clear hHe hLe
  refine lv_aload_n hx hb dJx4a65c_grow_d5877_0 rfl (lv_at hl 0 rfl) ?_
  refine lv_aload_n hx hb dJx4a65c_grow_d5877_1 rfl (lv_at hl 0 rfl) ?_
  refine g_get S hE hI (C := RJx4a65c) (T := TJx4a65c) (N := 3) (ref := "java/util/ArrayList") (fun w h => (List.mem_cons_of_mem _ (List.mem_append_right _ h))) hg rfl 2 (by decide) (List.mem_cons_of_mem _ (List.mem_append_left _ (List.mem_append_left _ (List.mem_of_getElem? (i := 0) rfl)))) (fun _ h9 => h9) (v := .int (nI 0)) rfl dJx4a65c_grow_d5877_2 ?_
  refine lv_iconst (v := nI 1) hx hb dJx4a65c_grow_d5877_5 (by decide) ?_
  refine t_iadd hx hb dJx4a65c_grow_d5877_6 (nI_add _ _) ?_
  refine g_callV (As := [.int (nI (0 + 1))]) (rest := []) (b := h) (n := 1) S hE hI hA (c_growE l K _ t td h mod 1 hg hne (by decide)) gJx4a65c_grow_d5877_Jx4a65c_grow_92f84 rfl (by decide +kernel) ⟨Nat.le_of_ble_eq_true rfl, Nat.le_of_ble_eq_true rfl⟩ (g_hro hE hI hg rfl) rfl hl.1 rfl (Nat.le_of_ble_eq_true rfl) dJx4a65c_grow_d5877_7 ⟨by show _ ≤ 1; omega, by show _ ≤ 10; omega⟩ (fun E ce q9 Gx H1 locs1 hx9 => hx9.elim) (fun rv Gc_7 H locs hp hI => ?_)
  obtain ⟨q, rfl, hGc⟩ := hp
  refine W.eq (g2 := F0 m 10 ls [.ref q]) rfl ?_
  exact g_aret S hI hr (Or.inr ⟨_, rfl⟩) (Or.inr ⟨_, rfl⟩) hlocks (by omega) (by omega) dJx4a65c_grow_d5877_10 ⟨q, rfl, hGc⟩
set_option maxHeartbeats 4000000 in
set_option maxRecDepth 100000 in
/-- ArrayList.grow() of a full list -/
theorem c_grow1O (l : Launch) (K : gK) (G : gW) (t tc td : gTag) (h n : Nat) (mod : Int32) (ar cap : Nat) (g : Nat → Option Nat) (C : String) (hg : G t = some (h, cL mod ar n)) (hg2 : G tc = some (ar, cR (K.2.1 4) cap g)) (hcap : 10 ≤ cap ∧ cap ≤ 40 ∧ n = cap) (hne : t ≠ td ∧ tc ≠ td) (hC : (C, "java/lang/Object") ∈ gCas) (hel : ∀ i, i < cap → ∀ y, g i = some y → ∃ u e, u ≠ td ∧ G u = some (y, e) ∧ isC K C e) : gM l yJx4a65c_grow_d5877 wsJx4a65c_grow_d5877 5 107 1 60 K [.ref h] G (fun r G1 => ∃ q, r = some (.ref q) ∧ G1 = gset (gset G td q (cR (K.2.1 4) (cap + max 1 (cap / 2)) (va_cpy g (fun _ => none) 0 0 cap))) t h (cL mod q n)) (gNo) := by
  refine gM.of (cc := cJx4a65c_grow_d5877) (maxL := 1) (ret := (some (.array (.object "java/lang/Object")))) (by decide) rfl (Nat.le_of_ble_eq_true rfl) ?_
  intro p e s m below meth c A S hr hlocks htab hname hE hA hI ls hl
  have hx := S.1
  have hb := S.2.1
  have hml := S.2.2.1
  have hl : lv_has ls 1 [(0, .ref h)] := hl
  obtain ⟨H, hHe⟩ : ∃ z, z = s.heap := ⟨_, rfl⟩
  obtain ⟨locs, hLe⟩ : ∃ z : List Loc, z = [] := ⟨_, rfl⟩
  rw [← hHe, ← hLe]
  have hI : gI K A s G H locs := by rw [hHe, hLe]; exact hI
  clear hHe hLe
  refine lv_aload_n hx hb dJx4a65c_grow_d5877_0 rfl (lv_at hl 0 rfl) ?_
  refine lv_aload_n hx hb dJx4a65c_grow_d5877_1 rfl (lv_at hl 0 rfl) ?_
  refine g_get S hE hI (C := RJx4a65c) (T := TJx4a65c) (N := 3) (ref := "java/util/ArrayList") (fun w h => (List.mem_cons_of_mem _ (List.mem_append_right _ h))) hg rfl 2 (by decide) (List.mem_cons_of_mem _ (List.mem_append_left _ (List.mem_append_left _ (List.mem_of_getElem? (i := 0) rfl)))) (fun _ h9 => h9) (v := .int (nI n)) rfl dJx4a65c_grow_d5877_2 ?_
  refine lv_iconst (v := nI 1) hx hb dJx4a65c_grow_d5877_5 (by decide) ?_
  refine t_iadd hx hb dJx4a65c_grow_d5877_6 (nI_add _ _) ?_
  refine g_callV (As := [.int (nI (n + 1))]) (rest := []) (b := h) (n := 1) S hE hI hA (c_growO l K _ t tc td h n mod ar cap g (n + 1) C hg hg2 ⟨by omega, by omega, by omega, by omega, by omega⟩ hne hC hel) gJx4a65c_grow_d5877_Jx4a65c_grow_92f84 rfl (by decide +kernel) ⟨Nat.le_of_ble_eq_true rfl, Nat.le_of_ble_eq_true rfl⟩ (g_hro hE hI hg rfl) rfl hl.1 rfl (Nat.le_of_ble_eq_true rfl) dJx4a65c_grow_d5877_7 ⟨by show _ ≤ 1; omega, by show _ ≤ 60; omega⟩ (fun E ce q9 Gx H1 locs1 hx9 => hx9.elim) (fun rv Gc_7 H locs hp hI => ?_)
  obtain ⟨q, rfl, hGc⟩ := hp
  refine W.eq (g2 := F0 m 10 ls [.ref q]) rfl ?_
  rw [show n + 1 - cap = 1 by omega] at hGc
  exact g_aret S hI hr (Or.inr ⟨_, rfl⟩) (Or.inr ⟨_, rfl⟩) hlocks (by omega) (by omega) dJx4a65c_grow_d5877_10 ⟨q, rfl, hGc⟩
set_option maxHeartbeats 4000000 in
set_option maxRecDepth 100000 in
/-- ArrayList.add(e, elementData, s) to an empty list -/
theorem c_add0E (l : Launch) (K : gK) (G : gW) (t td : gTag) (h : Nat) (mod : Int32) (C : String) (v : Nat) (u : gTag) (ve : va_E) (hg : G t = some (h, cL mod K.2.2.1 0)) (hne : t ≠ td) (hu : G u = some (v, ve)) (hv : isC K C ve) (hut : u ≠ t) (hud : u ≠ td) : gM l yJx4a65c_add_72be8 wsJx4a65c_add_72be8 4 83 1 10 K [.ref h, .ref v, .ref K.2.2.1, .int (nI 0)] G (fun r G1 => r = none ∧ ∃ q, G1 = gset (gset G td q (cR (K.2.1 4) 10 (va_up (fun _ => none) 0 (some v)))) t h (cL mod q 1)) (gNo) := by
  refine gM.of (cc := cJx4a65c_add_72be8) (maxL := 4) (ret := none) (by decide) rfl (Nat.le_of_ble_eq_true rfl) ?_
  intro p e s m below meth c A S hr hlocks htab hname hE hA hI ls hl
  have hx := S.1
  have hb := S.2.1
  have hml := S.2.2.1
  have hl : lv_has ls 4 [(0, .ref h), (1, .ref v), (2, .ref K.2.2.1), (3, .int (nI 0))] := hl
  obtain ⟨H, hHe⟩ : ∃ z, z = s.heap := ⟨_, rfl⟩
  obtain ⟨locs, hLe⟩ : ∃ z : List Loc, z = [] := ⟨_, rfl⟩
  rw [← hHe, ← hLe]
  have hI : gI K A s G H locs := by rw [hHe, hLe]; exact hI
  clear hHe hLe
  refine lv_iload_n hx hb dJx4a65c_add_72be8_0 rfl (lv_at hl 3 rfl) ?_
  refine lv_aload_n hx hb dJx4a65c_add_72be8_1 rfl (lv_at hl 2 rfl) ?_
  refine g_tlen S hE hI dJx4a65c_add_72be8_2 ?_
  refine lv_icmp_ne (tgt := 11) hx hb dJx4a65c_add_72be8_3 (by decide) (fun c_3 => ?_) (fun c_3 => ?_)
  · skip
    have c_3 : 0 ≠ 0 := fun z => c_3 ((nI_eq (a := 0) (b := 0) (by omega) (by omega)).mpr z)
    exact absurd rfl c_3
  · skip
    have c_3 : 0 = 0 := (nI_eq (a := 0) (b := 0) (by omega) (by omega)).mp c_3
    refine lv_aload_n hx hb dJx4a65c_add_72be8_6 rfl (lv_at hl 0 rfl) ?_
    refine g_callV (As := []) (rest := []) (b := h) (n := 0) S hE hI hA (c_grow1E l K _ t td h mod hg hne) gJx4a65c_add_72be8_Jx4a65c_grow_d5877 rfl (by decide +kernel) ⟨Nat.le_of_ble_eq_true rfl, Nat.le_of_ble_eq_true rfl⟩ (g_hro hE hI hg rfl) rfl hl.1 rfl (Nat.le_of_ble_eq_true rfl) dJx4a65c_add_72be8_7 ⟨by show _ ≤ 1; omega, by show _ ≤ 10; omega⟩ (fun E ce q9 Gx H1 locs1 hx9 => hx9.elim) (fun rv Gc_7 H locs hp hI => ?_)
    obtain ⟨q, rfl, hGc⟩ := hp
    have ho1 : Gc_7 t = some (h, cL mod q 0) := by rw [hGc]; exact gset_eq _ _ _ _
    have hd1 : Gc_7 td = some (q, cR (K.2.1 4) 10 (fun _ => none)) := by rw [hGc, gset_ne (Ne.symm hne)]; exact gset_eq _ _ _ _
    have hu1 : Gc_7 u = some (v, ve) := by rw [hGc, gset_ne hut, gset_ne hud]; exact hu
    refine W.eq (g2 := F0 m 10 ls [.ref q]) rfl ?_
    refine lv_astore_n (lv' := [(2, .ref q), (0, .ref h), (1, .ref v), (3, .int (nI 0))]) hx hb dJx4a65c_add_72be8_10 rfl hl (by decide) rfl (fun ls hl => ?_)
    refine lv_aload_n hx hb dJx4a65c_add_72be8_11 rfl (lv_at hl 0 rfl) ?_
    refine lv_iload_n hx hb dJx4a65c_add_72be8_12 rfl (lv_at hl 3 rfl) ?_
    refine lv_aload_n hx hb dJx4a65c_add_72be8_13 rfl (lv_at hl 2 rfl) ?_
    refine g_aast S hE hI (j := 0) (f := (fun _ => none)) hd1 (k := 4) rfl rfl (hv.cell hE hI hu1) (hv.comp hE) rfl (by decide) (by decide) dJx4a65c_add_72be8_14 (fun H locs hI => ?_)
    have hI : gI K A s (gset Gc_7 td q (cR (K.2.1 4) 10 (va_up (fun _ => none) 0 (some v)))) H locs := hI
    obtain ⟨G_1, hG_1⟩ : ∃ z, z = gset Gc_7 td q (cR (K.2.1 4) 10 (va_up (fun _ => none) 0 (some v))) := ⟨_, rfl⟩
    rw [← hG_1] at hI
    have o_G_1 : G_1 t = some (h, .inr (0, [.int mod, .ref q, .int (nI 0)])) := by rw [hG_1, gset_ne hne]; exact ho1
    have d_G_1 : G_1 td = some (q, cR (K.2.1 4) 10 (va_up (fun _ => none) 0 (some v))) := by rw [hG_1]; exact gset_eq _ _ _ _
    refine lv_aload_n hx hb dJx4a65c_add_72be8_15 rfl (lv_at hl 1 rfl) ?_
    refine lv_iload_n hx hb dJx4a65c_add_72be8_16 rfl (lv_at hl 3 rfl) ?_
    refine lv_iconst (v := nI 1) hx hb dJx4a65c_add_72be8_17 (by decide) ?_
    refine t_iadd hx hb dJx4a65c_add_72be8_18 (nI_add _ _) ?_
    refine g_put S hE hI (C := RJx4a65c) (T := TJx4a65c) (N := 3) (ref := "java/util/ArrayList") (fun w h => (List.mem_cons_of_mem _ (List.mem_append_right _ h))) tyJx4a65c tyJx4a65c_ok nmJx4a65c o_G_1 rfl 2 (by decide) (List.mem_cons_of_mem _ (List.mem_append_left _ (List.mem_append_left _ (List.mem_of_getElem? (i := 0) rfl)))) (fun _ h9 => h9) rfl rfl rfl (Nat.le_of_ble_eq_true rfl) dJx4a65c_add_72be8_19 (fun H locs hI => ?_)
    have hI : gI K A s (gset G_1 t h (.inr (0, [.int mod, .ref q, .int (nI (0 + 1))]))) H locs := hI
    obtain ⟨G_2, hG_2⟩ : ∃ z, z = gset G_1 t h (.inr (0, [.int mod, .ref q, .int (nI (0 + 1))])) := ⟨_, rfl⟩
    rw [← hG_2] at hI
    have d_G_2 : G_2 td = some (q, cR (K.2.1 4) 10 (va_up (fun _ => none) 0 (some v))) := by rw [hG_2, gset_ne (Ne.symm hne)]; exact d_G_1
    have o_G_2 : G_2 t = some (h, .inr (0, [.int mod, .ref q, .int (nI (0 + 1))])) := by rw [hG_2]; exact gset_eq _ _ _ _
    exact g_vret S hI hr hlocks (by omega) (by omega) dJx4a65c_add_72be8_22 ⟨rfl, q, by rw [hG_2, hG_1, hGc, gset4 (Ne.symm hne)]⟩
set_option maxHeartbeats 4000000 in
set_option maxRecDepth 100000 in
/-- ArrayList.add(e, elementData, s) where there is room -/
theorem c_add0B (l : Launch) (K : gK) (G : gW) (t tc : gTag) (h n : Nat) (mod : Int32) (ar cap : Nat) (g : Nat → Option Nat) (C : String) (v : Nat) (u : gTag) (ve : va_E) (hg : G t = some (h, cL mod ar n)) (hg2 : G tc = some (ar, cR (K.2.1 4) cap g)) (hn : n < cap ∧ cap ≤ 200) (hne : t ≠ tc) (hu : G u = some (v, ve)) (hv : isC K C ve) : gM l yJx4a65c_add_72be8 wsJx4a65c_add_72be8 2 40 0 0 K [.ref h, .ref v, .ref ar, .int (nI n)] G (fun r G1 => r = none ∧ G1 = gset (gset G tc ar (cR (K.2.1 4) cap (va_up g n (some v)))) t h (cL mod ar (n + 1))) (gNo) := by
  refine gM.of (cc := cJx4a65c_add_72be8) (maxL := 4) (ret := none) (by decide) rfl (Nat.le_of_ble_eq_true rfl) ?_
  intro p e s m below meth c A S hr hlocks htab hname hE hA hI ls hl
  have hx := S.1
  have hb := S.2.1
  have hml := S.2.2.1
  have hl : lv_has ls 4 [(0, .ref h), (1, .ref v), (2, .ref ar), (3, .int (nI n))] := hl
  obtain ⟨H, hHe⟩ : ∃ z, z = s.heap := ⟨_, rfl⟩
  obtain ⟨locs, hLe⟩ : ∃ z : List Loc, z = [] := ⟨_, rfl⟩
  rw [← hHe, ← hLe]
  have hI : gI K A s G H locs := by rw [hHe, hLe]; exact hI
  clear hHe hLe
  refine lv_iload_n hx hb dJx4a65c_add_72be8_0 rfl (lv_at hl 3 rfl) ?_
  refine lv_aload_n hx hb dJx4a65c_add_72be8_1 rfl (lv_at hl 2 rfl) ?_
  refine g_alen S hE hI (k := 4) hg2 rfl (v := nI cap) rfl dJx4a65c_add_72be8_2 ?_
  refine lv_icmp_ne (tgt := 11) hx hb dJx4a65c_add_72be8_3 (by decide) (fun c_3 => ?_) (fun c_3 => ?_)
  · skip
    have c_3 : n ≠ cap := fun z => c_3 ((nI_eq (a := n) (b := cap) (by omega) (by omega)).mpr z)
    refine lv_aload_n hx hb dJx4a65c_add_72be8_11 rfl (lv_at hl 2 rfl) ?_
    refine lv_iload_n hx hb dJx4a65c_add_72be8_12 rfl (lv_at hl 3 rfl) ?_
    refine lv_aload_n hx hb dJx4a65c_add_72be8_13 rfl (lv_at hl 1 rfl) ?_
    refine g_aast S hE hI (j := n) (f := g) hg2 (k := 4) rfl rfl (hv.cell hE hI hu) (hv.comp hE) rfl (by omega) (by omega) dJx4a65c_add_72be8_14 (fun H locs hI => ?_)
    have hI : gI K A s (gset G tc ar (cR (K.2.1 4) cap (va_up g n (some v)))) H locs := hI
    obtain ⟨G_1, hG_1⟩ : ∃ z, z = gset G tc ar (cR (K.2.1 4) cap (va_up g n (some v))) := ⟨_, rfl⟩
    rw [← hG_1] at hI
    have o_G_1 : G_1 t = some (h, .inr (0, [.int mod, .ref ar, .int (nI n)])) := by rw [hG_1, gset_ne hne]; exact hg
    have a_G_1 : G_1 tc = some (ar, cR (K.2.1 4) cap (va_up g n (some v))) := by rw [hG_1]; exact gset_eq _ _ _ _
    refine lv_aload_n hx hb dJx4a65c_add_72be8_15 rfl (lv_at hl 0 rfl) ?_
    refine lv_iload_n hx hb dJx4a65c_add_72be8_16 rfl (lv_at hl 3 rfl) ?_
    refine lv_iconst (v := nI 1) hx hb dJx4a65c_add_72be8_17 (by decide) ?_
    refine t_iadd hx hb dJx4a65c_add_72be8_18 (nI_add _ _) ?_
    refine g_put S hE hI (C := RJx4a65c) (T := TJx4a65c) (N := 3) (ref := "java/util/ArrayList") (fun w h => (List.mem_cons_of_mem _ (List.mem_append_right _ h))) tyJx4a65c tyJx4a65c_ok nmJx4a65c o_G_1 rfl 2 (by decide) (List.mem_cons_of_mem _ (List.mem_append_left _ (List.mem_append_left _ (List.mem_of_getElem? (i := 0) rfl)))) (fun _ h9 => h9) rfl rfl rfl (Nat.le_of_ble_eq_true rfl) dJx4a65c_add_72be8_19 (fun H locs hI => ?_)
    have hI : gI K A s (gset G_1 t h (.inr (0, [.int mod, .ref ar, .int (nI (n + 1))]))) H locs := hI
    obtain ⟨G_2, hG_2⟩ : ∃ z, z = gset G_1 t h (.inr (0, [.int mod, .ref ar, .int (nI (n + 1))])) := ⟨_, rfl⟩
    rw [← hG_2] at hI
    have a_G_2 : G_2 tc = some (ar, cR (K.2.1 4) cap (va_up g n (some v))) := by rw [hG_2, gset_ne (Ne.symm hne)]; exact a_G_1
    have o_G_2 : G_2 t = some (h, .inr (0, [.int mod, .ref ar, .int (nI (n + 1))])) := by rw [hG_2]; exact gset_eq _ _ _ _
    exact g_vret S hI hr hlocks (Nat.zero_le _) (Nat.zero_le _) dJx4a65c_add_72be8_22 ⟨rfl, by rw [hG_2, hG_1]⟩
  · skip
    have c_3 : n = cap := (nI_eq (a := n) (b := cap) (by omega) (by omega)).mp c_3
    exact absurd c_3 (by omega)
set_option maxHeartbeats 4000000 in
set_option maxRecDepth 100000 in
/-- ArrayList.add(e, elementData, s) to a full list -/
theorem c_add0C (l : Launch) (K : gK) (G : gW) (t tc td : gTag) (h n : Nat) (mod : Int32) (ar cap : Nat) (g : Nat → Option Nat) (C : String) (v : Nat) (u : gTag) (ve : va_E) (hg : G t = some (h, cL mod ar n)) (hg2 : G tc = some (ar, cR (K.2.1 4) cap g)) (hcap : 10 ≤ cap ∧ cap ≤ 40 ∧ n = cap) (hne : t ≠ td ∧ tc ≠ td) (hC : (C, "java/lang/Object") ∈ gCas) (hel : ∀ i, i < cap → ∀ y, g i = some y → ∃ u e, u ≠ td ∧ G u = some (y, e) ∧ isC K C e) (hu : G u = some (v, ve)) (hv : isC K C ve) (hut : u ≠ t) (hud : u ≠ td) : gM l yJx4a65c_add_72be8 wsJx4a65c_add_72be8 6 127 1 60 K [.ref h, .ref v, .ref ar, .int (nI n)] G (fun r G1 => r = none ∧ ∃ q, G1 = gset (gset G td q (cR (K.2.1 4) (cap + max 1 (cap / 2)) (va_up (va_cpy g (fun _ => none) 0 0 cap) n (some v)))) t h (cL mod q (n + 1))) (gNo) := by
  refine gM.of (cc := cJx4a65c_add_72be8) (maxL := 4) (ret := none) (by decide) rfl (Nat.le_of_ble_eq_true rfl) ?_
  intro p e s m below meth c A S hr hlocks htab hname hE hA hI ls hl
  have hx := S.1
  have hb := S.2.1
  have hml := S.2.2.1
  have hl : lv_has ls 4 [(0, .ref h), (1, .ref v), (2, .ref ar), (3, .int (nI n))] := hl
  obtain ⟨H, hHe⟩ : ∃ z, z = s.heap := ⟨_, rfl⟩
  obtain ⟨locs, hLe⟩ : ∃ z : List Loc, z = [] := ⟨_, rfl⟩
  rw [← hHe, ← hLe]
  have hI : gI K A s G H locs := by rw [hHe, hLe]; exact hI
  clear hHe hLe
  refine lv_iload_n hx hb dJx4a65c_add_72be8_0 rfl (lv_at hl 3 rfl) ?_
  refine lv_aload_n hx hb dJx4a65c_add_72be8_1 rfl (lv_at hl 2 rfl) ?_
  refine g_alen S hE hI (k := 4) hg2 rfl (v := nI cap) rfl dJx4a65c_add_72be8_2 ?_
  refine lv_icmp_ne (tgt := 11) hx hb dJx4a65c_add_72be8_3 (by decide) (fun c_3 => ?_) (fun c_3 => ?_)
  · skip
    have c_3 : n ≠ cap := fun z => c_3 ((nI_eq (a := n) (b := cap) (by omega) (by omega)).mpr z)
    exact absurd hcap.2.2 c_3
  · skip
    have c_3 : n = cap := (nI_eq (a := n) (b := cap) (by omega) (by omega)).mp c_3
    refine lv_aload_n hx hb dJx4a65c_add_72be8_6 rfl (lv_at hl 0 rfl) ?_
    refine g_callV (As := []) (rest := []) (b := h) (n := 0) S hE hI hA (c_grow1O l K _ t tc td h n mod ar cap g C hg hg2 hcap hne hC hel) gJx4a65c_add_72be8_Jx4a65c_grow_d5877 rfl (by decide +kernel) ⟨Nat.le_of_ble_eq_true rfl, Nat.le_of_ble_eq_true rfl⟩ (g_hro hE hI hg rfl) rfl hl.1 rfl (Nat.le_of_ble_eq_true rfl) dJx4a65c_add_72be8_7 ⟨by show _ ≤ 1; omega, by show _ ≤ 60; omega⟩ (fun E ce q9 Gx H1 locs1 hx9 => hx9.elim) (fun rv Gc_7 H locs hp hI => ?_)
    obtain ⟨q, rfl, hGc⟩ := hp
    have ho1 : Gc_7 t = some (h, cL mod q n) := by rw [hGc]; exact gset_eq _ _ _ _
    have hd1 : Gc_7 td = some (q, cR (K.2.1 4) (cap + max 1 (cap / 2)) (va_cpy g (fun _ => none) 0 0 cap)) := by rw [hGc, gset_ne (Ne.symm hne.1)]; exact gset_eq _ _ _ _
    have hu1 : Gc_7 u = some (v, ve) := by rw [hGc, gset_ne hut, gset_ne hud]; exact hu
    refine W.eq (g2 := F0 m 10 ls [.ref q]) rfl ?_
    refine lv_astore_n (lv' := [(2, .ref q), (0, .ref h), (1, .ref v), (3, .int (nI n))]) hx hb dJx4a65c_add_72be8_10 rfl hl (by decide) rfl (fun ls hl => ?_)
    refine lv_aload_n hx hb dJx4a65c_add_72be8_11 rfl (lv_at hl 0 rfl) ?_
    refine lv_iload_n hx hb dJx4a65c_add_72be8_12 rfl (lv_at hl 3 rfl) ?_
    refine lv_aload_n hx hb dJx4a65c_add_72be8_13 rfl (lv_at hl 2 rfl) ?_
    refine g_aast S hE hI (j := n) (f := (va_cpy g (fun _ => none) 0 0 cap)) hd1 (k := 4) rfl rfl (hv.cell hE hI hu1) (hv.comp hE) rfl (by omega) (by omega) dJx4a65c_add_72be8_14 (fun H locs hI => ?_)
    have hI : gI K A s (gset Gc_7 td q (cR (K.2.1 4) (cap + max 1 (cap / 2)) (va_up (va_cpy g (fun _ => none) 0 0 cap) n (some v)))) H locs := hI
    obtain ⟨G_1, hG_1⟩ : ∃ z, z = gset Gc_7 td q (cR (K.2.1 4) (cap + max 1 (cap / 2)) (va_up (va_cpy g (fun _ => none) 0 0 cap) n (some v))) := ⟨_, rfl⟩
    rw [← hG_1] at hI
    have o_G_1 : G_1 t = some (h, .inr (0, [.int mod, .ref q, .int (nI n)])) := by rw [hG_1, gset_ne hne.1]; exact ho1
    have d_G_1 : G_1 td = some (q, cR (K.2.1 4) (cap + max 1 (cap / 2)) (va_up (va_cpy g (fun _ => none) 0 0 cap) n (some v))) := by rw [hG_1]; exact gset_eq _ _ _ _
    refine lv_aload_n hx hb dJx4a65c_add_72be8_15 rfl (lv_at hl 1 rfl) ?_
    refine lv_iload_n hx hb dJx4a65c_add_72be8_16 rfl (lv_at hl 3 rfl) ?_
    refine lv_iconst (v := nI 1) hx hb dJx4a65c_add_72be8_17 (by decide) ?_
    refine t_iadd hx hb dJx4a65c_add_72be8_18 (nI_add _ _) ?_
    refine g_put S hE hI (C := RJx4a65c) (T := TJx4a65c) (N := 3) (ref := "java/util/ArrayList") (fun w h => (List.mem_cons_of_mem _ (List.mem_append_right _ h))) tyJx4a65c tyJx4a65c_ok nmJx4a65c o_G_1 rfl 2 (by decide) (List.mem_cons_of_mem _ (List.mem_append_left _ (List.mem_append_left _ (List.mem_of_getElem? (i := 0) rfl)))) (fun _ h9 => h9) rfl rfl rfl (Nat.le_of_ble_eq_true rfl) dJx4a65c_add_72be8_19 (fun H locs hI => ?_)
    have hI : gI K A s (gset G_1 t h (.inr (0, [.int mod, .ref q, .int (nI (n + 1))]))) H locs := hI
    obtain ⟨G_2, hG_2⟩ : ∃ z, z = gset G_1 t h (.inr (0, [.int mod, .ref q, .int (nI (n + 1))])) := ⟨_, rfl⟩
    rw [← hG_2] at hI
    have d_G_2 : G_2 td = some (q, cR (K.2.1 4) (cap + max 1 (cap / 2)) (va_up (va_cpy g (fun _ => none) 0 0 cap) n (some v))) := by rw [hG_2, gset_ne (Ne.symm hne.1)]; exact d_G_1
    have o_G_2 : G_2 t = some (h, .inr (0, [.int mod, .ref q, .int (nI (n + 1))])) := by rw [hG_2]; exact gset_eq _ _ _ _
    exact g_vret S hI hr hlocks (by omega) (by omega) dJx4a65c_add_72be8_22 ⟨rfl, q, by rw [hG_2, hG_1, hGc, gset4 (Ne.symm hne.1)]⟩
set_option maxHeartbeats 4000000 in
set_option maxRecDepth 100000 in
/-- ArrayList.add(e) to an empty list -/
theorem c_addA (l : Launch) (K : gK) (G : gW) (t : gTag) (tb : Bool → gTag) (C : String) (h n v : Nat) (f : Nat → Nat) (u : gTag) (ve : va_E) (mod : Int32) (hap : apart t tb) (hu : G u = some (v, ve)) (hv : isC K C ve) (hut : u ≠ t) (hub : ∀ b, u ≠ tb b) (hg : G t = some (h, cL mod K.2.2.1 0)) (hn0 : n = 0) : gM l yJx4a65c_add_9ea2d wsJx4a65c_add_9ea2d 7 150 1 60 K [.ref h, .ref v] G (fun r G1 => r = some (.int (nI 1)) ∧ ALg K t tb G1 h (n + 1) (fU f n v) ∧ off3 t tb G G1) (gNo) := by
  refine gM.of (cc := cJx4a65c_add_9ea2d) (maxL := 2) (ret := (some .boolean)) (by decide) rfl (Nat.le_of_ble_eq_true rfl) ?_
  intro p e s m below meth c A S hr hlocks htab hname hE hA hI ls hl
  have hx := S.1
  have hb := S.2.1
  have hml := S.2.2.1
  have hl : lv_has ls 2 [(0, .ref h), (1, .ref v)] := hl
  obtain ⟨H, hHe⟩ : ∃ z, z = s.heap := ⟨_, rfl⟩
  obtain ⟨locs, hLe⟩ : ∃ z : List Loc, z = [] := ⟨_, rfl⟩
  rw [← hHe, ← hLe]
  have hI : gI K A s G H locs := by rw [hHe, hLe]; exact hI
  clear hHe hLe
  refine lv_aload_n hx hb dJx4a65c_add_9ea2d_0 rfl (lv_at hl 0 rfl) ?_
  refine lv_dup hx hb dJx4a65c_add_9ea2d_1 rfl ?_
  refine g_get S hE hI (C := RJx4a65c) (T := TJx4a65c) (N := 3) (ref := "java/util/ArrayList") (fun w h => (List.mem_cons_of_mem _ (List.mem_append_right _ h))) hg rfl 0 (by decide) (List.mem_cons_of_mem _ (List.mem_append_left _ (List.mem_append_left _ (List.mem_of_getElem? (i := 0) rfl)))) (fun x9 h9 => u_same (S.2.2.2.2 _ (List.mem_cons_of_mem _ (List.mem_append_left _ (List.mem_append_left _ (List.mem_of_getElem? (i := 1) rfl))))) x9 h9) (v := .int mod) rfl dJx4a65c_add_9ea2d_2 ?_
  refine lv_iconst (v := nI 1) hx hb dJx4a65c_add_9ea2d_5 (by decide) ?_
  refine lv_iadd hx hb dJx4a65c_add_9ea2d_6 ?_
  refine g_put S hE hI (C := RJx4a65c) (T := TJx4a65c) (N := 3) (ref := "java/util/ArrayList") (fun w h => (List.mem_cons_of_mem _ (List.mem_append_right _ h))) tyJx4a65c tyJx4a65c_ok nmJx4a65c hg rfl 0 (by decide) (List.mem_cons_of_mem _ (List.mem_append_left _ (List.mem_append_left _ (List.mem_of_getElem? (i := 0) rfl)))) (fun x9 h9 => u_same (S.2.2.2.2 _ (List.mem_cons_of_mem _ (List.mem_append_left _ (List.mem_append_left _ (List.mem_of_getElem? (i := 1) rfl))))) x9 h9) rfl rfl rfl (Nat.le_of_ble_eq_true rfl) dJx4a65c_add_9ea2d_7 (fun H locs hI => ?_)
  have hI : gI K A s (gset G t h (.inr (0, [.int (mod + (nI 1)), .ref K.2.2.1, .int (nI 0)]))) H locs := hI
  obtain ⟨G_1, hG_1⟩ : ∃ z, z = gset G t h (.inr (0, [.int (mod + (nI 1)), .ref K.2.2.1, .int (nI 0)])) := ⟨_, rfl⟩
  rw [← hG_1] at hI
  have o_G_1 : G_1 t = some (h, .inr (0, [.int (mod + (nI 1)), .ref K.2.2.1, .int (nI 0)])) := by rw [hG_1]; exact gset_eq _ _ _ _
  refine lv_aload_n hx hb dJx4a65c_add_9ea2d_10 rfl (lv_at hl 0 rfl) ?_
  refine lv_aload_n hx hb dJx4a65c_add_9ea2d_11 rfl (lv_at hl 1 rfl) ?_
  refine lv_aload_n hx hb dJx4a65c_add_9ea2d_12 rfl (lv_at hl 0 rfl) ?_
  refine g_get S hE hI (C := RJx4a65c) (T := TJx4a65c) (N := 3) (ref := "java/util/ArrayList") (fun w h => (List.mem_cons_of_mem _ (List.mem_append_right _ h))) o_G_1 rfl 1 (by decide) (List.mem_cons_of_mem _ (List.mem_append_left _ (List.mem_append_left _ (List.mem_of_getElem? (i := 2) rfl)))) (fun _ h9 => h9) (v := .ref K.2.2.1) rfl dJx4a65c_add_9ea2d_13 ?_
  refine lv_aload_n hx hb dJx4a65c_add_9ea2d_16 rfl (lv_at hl 0 rfl) ?_
  refine g_get S hE hI (C := RJx4a65c) (T := TJx4a65c) (N := 3) (ref := "java/util/ArrayList") (fun w h => (List.mem_cons_of_mem _ (List.mem_append_right _ h))) o_G_1 rfl 2 (by decide) (List.mem_cons_of_mem _ (List.mem_append_left _ (List.mem_append_left _ (List.mem_of_getElem? (i := 3) rfl)))) (fun _ h9 => h9) (v := .int (nI 0)) rfl dJx4a65c_add_9ea2d_17 ?_
  refine g_callV (As := [.ref v, .ref K.2.2.1, .int (nI 0)]) (rest := []) (b := h) (n := 3) S hE hI hA (c_add0E l K _ t (tb true) h (mod + nI 1) C v u ve o_G_1 (hap.1 true) (by rw [hG_1, gset_ne hut]; exact hu) hv hut (hub true)) gJx4a65c_add_9ea2d_Jx4a65c_add_72be8 rfl (by decide +kernel) ⟨Nat.le_of_ble_eq_true rfl, Nat.le_of_ble_eq_true rfl⟩ (g_hro hE hI o_G_1 rfl) rfl hl.1 rfl (Nat.le_of_ble_eq_true rfl) dJx4a65c_add_9ea2d_20 ⟨by show _ ≤ 1; omega, by show _ ≤ 60; omega⟩ (fun E ce q9 Gx H1 locs1 hx9 => hx9.elim) (fun rv Gc_20 H locs hp hI => ?_)
  obtain ⟨rfl, q, hGc⟩ := hp
  refine W.eq (g2 := F0 m 23 ls []) rfl ?_
  refine lv_iconst (v := nI 1) hx hb dJx4a65c_add_9ea2d_23 (by decide) ?_
  subst hn0
  have hx9 : ALg K t tb Gc_20 h (0 + 1) (fU f 0 v) := ⟨_, Or.inr ⟨true, q, 10, _, by rw [hGc]; exact gset_eq _ _ _ _, by rw [hGc, gset_ne (Ne.symm (hap.1 true))]; exact gset_eq _ _ _ _, by decide, by decide, fun j hj => by obtain rfl : j = 0 := (by omega); rw [fU_eq]; exact if_pos rfl⟩⟩
  exact g_zret S hI hr hlocks (by omega) (by omega) (Or.inr rfl) dJx4a65c_add_9ea2d_24 ⟨rfl, hx9, by rw [hGc, hG_1]; exact off3.rf.st.sb.st⟩
set_option maxHeartbeats 4000000 in
set_option maxRecDepth 100000 in
/-- ArrayList.add(e) to an empty list -/
theorem c_addAS (l : Launch) (K : gK) (G : gW) (t : gTag) (tb : Bool → gTag) (C : String) (h n v : Nat) (f : Nat → Nat) (u : gTag) (ve : va_E) (mod : Int32) (hap : apart t tb) (hu : G u = some (v, ve)) (hv : isC K C ve) (hut : u ≠ t) (hub : ∀ b, u ≠ tb b) (hg : G t = some (h, cL mod K.2.2.1 0)) (hn0 : n = 0) : gM l yJx4a65c_add_9ea2d wsJx4a65c_add_9ea2d 7 150 1 10 K [.ref h, .ref v] G (fun r G1 => r = some (.int (nI 1)) ∧ ALg K t tb G1 h (n + 1) (fU f n v) ∧ off3 t tb G G1) (gNo) := by
  refine gM.of (cc := cJx4a65c_add_9ea2d) (maxL := 2) (ret := (some .boolean)) (by decide) rfl (Nat.le_of_ble_eq_true rfl) ?_
  intro p e s m below meth c A S hr hlocks htab hname hE hA hI ls hl
  have hx := S.1
  have hb := S.2.1
  have hml := S.2.2.1
  have hl : lv_has ls 2 [(0, .ref h), (1, .ref v)] := hl
  obtain ⟨H, hHe⟩ : ∃ z, z = s.heap := ⟨_, rfl⟩
  obtain ⟨locs, hLe⟩ : ∃ z : List Loc, z = [] := ⟨_, rfl⟩
  rw [← hHe, ← hLe]
  have hI : gI K A s G H locs := by rw [hHe, hLe]; exact hI
  clear hHe hLe
  refine lv_aload_n hx hb dJx4a65c_add_9ea2d_0 rfl (lv_at hl 0 rfl) ?_
  refine lv_dup hx hb dJx4a65c_add_9ea2d_1 rfl ?_
  refine g_get S hE hI (C := RJx4a65c) (T := TJx4a65c) (N := 3) (ref := "java/util/ArrayList") (fun w h => (List.mem_cons_of_mem _ (List.mem_append_right _ h))) hg rfl 0 (by decide) (List.mem_cons_of_mem _ (List.mem_append_left _ (List.mem_append_left _ (List.mem_of_getElem? (i := 0) rfl)))) (fun x9 h9 => u_same (S.2.2.2.2 _ (List.mem_cons_of_mem _ (List.mem_append_left _ (List.mem_append_left _ (List.mem_of_getElem? (i := 1) rfl))))) x9 h9) (v := .int mod) rfl dJx4a65c_add_9ea2d_2 ?_
  refine lv_iconst (v := nI 1) hx hb dJx4a65c_add_9ea2d_5 (by decide) ?_
  refine lv_iadd hx hb dJx4a65c_add_9ea2d_6 ?_
  refine g_put S hE hI (C := RJx4a65c) (T := TJx4a65c) (N := 3) (ref := "java/util/ArrayList") (fun w h => (List.mem_cons_of_mem _ (List.mem_append_right _ h))) tyJx4a65c tyJx4a65c_ok nmJx4a65c hg rfl 0 (by decide) (List.mem_cons_of_mem _ (List.mem_append_left _ (List.mem_append_left _ (List.mem_of_getElem? (i := 0) rfl)))) (fun x9 h9 => u_same (S.2.2.2.2 _ (List.mem_cons_of_mem _ (List.mem_append_left _ (List.mem_append_left _ (List.mem_of_getElem? (i := 1) rfl))))) x9 h9) rfl rfl rfl (Nat.le_of_ble_eq_true rfl) dJx4a65c_add_9ea2d_7 (fun H locs hI => ?_)
  have hI : gI K A s (gset G t h (.inr (0, [.int (mod + (nI 1)), .ref K.2.2.1, .int (nI 0)]))) H locs := hI
  obtain ⟨G_1, hG_1⟩ : ∃ z, z = gset G t h (.inr (0, [.int (mod + (nI 1)), .ref K.2.2.1, .int (nI 0)])) := ⟨_, rfl⟩
  rw [← hG_1] at hI
  have o_G_1 : G_1 t = some (h, .inr (0, [.int (mod + (nI 1)), .ref K.2.2.1, .int (nI 0)])) := by rw [hG_1]; exact gset_eq _ _ _ _
  refine lv_aload_n hx hb dJx4a65c_add_9ea2d_10 rfl (lv_at hl 0 rfl) ?_
  refine lv_aload_n hx hb dJx4a65c_add_9ea2d_11 rfl (lv_at hl 1 rfl) ?_
  refine lv_aload_n hx hb dJx4a65c_add_9ea2d_12 rfl (lv_at hl 0 rfl) ?_
  refine g_get S hE hI (C := RJx4a65c) (T := TJx4a65c) (N := 3) (ref := "java/util/ArrayList") (fun w h => (List.mem_cons_of_mem _ (List.mem_append_right _ h))) o_G_1 rfl 1 (by decide) (List.mem_cons_of_mem _ (List.mem_append_left _ (List.mem_append_left _ (List.mem_of_getElem? (i := 2) rfl)))) (fun _ h9 => h9) (v := .ref K.2.2.1) rfl dJx4a65c_add_9ea2d_13 ?_
  refine lv_aload_n hx hb dJx4a65c_add_9ea2d_16 rfl (lv_at hl 0 rfl) ?_
  refine g_get S hE hI (C := RJx4a65c) (T := TJx4a65c) (N := 3) (ref := "java/util/ArrayList") (fun w h => (List.mem_cons_of_mem _ (List.mem_append_right _ h))) o_G_1 rfl 2 (by decide) (List.mem_cons_of_mem _ (List.mem_append_left _ (List.mem_append_left _ (List.mem_of_getElem? (i := 3) rfl)))) (fun _ h9 => h9) (v := .int (nI 0)) rfl dJx4a65c_add_9ea2d_17 ?_
  refine g_callV (As := [.ref v, .ref K.2.2.1, .int (nI 0)]) (rest := []) (b := h) (n := 3) S hE hI hA (c_add0E l K _ t (tb true) h (mod + nI 1) C v u ve o_G_1 (hap.1 true) (by rw [hG_1, gset_ne hut]; exact hu) hv hut (hub true)) gJx4a65c_add_9ea2d_Jx4a65c_add_72be8 rfl (by decide +kernel) ⟨Nat.le_of_ble_eq_true rfl, Nat.le_of_ble_eq_true rfl⟩ (g_hro hE hI o_G_1 rfl) rfl hl.1 rfl (Nat.le_of_ble_eq_true rfl) dJx4a65c_add_9ea2d_20 ⟨by show _ ≤ 1; omega, by show _ ≤ 10; omega⟩ (fun E ce q9 Gx H1 locs1 hx9 => hx9.elim) (fun rv Gc_20 H locs hp hI => ?_)
  obtain ⟨rfl, q, hGc⟩ := hp
  refine W.eq (g2 := F0 m 23 ls []) rfl ?_
  refine lv_iconst (v := nI 1) hx hb dJx4a65c_add_9ea2d_23 (by decide) ?_
  subst hn0
  have hx9 : ALg K t tb Gc_20 h (0 + 1) (fU f 0 v) := ⟨_, Or.inr ⟨true, q, 10, _, by rw [hGc]; exact gset_eq _ _ _ _, by rw [hGc, gset_ne (Ne.symm (hap.1 true))]; exact gset_eq _ _ _ _, by decide, by decide, fun j hj => by obtain rfl : j = 0 := (by omega); rw [fU_eq]; exact if_pos rfl⟩⟩
  exact g_zret S hI hr hlocks (by omega) (by omega) (Or.inr rfl) dJx4a65c_add_9ea2d_24 ⟨rfl, hx9, by rw [hGc, hG_1]; exact off3.rf.st.sb.st⟩
set_option maxHeartbeats 4000000 in
set_option maxRecDepth 100000 in
/-- ArrayList.add(e) where there is room -/
theorem c_addB (l : Launch) (K : gK) (G : gW) (t : gTag) (tb : Bool → gTag) (C : String) (h n v : Nat) (f : Nat → Nat) (u : gTag) (ve : va_E) (mod : Int32) (b9 : Bool) (ar cap : Nat) (g : Nat → Option Nat) (hap : apart t tb) (hu : G u = some (v, ve)) (hv : isC K C ve) (hut : u ≠ t) (hub : ∀ b, u ≠ tb b) (hg : G t = some (h, cL mod ar n)) (hg2 : G (tb b9) = some (ar, cR (K.2.1 4) cap g)) (hgf : ∀ j, j < n → g j = some (f j)) (hn : n < cap ∧ (cap = 10 ∨ cap = 15 ∨ cap = 22 ∨ cap = 33 ∨ cap = 49)) : gM l yJx4a65c_add_9ea2d wsJx4a65c_add_9ea2d 7 150 1 60 K [.ref h, .ref v] G (fun r G1 => r = some (.int (nI 1)) ∧ ALg K t tb G1 h (n + 1) (fU f n v) ∧ off3 t tb G G1) (gNo) := by
  refine gM.of (cc := cJx4a65c_add_9ea2d) (maxL := 2) (ret := (some .boolean)) (by decide) rfl (Nat.le_of_ble_eq_true rfl) ?_
  intro p e s m below meth c A S hr hlocks htab hname hE hA hI ls hl
  have hx := S.1
  have hb := S.2.1
  have hml := S.2.2.1
  have hl : lv_has ls 2 [(0, .ref h), (1, .ref v)] := hl
  obtain ⟨H, hHe⟩ : ∃ z, z = s.heap := ⟨_, rfl⟩
  obtain ⟨locs, hLe⟩ : ∃ z : List Loc, z = [] := ⟨_, rfl⟩
  rw [← hHe, ← hLe]
  have hI : gI K A s G H locs := by rw [hHe, hLe]; exact hI
  clear hHe hLe
  refine lv_aload_n hx hb dJx4a65c_add_9ea2d_0 rfl (lv_at hl 0 rfl) ?_
  refine lv_dup hx hb dJx4a65c_add_9ea2d_1 rfl ?_
  refine g_get S hE hI (C := RJx4a65c) (T := TJx4a65c) (N := 3) (ref := "java/util/ArrayList") (fun w h => (List.mem_cons_of_mem _ (List.mem_append_right _ h))) hg rfl 0 (by decide) (List.mem_cons_of_mem _ (List.mem_append_left _ (List.mem_append_left _ (List.mem_of_getElem? (i := 0) rfl)))) (fun x9 h9 => u_same (S.2.2.2.2 _ (List.mem_cons_of_mem _ (List.mem_append_left _ (List.mem_append_left _ (List.mem_of_getElem? (i := 1) rfl))))) x9 h9) (v := .int mod) rfl dJx4a65c_add_9ea2d_2 ?_
  refine lv_iconst (v := nI 1) hx hb dJx4a65c_add_9ea2d_5 (by decide) ?_
  refine lv_iadd hx hb dJx4a65c_add_9ea2d_6 ?_
  refine g_put S hE hI (C := RJx4a65c) (T := TJx4a65c) (N := 3) (ref := "java/util/ArrayList") (fun w h => (List.mem_cons_of_mem _ (List.mem_append_right _ h))) tyJx4a65c tyJx4a65c_ok nmJx4a65c hg rfl 0 (by decide) (List.mem_cons_of_mem _ (List.mem_append_left _ (List.mem_append_left _ (List.mem_of_getElem? (i := 0) rfl)))) (fun x9 h9 => u_same (S.2.2.2.2 _ (List.mem_cons_of_mem _ (List.mem_append_left _ (List.mem_append_left _ (List.mem_of_getElem? (i := 1) rfl))))) x9 h9) rfl rfl rfl (Nat.le_of_ble_eq_true rfl) dJx4a65c_add_9ea2d_7 (fun H locs hI => ?_)
  have hI : gI K A s (gset G t h (.inr (0, [.int (mod + (nI 1)), .ref ar, .int (nI n)]))) H locs := hI
  obtain ⟨G_1, hG_1⟩ : ∃ z, z = gset G t h (.inr (0, [.int (mod + (nI 1)), .ref ar, .int (nI n)])) := ⟨_, rfl⟩
  rw [← hG_1] at hI
  have a_G_1 : G_1 (tb b9) = some (ar, cR (K.2.1 4) cap g) := by rw [hG_1, gset_ne (Ne.symm (hap.1 b9))]; exact hg2
  have o_G_1 : G_1 t = some (h, .inr (0, [.int (mod + (nI 1)), .ref ar, .int (nI n)])) := by rw [hG_1]; exact gset_eq _ _ _ _
  refine lv_aload_n hx hb dJx4a65c_add_9ea2d_10 rfl (lv_at hl 0 rfl) ?_
  refine lv_aload_n hx hb dJx4a65c_add_9ea2d_11 rfl (lv_at hl 1 rfl) ?_
  refine lv_aload_n hx hb dJx4a65c_add_9ea2d_12 rfl (lv_at hl 0 rfl) ?_
  refine g_get S hE hI (C := RJx4a65c) (T := TJx4a65c) (N := 3) (ref := "java/util/ArrayList") (fun w h => (List.mem_cons_of_mem _ (List.mem_append_right _ h))) o_G_1 rfl 1 (by decide) (List.mem_cons_of_mem _ (List.mem_append_left _ (List.mem_append_left _ (List.mem_of_getElem? (i := 2) rfl)))) (fun _ h9 => h9) (v := .ref ar) rfl dJx4a65c_add_9ea2d_13 ?_
  refine lv_aload_n hx hb dJx4a65c_add_9ea2d_16 rfl (lv_at hl 0 rfl) ?_
  refine g_get S hE hI (C := RJx4a65c) (T := TJx4a65c) (N := 3) (ref := "java/util/ArrayList") (fun w h => (List.mem_cons_of_mem _ (List.mem_append_right _ h))) o_G_1 rfl 2 (by decide) (List.mem_cons_of_mem _ (List.mem_append_left _ (List.mem_append_left _ (List.mem_of_getElem? (i := 3) rfl)))) (fun _ h9 => h9) (v := .int (nI n)) rfl dJx4a65c_add_9ea2d_17 ?_
  refine g_callV (As := [.ref v, .ref ar, .int (nI n)]) (rest := []) (b := h) (n := 3) S hE hI hA (c_add0B l K _ t (tb b9) h n (mod + nI 1) ar cap g C v u ve o_G_1 a_G_1 ⟨hn.1, by omega⟩ (hap.1 b9) (by rw [hG_1, gset_ne hut]; exact hu) hv) gJx4a65c_add_9ea2d_Jx4a65c_add_72be8 rfl (by decide +kernel) ⟨Nat.le_of_ble_eq_true rfl, Nat.le_of_ble_eq_true rfl⟩ (g_hro hE hI o_G_1 rfl) rfl hl.1 rfl (Nat.le_of_ble_eq_true rfl) dJx4a65c_add_9ea2d_20 ⟨Nat.le_of_ble_eq_true rfl, Nat.le_of_ble_eq_true rfl⟩ (fun E ce q9 Gx H1 locs1 hx9 => hx9.elim) (fun rv Gc_20 H locs hp hI => ?_)
  obtain ⟨rfl, hGc⟩ := hp
  refine W.eq (g2 := F0 m 23 ls []) rfl ?_
  refine lv_iconst (v := nI 1) hx hb dJx4a65c_add_9ea2d_23 (by decide) ?_
  have hx9 : ALg K t tb Gc_20 h (n + 1) (fU f n v) := ⟨_, Or.inr ⟨b9, ar, cap, _, by rw [hGc]; exact gset_eq _ _ _ _, by rw [hGc, gset_ne (Ne.symm (hap.1 b9))]; exact gset_eq _ _ _ _, by omega, hn.2, fun j hj => up_some hgf hj⟩⟩
  exact g_zret S hI hr hlocks (Nat.zero_le _) (Nat.zero_le _) (Or.inr rfl) dJx4a65c_add_9ea2d_24 ⟨rfl, hx9, by rw [hGc, hG_1]; exact off3.rf.st.sb.st⟩
set_option maxHeartbeats 4000000 in
set_option maxRecDepth 100000 in
/-- ArrayList.add(e) where there is room -/
theorem c_addBS (l : Launch) (K : gK) (G : gW) (t : gTag) (tb : Bool → gTag) (C : String) (h n v : Nat) (f : Nat → Nat) (u : gTag) (ve : va_E) (mod : Int32) (b9 : Bool) (ar cap : Nat) (g : Nat → Option Nat) (hap : apart t tb) (hu : G u = some (v, ve)) (hv : isC K C ve) (hut : u ≠ t) (hub : ∀ b, u ≠ tb b) (hg : G t = some (h, cL mod ar n)) (hg2 : G (tb b9) = some (ar, cR (K.2.1 4) cap g)) (hgf : ∀ j, j < n → g j = some (f j)) (hn : n < cap ∧ (cap = 10 ∨ cap = 15 ∨ cap = 22 ∨ cap = 33 ∨ cap = 49)) : gM l yJx4a65c_add_9ea2d wsJx4a65c_add_9ea2d 7 150 1 10 K [.ref h, .ref v] G (fun r G1 => r = some (.int (nI 1)) ∧ ALg K t tb G1 h (n + 1) (fU f n v) ∧ off3 t tb G G1) (gNo) := by
  refine gM.of (cc := cJx4a65c_add_9ea2d) (maxL := 2) (ret := (some .boolean)) (by decide) rfl (Nat.le_of_ble_eq_true rfl) ?_
  intro p e s m below meth c A S hr hlocks htab hname hE hA hI ls hl
  have hx := S.1
  have hb := S.2.1
  have hml := S.2.2.1
  have hl : lv_has ls 2 [(0, .ref h), (1, .ref v)] := hl
  obtain ⟨H, hHe⟩ : ∃ z, z = s.heap := ⟨_, rfl⟩
  obtain ⟨locs, hLe⟩ : ∃ z : List Loc, z = [] := ⟨_, rfl⟩
  rw [← hHe, ← hLe]
  have hI : gI K A s G H locs := by rw [hHe, hLe]; exact hI
  clear hHe hLe
  refine lv_aload_n hx hb dJx4a65c_add_9ea2d_0 rfl (lv_at hl 0 rfl) ?_
  refine lv_dup hx hb dJx4a65c_add_9ea2d_1 rfl ?_
  refine g_get S hE hI (C := RJx4a65c) (T := TJx4a65c) (N := 3) (ref := "java/util/ArrayList") (fun w h => (List.mem_cons_of_mem _ (List.mem_append_right _ h))) hg rfl 0 (by decide) (List.mem_cons_of_mem _ (List.mem_append_left _ (List.mem_append_left _ (List.mem_of_getElem? (i := 0) rfl)))) (fun x9 h9 => u_same (S.2.2.2.2 _ (List.mem_cons_of_mem _ (List.mem_append_left _ (List.mem_append_left _ (List.mem_of_getElem? (i := 1) rfl))))) x9 h9) (v := .int mod) rfl dJx4a65c_add_9ea2d_2 ?_
  refine lv_iconst (v := nI 1) hx hb dJx4a65c_add_9ea2d_5 (by decide) ?_
  refine lv_iadd hx hb dJx4a65c_add_9ea2d_6 ?_
  refine g_put S hE hI (C := RJx4a65c) (T := TJx4a65c) (N := 3) (ref := "java/util/ArrayList") (fun w h => (List.mem_cons_of_mem _ (List.mem_append_right _ h))) tyJx4a65c tyJx4a65c_ok nmJx4a65c hg rfl 0 (by decide) (List.mem_cons_of_mem _ (List.mem_append_left _ (List.mem_append_left _ (List.mem_of_getElem? (i := 0) rfl)))) (fun x9 h9 => u_same (S.2.2.2.2 _ (List.mem_cons_of_mem _ (List.mem_append_left _ (List.mem_append_left _ (List.mem_of_getElem? (i := 1) rfl))))) x9 h9) rfl rfl rfl (Nat.le_of_ble_eq_true rfl) dJx4a65c_add_9ea2d_7 (fun H locs hI => ?_)
  have hI : gI K A s (gset G t h (.inr (0, [.int (mod + (nI 1)), .ref ar, .int (nI n)]))) H locs := hI
  obtain ⟨G_1, hG_1⟩ : ∃ z, z = gset G t h (.inr (0, [.int (mod + (nI 1)), .ref ar, .int (nI n)])) := ⟨_, rfl⟩
  rw [← hG_1] at hI
  have a_G_1 : G_1 (tb b9) = some (ar, cR (K.2.1 4) cap g) := by rw [hG_1, gset_ne (Ne.symm (hap.1 b9))]; exact hg2
  have o_G_1 : G_1 t = some (h, .inr (0, [.int (mod + (nI 1)), .ref ar, .int (nI n)])) := by rw [hG_1]; exact gset_eq _ _ _ _
  refine lv_aload_n hx hb dJx4a65c_add_9ea2d_10 rfl (lv_at hl 0 rfl) ?_
  refine lv_aload_n hx hb dJx4a65c_add_9ea2d_11 rfl (lv_at hl 1 rfl) ?_
  refine lv_aload_n hx hb dJx4a65c_add_9ea2d_12 rfl (lv_at hl 0 rfl) ?_
  refine g_get S hE hI (C := RJx4a65c) (T := TJx4a65c) (N := 3) (ref := "java/util/ArrayList") (fun w h => (List.mem_cons_of_mem _ (List.mem_append_right _ h))) o_G_1 rfl 1 (by decide) (List.mem_cons_of_mem _ (List.mem_append_left _ (List.mem_append_left _ (List.mem_of_getElem? (i := 2) rfl)))) (fun _ h9 => h9) (v := .ref ar) rfl dJx4a65c_add_9ea2d_13 ?_
  refine lv_aload_n hx hb dJx4a65c_add_9ea2d_16 rfl (lv_at hl 0 rfl) ?_
  refine g_get S hE hI (C := RJx4a65c) (T := TJx4a65c) (N := 3) (ref := "java/util/ArrayList") (fun w h => (List.mem_cons_of_mem _ (List.mem_append_right _ h))) o_G_1 rfl 2 (by decide) (List.mem_cons_of_mem _ (List.mem_append_left _ (List.mem_append_left _ (List.mem_of_getElem? (i := 3) rfl)))) (fun _ h9 => h9) (v := .int (nI n)) rfl dJx4a65c_add_9ea2d_17 ?_
  refine g_callV (As := [.ref v, .ref ar, .int (nI n)]) (rest := []) (b := h) (n := 3) S hE hI hA (c_add0B l K _ t (tb b9) h n (mod + nI 1) ar cap g C v u ve o_G_1 a_G_1 ⟨hn.1, by omega⟩ (hap.1 b9) (by rw [hG_1, gset_ne hut]; exact hu) hv) gJx4a65c_add_9ea2d_Jx4a65c_add_72be8 rfl (by decide +kernel) ⟨Nat.le_of_ble_eq_true rfl, Nat.le_of_ble_eq_true rfl⟩ (g_hro hE hI o_G_1 rfl) rfl hl.1 rfl (Nat.le_of_ble_eq_true rfl) dJx4a65c_add_9ea2d_20 ⟨Nat.le_of_ble_eq_true rfl, Nat.le_of_ble_eq_true rfl⟩ (fun E ce q9 Gx H1 locs1 hx9 => hx9.elim) (fun rv Gc_20 H locs hp hI => ?_)
  obtain ⟨rfl, hGc⟩ := hp
  refine W.eq (g2 := F0 m 23 ls []) rfl ?_
  refine lv_iconst (v := nI 1) hx hb dJx4a65c_add_9ea2d_23 (by decide) ?_
  have hx9 : ALg K t tb Gc_20 h (n + 1) (fU f n v) := ⟨_, Or.inr ⟨b9, ar, cap, _, by rw [hGc]; exact gset_eq _ _ _ _, by rw [hGc, gset_ne (Ne.symm (hap.1 b9))]; exact gset_eq _ _ _ _, by omega, hn.2, fun j hj => up_some hgf hj⟩⟩
  exact g_zret S hI hr hlocks (Nat.zero_le _) (Nat.zero_le _) (Or.inr rfl) dJx4a65c_add_9ea2d_24 ⟨rfl, hx9, by rw [hGc, hG_1]; exact off3.rf.st.sb.st⟩
set_option maxHeartbeats 4000000 in
set_option maxRecDepth 100000 in
/-- ArrayList.add(e) to a full list -/
theorem c_addC (l : Launch) (K : gK) (G : gW) (t : gTag) (tb : Bool → gTag) (C : String) (h n v : Nat) (f : Nat → Nat) (u : gTag) (ve : va_E) (mod : Int32) (b9 : Bool) (ar cap : Nat) (g : Nat → Option Nat) (hap : apart t tb) (hu : G u = some (v, ve)) (hv : isC K C ve) (hut : u ≠ t) (hub : ∀ b, u ≠ tb b) (hg : G t = some (h, cL mod ar n)) (hg2 : G (tb b9) = some (ar, cR (K.2.1 4) cap g)) (hgf : ∀ j, j < n → g j = some (f j)) (hn : n = cap ∧ (cap = 10 ∨ cap = 15 ∨ cap = 22 ∨ cap = 33)) (hel : ∀ j, j < n → EL K t tb C G (f j)) : gM l yJx4a65c_add_9ea2d wsJx4a65c_add_9ea2d 7 150 1 60 K [.ref h, .ref v] G (fun r G1 => r = some (.int (nI 1)) ∧ ALg K t tb G1 h (n + 1) (fU f n v) ∧ off3 t tb G G1) (gNo) := by
  refine gM.of (cc := cJx4a65c_add_9ea2d) (maxL := 2) (ret := (some .boolean)) (by decide) rfl (Nat.le_of_ble_eq_true rfl) ?_
  intro p e s m below meth c A S hr hlocks htab hname hE hA hI ls hl
  have hx := S.1
  have hb := S.2.1
  have hml := S.2.2.1
  have hl : lv_has ls 2 [(0, .ref h), (1, .ref v)] := hl
  obtain ⟨H, hHe⟩ : ∃ z, z = s.heap := ⟨_, rfl⟩
  obtain ⟨locs, hLe⟩ : ∃ z : List Loc, z = [] := ⟨_, rfl⟩
  rw [← hHe, ← hLe]
  have hI : gI K A s G H locs := by rw [hHe, hLe]; exact hI
  clear hHe hLe
  refine lv_aload_n hx hb dJx4a65c_add_9ea2d_0 rfl (lv_at hl 0 rfl) ?_
  refine lv_dup hx hb dJx4a65c_add_9ea2d_1 rfl ?_
  refine g_get S hE hI (C := RJx4a65c) (T := TJx4a65c) (N := 3) (ref := "java/util/ArrayList") (fun w h => (List.mem_cons_of_mem _ (List.mem_append_right _ h))) hg rfl 0 (by decide) (List.mem_cons_of_mem _ (List.mem_append_left _ (List.mem_append_left _ (List.mem_of_getElem? (i := 0) rfl)))) (fun x9 h9 => u_same (S.2.2.2.2 _ (List.mem_cons_of_mem _ (List.mem_append_left _ (List.mem_append_left _ (List.mem_of_getElem? (i := 1) rfl))))) x9 h9) (v := .int mod) rfl dJx4a65c_add_9ea2d_2 ?_
  refine lv_iconst (v := nI 1) hx hb dJx4a65c_add_9ea2d_5 (by decide) ?_
  refine lv_iadd hx hb dJx4a65c_add_9ea2d_6 ?_
  refine g_put S hE hI (C := RJx4a65c) (T := TJx4a65c) (N := 3) (ref := "java/util/ArrayList") (fun w h => (List.mem_cons_of_mem _ (List.mem_append_right _ h))) tyJx4a65c tyJx4a65c_ok nmJx4a65c hg rfl 0 (by decide) (List.mem_cons_of_mem _ (List.mem_append_left _ (List.mem_append_left _ (List.mem_of_getElem? (i := 0) rfl)))) (fun x9 h9 => u_same (S.2.2.2.2 _ (List.mem_cons_of_mem _ (List.mem_append_left _ (List.mem_append_left _ (List.mem_of_getElem? (i := 1) rfl))))) x9 h9) rfl rfl rfl (Nat.le_of_ble_eq_true rfl) dJx4a65c_add_9ea2d_7 (fun H locs hI => ?_)
  have hI : gI K A s (gset G t h (.inr (0, [.int (mod + (nI 1)), .ref ar, .int (nI n)]))) H locs := hI
  obtain ⟨G_1, hG_1⟩ : ∃ z, z = gset G t h (.inr (0, [.int (mod + (nI 1)), .ref ar, .int (nI n)])) := ⟨_, rfl⟩
  rw [← hG_1] at hI
  have a_G_1 : G_1 (tb b9) = some (ar, cR (K.2.1 4) cap g) := by rw [hG_1, gset_ne (Ne.symm (hap.1 b9))]; exact hg2
  have o_G_1 : G_1 t = some (h, .inr (0, [.int (mod + (nI 1)), .ref ar, .int (nI n)])) := by rw [hG_1]; exact gset_eq _ _ _ _
  refine lv_aload_n hx hb dJx4a65c_add_9ea2d_10 rfl (lv_at hl 0 rfl) ?_
  refine lv_aload_n hx hb dJx4a65c_add_9ea2d_11 rfl (lv_at hl 1 rfl) ?_
  refine lv_aload_n hx hb dJx4a65c_add_9ea2d_12 rfl (lv_at hl 0 rfl) ?_
  refine g_get S hE hI (C := RJx4a65c) (T := TJx4a65c) (N := 3) (ref := "java/util/ArrayList") (fun w h => (List.mem_cons_of_mem _ (List.mem_append_right _ h))) o_G_1 rfl 1 (by decide) (List.mem_cons_of_mem _ (List.mem_append_left _ (List.mem_append_left _ (List.mem_of_getElem? (i := 2) rfl)))) (fun _ h9 => h9) (v := .ref ar) rfl dJx4a65c_add_9ea2d_13 ?_
  refine lv_aload_n hx hb dJx4a65c_add_9ea2d_16 rfl (lv_at hl 0 rfl) ?_
  refine g_get S hE hI (C := RJx4a65c) (T := TJx4a65c) (N := 3) (ref := "java/util/ArrayList") (fun w h => (List.mem_cons_of_mem _ (List.mem_append_right _ h))) o_G_1 rfl 2 (by decide) (List.mem_cons_of_mem _ (List.mem_append_left _ (List.mem_append_left _ (List.mem_of_getElem? (i := 3) rfl)))) (fun _ h9 => h9) (v := .int (nI n)) rfl dJx4a65c_add_9ea2d_17 ?_
  refine g_callV (As := [.ref v, .ref ar, .int (nI n)]) (rest := []) (b := h) (n := 3) S hE hI hA (c_add0C l K _ t (tb b9) (tb (!b9)) h n (mod + nI 1) ar cap g C v u ve o_G_1 a_G_1 ⟨by omega, by omega, hn.1⟩ ⟨hap.1 _, hap.2 _⟩ hv.1 (fun i hi w hw => by rw [hgf i (by omega)] at hw; cases hw; obtain ⟨u9, e9, h1, h2, h3, h4⟩ := hel i (by omega); exact ⟨u9, e9, h2 _, by rw [hG_1, gset_ne h1]; exact h3, h4⟩) (by rw [hG_1, gset_ne hut]; exact hu) hv hut (hub _)) gJx4a65c_add_9ea2d_Jx4a65c_add_72be8 rfl (by decide +kernel) ⟨Nat.le_of_ble_eq_true rfl, Nat.le_of_ble_eq_true rfl⟩ (g_hro hE hI o_G_1 rfl) rfl hl.1 rfl (Nat.le_of_ble_eq_true rfl) dJx4a65c_add_9ea2d_20 ⟨by show _ ≤ 1; omega, by show _ ≤ 60; omega⟩ (fun E ce q9 Gx H1 locs1 hx9 => hx9.elim) (fun rv Gc_20 H locs hp hI => ?_)
  obtain ⟨rfl, q, hGc⟩ := hp
  refine W.eq (g2 := F0 m 23 ls []) rfl ?_
  refine lv_iconst (v := nI 1) hx hb dJx4a65c_add_9ea2d_23 (by decide) ?_
  have hx9 : ALg K t tb Gc_20 h (n + 1) (fU f n v) := ⟨_, Or.inr ⟨(!b9), q, (cap + max 1 (cap / 2)), _, by rw [hGc]; exact gset_eq _ _ _ _, by rw [hGc, gset_ne (Ne.symm (hap.1 _))]; exact gset_eq _ _ _ _, by omega, by omega, fun j hj => up_some (fun i hi => (pk_cpy_in (Nat.zero_le _) (by omega)).trans (by rw [Nat.zero_add]; exact hgf i hi)) hj⟩⟩
  exact g_zret S hI hr hlocks (by omega) (by omega) (Or.inr rfl) dJx4a65c_add_9ea2d_24 ⟨rfl, hx9, by rw [hGc, hG_1]; exact off3.rf.st.sb.st⟩
