/-! lists, whole -/
theorem l_add (l : Launch) (K : gK) (G : gW) (t : gTag) (tb : Bool → gTag) (h n : Nat) (f : Nat → Nat) (C : String) (v : Nat) (u : gTag) (ve : va_E) (hA : ALg K t tb G h n f) (hap : apart t tb) (hn : n ≤ 43) (hu : G u = some (v, ve)) (hv : isC K C ve) (hut : u ≠ t) (hub : ∀ b, u ≠ tb b) (hel : ∀ j, j < n → EL K t tb C G (f j)) : gM l yJx4a65c_add_9ea2d wsJx4a65c_add_9ea2d 7 150 1 60 K [.ref h, .ref v] G (fun r G1 => r = some (.int (nI 1)) ∧ ALg K t tb G1 h (n + 1) (fU f n v) ∧ off3 t tb G G1) gNo := by
  obtain ⟨mod, ⟨h1, h2⟩ | ⟨b, ar, cap, g, h1, h2, h3, h4, h6⟩⟩ := hA
  · subst h1
    exact c_addA l K G t tb C h 0 v f u ve mod hap hu hv hut hub h2 rfl
  · by_cases hc : n < cap
    · exact c_addB l K G t tb C h n v f u ve mod b ar cap g hap hu hv hut hub h1 h2 h6 ⟨hc, h4⟩
    · exact c_addC l K G t tb C h n v f u ve mod b ar cap g hap hu hv hut hub h1 h2 h6 ⟨by omega, by omega⟩ hel
theorem l_addS (l : Launch) (K : gK) (G : gW) (t : gTag) (tb : Bool → gTag) (h n : Nat) (f : Nat → Nat) (C : String) (v : Nat) (u : gTag) (ve : va_E) (hA : ALg K t tb G h n f) (hap : apart t tb) (hn : n ≤ 9) (hu : G u = some (v, ve)) (hv : isC K C ve) (hut : u ≠ t) (hub : ∀ b, u ≠ tb b) : gM l yJx4a65c_add_9ea2d wsJx4a65c_add_9ea2d 7 150 1 10 K [.ref h, .ref v] G (fun r G1 => r = some (.int (nI 1)) ∧ ALg K t tb G1 h (n + 1) (fU f n v) ∧ off3 t tb G G1) gNo := by
  obtain ⟨mod, ⟨h1, h2⟩ | ⟨b, ar, cap, g, h1, h2, h3, h4, h6⟩⟩ := hA
  · subst h1
    exact c_addAS l K G t tb C h 0 v f u ve mod hap hu hv hut hub h2 rfl
  · exact c_addBS l K G t tb C h n v f u ve mod b ar cap g hap hu hv hut hub h1 h2 h6 ⟨by omega, h4⟩
theorem l_size (l : Launch) (K : gK) (G : gW) (t : gTag) (tb : Bool → gTag) (h n : Nat) (f : Nat → Nat) (hA : ALg K t tb G h n f) : gM l yJx4a65c_size_8abf5 wsJx4a65c_size_8abf5 2 40 0 0 K [.ref h] G (fun r G1 => r = some (.int (nI n)) ∧ G1 = G) gNo := by
  obtain ⟨mod, ⟨h1, h2⟩ | ⟨b, ar, cap, g, h1, h2, -⟩⟩ := hA
  · subst h1
    exact c_alSize0 l K G t h 0 mod _ h2
  · exact c_alSize0 l K G t h n mod ar h1
theorem l_get (l : Launch) (K : gK) (G : gW) (t : gTag) (tb : Bool → gTag) (h n : Nat) (f : Nat → Nat) (i : Nat) (hA : ALg K t tb G h n f) (hi : i < n) : gM l yJx4a65c_get_915e3 wsJx4a65c_get_915e3 4 83 0 0 K [.ref h, .int (nI i)] G (fun r G1 => r = some (.ref (f i)) ∧ G1 = G) gNo := by
  obtain ⟨mod, ⟨h1, h2⟩ | ⟨b, ar, cap, g, h1, h2, h3, h4, h6⟩⟩ := hA
  · omega
  · exact c_alGet0 l K G t (tb b) h n mod ar cap g i (f i) h1 h2 ⟨hi, h3.2, by omega⟩ (h6 i hi)
/-- what is known of a list's own cell -/
theorem ALg.obj {K : gK} {t : gTag} {tb : Bool → gTag} {G : gW} {h n : Nat} {f : Nat → Nat} (a : ALg K t tb G h n f) : ∃ mod ar, G t = some (h, cL mod ar n) := by
  obtain ⟨mod, ⟨h1, h2⟩ | ⟨b, ar, cap, g, h1, h2, -⟩⟩ := a
  · subst h1; exact ⟨mod, _, h2⟩
  · exact ⟨mod, ar, h1⟩
theorem l_pad : True := trivial
theorem ALg.congr {K : gK} {t : gTag} {tb : Bool → gTag} {G : gW} {h n : Nat} {f f' : Nat → Nat} (a : ALg K t tb G h n f) (e : ∀ j, j < n → f' j = f j) : ALg K t tb G h n f' := by
  obtain ⟨mod, h1 | ⟨b, ar, cap, g, h1, h2, h3, h4, h6⟩⟩ := a
  · exact ⟨mod, Or.inl h1⟩
  · exact ⟨mod, Or.inr ⟨b, ar, cap, g, h1, h2, h3, h4, fun j hj => by rw [e j hj]; exact h6 j hj⟩⟩
set_option maxHeartbeats 4000000 in
set_option maxRecDepth 100000 in
/-- ArrayList.toArray() of an empty list -/
theorem c_toArrE (l : Launch) (K : gK) (G : gW) (t ts : gTag) (h : Nat) (mod : Int32) (hg : G t = some (h, cL mod K.2.2.1 0)) : gM l yJx4a65c_toArray_d5877 wsJx4a65c_toArray_d5877 4 84 1 10 K [.ref h] G (fun r G1 => ∃ q, r = some (.ref q) ∧ G1 = gset G ts q (cR (K.2.1 4) 0 (fun _ => none))) (gNo) := by
  refine gM.of (cc := cJx4a65c_toArray_d5877) (maxL := 1) (ret := (some (.array (.object "java/lang/Object")))) (by decide) rfl (Nat.le_of_ble_eq_true rfl) ?_
  intro p e s m below meth c A S hr hlocks htab hname hE hA hI ls hl
  have hx := S.1
  have hb := S.2.1
  have hml := S.2.2.1
  have hl : lv_has ls 1 [(0, .ref h)] := hl
  obtain ⟨H, hHe⟩ : ∃ z, z = s.heap := ⟨_, rfl⟩
  obtain ⟨locs, hLe⟩ : ∃ z : List Loc, z = [] := ⟨_, rfl⟩
  rw [← hHe, ← hLe]
  have hI : gI K A s G H locs := by rw [hHe, hLe]; exact hI
  clear hHe hLe
  refine lv_aload_n hx hb dJx4a65c_toArray_d5877_0 rfl (lv_at hl 0 rfl) ?_
  refine g_get S hE hI (C := RJx4a65c) (T := TJx4a65c) (N := 3) (ref := "java/util/ArrayList") (fun w h => (List.mem_cons_of_mem _ (List.mem_append_right _ h))) hg rfl 1 (by decide) (List.mem_cons_of_mem _ (List.mem_append_left _ (List.mem_of_getElem? (i := 0) rfl))) (fun _ h9 => h9) (v := .ref K.2.2.1) rfl dJx4a65c_toArray_d5877_1 ?_
  refine lv_aload_n hx hb dJx4a65c_toArray_d5877_4 rfl (lv_at hl 0 rfl) ?_
  refine g_get S hE hI (C := RJx4a65c) (T := TJx4a65c) (N := 3) (ref := "java/util/ArrayList") (fun w h => (List.mem_cons_of_mem _ (List.mem_append_right _ h))) hg rfl 2 (by decide) (List.mem_cons_of_mem _ (List.mem_append_left _ (List.mem_of_getElem? (i := 1) rfl))) (fun _ h9 => h9) (v := .int (nI 0)) rfl dJx4a65c_toArray_d5877_5 ?_
  refine g_callS (As := [.ref K.2.2.1, .int (nI 0)]) (rest := []) (n := 2) S hE hI hA (c_copyE l K _ ts 0 (by decide)) gJx4a65c_toArray_d5877_J7_copyOf_1904c rfl (by decide +kernel) ⟨Nat.le_of_ble_eq_true rfl, Nat.le_of_ble_eq_true rfl⟩ rfl hl.1 rfl (Nat.le_of_ble_eq_true rfl) dJx4a65c_toArray_d5877_8 ⟨by show _ ≤ 1; omega, by show _ ≤ 10; omega⟩ (fun E ce q9 Gx H1 locs1 hx9 => hx9.elim) (fun rv Gc_8 H locs hp hI => ?_)
  obtain ⟨q, rfl, hGc⟩ := hp
  refine W.eq (g2 := F0 m 11 ls [.ref q]) rfl ?_
  exact g_aret S hI hr (Or.inr ⟨_, rfl⟩) (Or.inr ⟨_, rfl⟩) hlocks (by omega) (by omega) dJx4a65c_toArray_d5877_11 ⟨q, rfl, hGc⟩
set_option maxHeartbeats 4000000 in
set_option maxRecDepth 100000 in
/-- ArrayList.toArray() -/
theorem c_toArrO (l : Launch) (K : gK) (G : gW) (t tc ts : gTag) (h n : Nat) (mod : Int32) (ar cap : Nat) (g : Nat → Option Nat) (C : String) (hg : G t = some (h, cL mod ar n)) (hg2 : G tc = some (ar, cR (K.2.1 4) cap g)) (hn : n ≤ cap ∧ cap ≤ 200 ∧ n ≤ 10) (hne : tc ≠ ts) (hC : (C, "java/lang/Object") ∈ gCas) (hel : ∀ i, i < n → ∀ y, g i = some y → ∃ u e, u ≠ ts ∧ G u = some (y, e) ∧ isC K C e) : gM l yJx4a65c_toArray_d5877 wsJx4a65c_toArray_d5877 4 84 1 10 K [.ref h] G (fun r G1 => ∃ q, r = some (.ref q) ∧ G1 = gset G ts q (cR (K.2.1 4) n (va_cpy g (fun _ => none) 0 0 n))) (gNo) := by
  refine gM.of (cc := cJx4a65c_toArray_d5877) (maxL := 1) (ret := (some (.array (.object "java/lang/Object")))) (by decide) rfl (Nat.le_of_ble_eq_true rfl) ?_
  intro p e s m below meth c A S hr hlocks htab hname hE hA hI ls hl
  have hx := S.1
  have hb := S.2.1
  have hml := S.2.2.1
  have hl : lv_has ls 1 [(0, .ref h)] := hl
  obtain ⟨H, hHe⟩ : ∃ z, z = s.heap := ⟨_, rfl⟩
  obtain ⟨locs, hLe⟩ : ∃ z : List Loc, z = [] := ⟨_, rfl⟩
  rw [← hHe, ← hLe]
  have hI : gI K A s G H locs := by rw [hHe, hLe]; exact hI
  clear hHe hLe
  refine lv_aload_n hx hb dJx4a65c_toArray_d5877_0 rfl (lv_at hl 0 rfl) ?_
  refine g_get S hE hI (C := RJx4a65c) (T := TJx4a65c) (N := 3) (ref := "java/util/ArrayList") (fun w h => (List.mem_cons_of_mem _ (List.mem_append_right _ h))) hg rfl 1 (by decide) (List.mem_cons_of_mem _ (List.mem_append_left _ (List.mem_of_getElem? (i := 0) rfl))) (fun _ h9 => h9) (v := .ref ar) rfl dJx4a65c_toArray_d5877_1 ?_
  refine lv_aload_n hx hb dJx4a65c_toArray_d5877_4 rfl (lv_at hl 0 rfl) ?_
  refine g_get S hE hI (C := RJx4a65c) (T := TJx4a65c) (N := 3) (ref := "java/util/ArrayList") (fun w h => (List.mem_cons_of_mem _ (List.mem_append_right _ h))) hg rfl 2 (by decide) (List.mem_cons_of_mem _ (List.mem_append_left _ (List.mem_of_getElem? (i := 1) rfl))) (fun _ h9 => h9) (v := .int (nI n)) rfl dJx4a65c_toArray_d5877_5 ?_
  refine g_callS (As := [.ref ar, .int (nI n)]) (rest := []) (n := 2) S hE hI hA (c_copyT l K _ ts n tc ar cap g C ⟨by omega, by omega⟩ hg2 hne hC (fun i hi y hy => hel i (by omega) y hy)) gJx4a65c_toArray_d5877_J7_copyOf_1904c rfl (by decide +kernel) ⟨Nat.le_of_ble_eq_true rfl, Nat.le_of_ble_eq_true rfl⟩ rfl hl.1 rfl (Nat.le_of_ble_eq_true rfl) dJx4a65c_toArray_d5877_8 ⟨by show _ ≤ 1; omega, by show _ ≤ 10; omega⟩ (fun E ce q9 Gx H1 locs1 hx9 => hx9.elim) (fun rv Gc_8 H locs hp hI => ?_)
  obtain ⟨q, rfl, hGc⟩ := hp
  rw [show min cap n = n from Nat.min_eq_right (by omega)] at hGc
  refine W.eq (g2 := F0 m 11 ls [.ref q]) rfl ?_
  exact g_aret S hI hr (Or.inr ⟨_, rfl⟩) (Or.inr ⟨_, rfl⟩) hlocks (by omega) (by omega) dJx4a65c_toArray_d5877_11 ⟨q, rfl, hGc⟩
set_option maxHeartbeats 4000000 in
set_option maxRecDepth 100000 in
/-- ArrayList.addAll(an empty list) -/
theorem c_addAllE (l : Launch) (K : gK) (G : gW) (t ts : gTag) (tb : Bool → gTag) (h : Nat) (mod : Int32) (t2 : gTag) (h2 : Nat) (mod2 : Int32) (f : Nat → Nat) (hg : G t = some (h, cL mod K.2.2.1 0)) (hap : apart t tb) (hts : t ≠ ts ∧ ∀ b, tb b ≠ ts) (hg2 : G t2 = some (h2, cL mod2 K.2.2.1 0)) : gM l yJx4a65c_addAll_f0b43 wsJx4a65c_addAll_f0b43 5 104 2 20 K [.ref h, .ref h2] G (fun r G1 => (∃ x, r = some (.int x)) ∧ ALg K t tb G1 h 0 f ∧ ∀ u, u ≠ t → u ≠ ts → (∀ b, u ≠ tb b) → G1 u = G u) (gNo) := by
  refine gM.of (cc := cJx4a65c_addAll_f0b43) (maxL := 6) (ret := (some .boolean)) (by decide) rfl (Nat.le_of_ble_eq_true rfl) ?_
  intro p e s m below meth c A S hr hlocks htab hname hE hA hI ls hl
  have hx := S.1
  have hb := S.2.1
  have hml := S.2.2.1
  have hl : lv_has ls 6 [(0, .ref h), (1, .ref h2)] := hl
  obtain ⟨H, hHe⟩ : ∃ z, z = s.heap := ⟨_, rfl⟩
  obtain ⟨locs, hLe⟩ : ∃ z : List Loc, z = [] := ⟨_, rfl⟩
  rw [← hHe, ← hLe]
  have hI : gI K A s G H locs := by rw [hHe, hLe]; exact hI
  clear hHe hLe
  refine lv_aload_n hx hb dJx4a65c_addAll_f0b43_0 rfl (lv_at hl 1 rfl) ?_
  refine g_callF (rest := []) S hE hI hA (c_toArrE l K _ t2 ts h2 mod2 hg2) gJx4a65c_addAll_f0b43_Jx4a65c_toArray_d5877_f42Jx4a65c rfl ⟨Nat.le_of_ble_eq_true rfl, Nat.le_of_ble_eq_true rfl⟩ hg2 hl.1 (Nat.le_of_ble_eq_true rfl) dJx4a65c_addAll_f0b43_1 ⟨by show _ ≤ 2; omega, by show _ ≤ 20; omega⟩ (fun rv Gc_1 H locs hp hI => ?_)
  obtain ⟨q, rfl, hGc⟩ := hp
  have ho1 : Gc_1 t = some (h, cL mod K.2.2.1 0) := by rw [hGc, gset_ne hts.1]; exact hg
  have hc1 : Gc_1 ts = some (q, cR (K.2.1 4) 0 (fun _ => none)) := by rw [hGc]; exact gset_eq _ _ _ _
  refine W.eq (g2 := F0 m 6 ls [.ref q]) rfl ?_
  refine lv_astore_n (lv' := [(2, .ref q), (0, .ref h), (1, .ref h2)]) hx hb dJx4a65c_addAll_f0b43_6 rfl hl (by decide) rfl (fun ls hl => ?_)
  refine lv_aload_n hx hb dJx4a65c_addAll_f0b43_7 rfl (lv_at hl 1 rfl) ?_
  refine lv_dup hx hb dJx4a65c_addAll_f0b43_8 rfl ?_
  refine g_get S hE hI (C := RJx4a65c) (T := TJx4a65c) (N := 3) (ref := "java/util/ArrayList") (fun w h => (List.mem_cons_of_mem _ (List.mem_append_right _ h))) ho1 rfl 0 (by decide) (List.mem_cons_of_mem _ (List.mem_append_left _ (List.mem_append_left _ (List.mem_of_getElem? (i := 0) rfl)))) (fun x9 h9 => u_same (S.2.2.2.2 _ (List.mem_cons_of_mem _ (List.mem_append_left _ (List.mem_append_left _ (List.mem_of_getElem? (i := 1) rfl))))) x9 h9) (v := .int mod) rfl dJx4a65c_addAll_f0b43_9 ?_
  refine lv_iconst (v := nI 1) hx hb dJx4a65c_addAll_f0b43_12 (by decide) ?_
  refine lv_iadd hx hb dJx4a65c_addAll_f0b43_13 ?_
  refine g_put S hE hI (C := RJx4a65c) (T := TJx4a65c) (N := 3) (ref := "java/util/ArrayList") (fun w h => (List.mem_cons_of_mem _ (List.mem_append_right _ h))) tyJx4a65c tyJx4a65c_ok nmJx4a65c ho1 rfl 0 (by decide) (List.mem_cons_of_mem _ (List.mem_append_left _ (List.mem_append_left _ (List.mem_of_getElem? (i := 0) rfl)))) (fun x9 h9 => u_same (S.2.2.2.2 _ (List.mem_cons_of_mem _ (List.mem_append_left _ (List.mem_append_left _ (List.mem_of_getElem? (i := 1) rfl))))) x9 h9) rfl rfl rfl (Nat.le_of_ble_eq_true rfl) dJx4a65c_addAll_f0b43_14 (fun H locs hI => ?_)
  have hI : gI K A s (gset Gc_1 t h (.inr (0, [.int (mod + (nI 1)), .ref K.2.2.1, .int (nI 0)]))) H locs := hI
  obtain ⟨G_1, hG_1⟩ : ∃ z, z = gset Gc_1 t h (.inr (0, [.int (mod + (nI 1)), .ref K.2.2.1, .int (nI 0)])) := ⟨_, rfl⟩
  rw [← hG_1] at hI
  have c_G_1 : G_1 ts = some (q, cR (K.2.1 4) 0 (fun _ => none)) := by rw [hG_1, gset_ne (Ne.symm hts.1)]; exact hc1
  have o_G_1 : G_1 t = some (h, .inr (0, [.int (mod + (nI 1)), .ref K.2.2.1, .int (nI 0)])) := by rw [hG_1]; exact gset_eq _ _ _ _
  refine lv_aload_n hx hb dJx4a65c_addAll_f0b43_17 rfl (lv_at hl 0 rfl) ?_
  refine g_alen S hE hI (k := 4) c_G_1 rfl (v := nI 0) rfl dJx4a65c_addAll_f0b43_18 ?_
  refine lv_istore_n (lv' := [(3, .int (nI 0)), (2, .ref q), (0, .ref h), (1, .ref h2)]) hx hb dJx4a65c_addAll_f0b43_19 rfl hl (by decide) rfl (fun ls hl => ?_)
  refine lv_iload_n hx hb dJx4a65c_addAll_f0b43_20 rfl (lv_at hl 0 rfl) ?_
  refine lv_if_ne (tgt := 26) hx hb dJx4a65c_addAll_f0b43_21 (by decide) (fun c_21 => ?_) (fun c_21 => ?_)
  · skip
    have c_21 : 0 ≠ 0 := fun z => c_21 ((nI_eq (a := 0) (b := 0) (by omega) (by omega)).mpr z)
    exact absurd rfl c_21
  · skip
    have c_21 : 0 = 0 := (nI_eq (a := 0) (b := 0) (by omega) (by omega)).mp c_21
    refine lv_iconst (v := nI 0) hx hb dJx4a65c_addAll_f0b43_24 (by decide) ?_
    exact g_zret S hI hr hlocks (by omega) (by omega) (Or.inl rfl) dJx4a65c_addAll_f0b43_25 ⟨⟨_, rfl⟩, ⟨_, Or.inl ⟨rfl, o_G_1⟩⟩, fun u a b c9 => by rw [hG_1, hGc, gset_ne a, gset_ne b]⟩
set_option maxHeartbeats 4000000 in
set_option maxRecDepth 100000 in
/-- ArrayList.addAll(a list) -/
theorem c_addAllO (l : Launch) (K : gK) (G : gW) (t ts : gTag) (tb : Bool → gTag) (h : Nat) (mod : Int32) (t2 tc : gTag) (h2 n : Nat) (mod2 : Int32) (ar cap : Nat) (g : Nat → Option Nat) (C : String) (f : Nat → Nat) (hg : G t = some (h, cL mod K.2.2.1 0)) (hap : apart t tb) (hts : t ≠ ts ∧ ∀ b, tb b ≠ ts) (hg2 : G t2 = some (h2, cL mod2 ar n)) (hg3 : G tc = some (ar, cR (K.2.1 4) cap g)) (hn : 1 ≤ n ∧ n ≤ 10 ∧ n ≤ cap ∧ cap ≤ 200) (hne : tc ≠ ts) (hgf : ∀ j, j < n → g j = some (f j)) (hC : (C, "java/lang/Object") ∈ gCas) (hel : ∀ j, j < n → ∃ u e, u ≠ t ∧ (∀ b, u ≠ tb b) ∧ u ≠ ts ∧ G u = some (f j, e) ∧ isC K C e) : gM l yJx4a65c_addAll_f0b43 wsJx4a65c_addAll_f0b43 5 104 2 20 K [.ref h, .ref h2] G (fun r G1 => (∃ x, r = some (.int x)) ∧ ALg K t tb G1 h n f ∧ ∀ u, u ≠ t → u ≠ ts → (∀ b, u ≠ tb b) → G1 u = G u) (gNo) := by
  refine gM.of (cc := cJx4a65c_addAll_f0b43) (maxL := 6) (ret := (some .boolean)) (by decide) rfl (Nat.le_of_ble_eq_true rfl) ?_
  intro p e s m below meth c A S hr hlocks htab hname hE hA hI ls hl
  have hx := S.1
  have hb := S.2.1
  have hml := S.2.2.1
  have hl : lv_has ls 6 [(0, .ref h), (1, .ref h2)] := hl
  obtain ⟨H, hHe⟩ : ∃ z, z = s.heap := ⟨_, rfl⟩
  obtain ⟨locs, hLe⟩ : ∃ z : List Loc, z = [] := ⟨_, rfl⟩
  rw [← hHe, ← hLe]
  have hI : gI K A s G H locs := by rw [hHe, hLe]; exact hI
  clear hHe hLe
  refine lv_aload_n hx hb dJx4a65c_addAll_f0b43_0 rfl (lv_at hl 1 rfl) ?_
  refine g_callF (rest := []) S hE hI hA (c_toArrO l K _ t2 tc ts h2 n mod2 ar cap g C hg2 hg3 ⟨hn.2.2.1, hn.2.2.2, hn.2.1⟩ hne hC (fun i hi y hy => by rw [hgf i hi] at hy; cases hy; obtain ⟨u9, e9, h1, h3, h4, h5, h6⟩ := hel i hi; exact ⟨u9, e9, h4, h5, h6⟩)) gJx4a65c_addAll_f0b43_Jx4a65c_toArray_d5877_f42Jx4a65c rfl ⟨Nat.le_of_ble_eq_true rfl, Nat.le_of_ble_eq_true rfl⟩ hg2 hl.1 (Nat.le_of_ble_eq_true rfl) dJx4a65c_addAll_f0b43_1 ⟨by show _ ≤ 2; omega, by show _ ≤ 20; omega⟩ (fun rv Gc_1 H locs hp hI => ?_)
  obtain ⟨q, rfl, hGc⟩ := hp
  have ho1 : Gc_1 t = some (h, cL mod K.2.2.1 0) := by rw [hGc, gset_ne hts.1]; exact hg
  have hc1 : Gc_1 ts = some (q, cR (K.2.1 4) n (va_cpy g (fun _ => none) 0 0 n)) := by rw [hGc]; exact gset_eq _ _ _ _
  refine W.eq (g2 := F0 m 6 ls [.ref q]) rfl ?_
  refine lv_astore_n (lv' := [(2, .ref q), (0, .ref h), (1, .ref h2)]) hx hb dJx4a65c_addAll_f0b43_6 rfl hl (by decide) rfl (fun ls hl => ?_)
  refine lv_aload_n hx hb dJx4a65c_addAll_f0b43_7 rfl (lv_at hl 1 rfl) ?_
  refine lv_dup hx hb dJx4a65c_addAll_f0b43_8 rfl ?_
  refine g_get S hE hI (C := RJx4a65c) (T := TJx4a65c) (N := 3) (ref := "java/util/ArrayList") (fun w h => (List.mem_cons_of_mem _ (List.mem_append_right _ h))) ho1 rfl 0 (by decide) (List.mem_cons_of_mem _ (List.mem_append_left _ (List.mem_append_left _ (List.mem_of_getElem? (i := 0) rfl)))) (fun x9 h9 => u_same (S.2.2.2.2 _ (List.mem_cons_of_mem _ (List.mem_append_left _ (List.mem_append_left _ (List.mem_of_getElem? (i := 1) rfl))))) x9 h9) (v := .int mod) rfl dJx4a65c_addAll_f0b43_9 ?_
  refine lv_iconst (v := nI 1) hx hb dJx4a65c_addAll_f0b43_12 (by decide) ?_
  refine lv_iadd hx hb dJx4a65c_addAll_f0b43_13 ?_
  refine g_put S hE hI (C := RJx4a65c) (T := TJx4a65c) (N := 3) (ref := "java/util/ArrayList") (fun w h => (List.mem_cons_of_mem _ (List.mem_append_right _ h))) tyJx4a65c tyJx4a65c_ok nmJx4a65c ho1 rfl 0 (by decide) (List.mem_cons_of_mem _ (List.mem_append_left _ (List.mem_append_left _ (List.mem_of_getElem? (i := 0) rfl)))) (fun x9 h9 => u_same (S.2.2.2.2 _ (List.mem_cons_of_mem _ (List.mem_append_left _ (List.mem_append_left _ (List.mem_of_getElem? (i := 1) rfl))))) x9 h9) rfl rfl rfl (Nat.le_of_ble_eq_true rfl) dJx4a65c_addAll_f0b43_14 (fun H locs hI => ?_)
  have hI : gI K A s (gset Gc_1 t h (.inr (0, [.int (mod + (nI 1)), .ref K.2.2.1, .int (nI 0)]))) H locs := hI
  obtain ⟨G_1, hG_1⟩ : ∃ z, z = gset Gc_1 t h (.inr (0, [.int (mod + (nI 1)), .ref K.2.2.1, .int (nI 0)])) := ⟨_, rfl⟩
  rw [← hG_1] at hI
  have c_G_1 : G_1 ts = some (q, cR (K.2.1 4) n (va_cpy g (fun _ => none) 0 0 n)) := by rw [hG_1, gset_ne (Ne.symm hts.1)]; exact hc1
  have o_G_1 : G_1 t = some (h, .inr (0, [.int (mod + (nI 1)), .ref K.2.2.1, .int (nI 0)])) := by rw [hG_1]; exact gset_eq _ _ _ _
  refine lv_aload_n hx hb dJx4a65c_addAll_f0b43_17 rfl (lv_at hl 0 rfl) ?_
  refine g_alen S hE hI (k := 4) c_G_1 rfl (v := nI n) rfl dJx4a65c_addAll_f0b43_18 ?_
  refine lv_istore_n (lv' := [(3, .int (nI n)), (2, .ref q), (0, .ref h), (1, .ref h2)]) hx hb dJx4a65c_addAll_f0b43_19 rfl hl (by decide) rfl (fun ls hl => ?_)
  refine lv_iload_n hx hb dJx4a65c_addAll_f0b43_20 rfl (lv_at hl 0 rfl) ?_
  refine lv_if_ne (tgt := 26) hx hb dJx4a65c_addAll_f0b43_21 (by decide) (fun c_21 => ?_) (fun c_21 => ?_)
  · skip
    have c_21 : n ≠ 0 := fun z => c_21 ((nI_eq (a := n) (b := 0) (by omega) (by omega)).mpr z)
    refine lv_iload_n hx hb dJx4a65c_addAll_f0b43_26 rfl (lv_at hl 0 rfl) ?_
    refine lv_aload_n hx hb dJx4a65c_addAll_f0b43_27 rfl (lv_at hl 2 rfl) ?_
    refine g_get S hE hI (C := RJx4a65c) (T := TJx4a65c) (N := 3) (ref := "java/util/ArrayList") (fun w h => (List.mem_cons_of_mem _ (List.mem_append_right _ h))) o_G_1 rfl 1 (by decide) (List.mem_cons_of_mem _ (List.mem_append_left _ (List.mem_append_left _ (List.mem_of_getElem? (i := 2) rfl)))) (fun _ h9 => h9) (v := .ref K.2.2.1) rfl dJx4a65c_addAll_f0b43_28 ?_
    refine lv_dup hx hb dJx4a65c_addAll_f0b43_31 rfl ?_
    refine lv_astore (lv' := [(4, .ref K.2.2.1), (3, .int (nI n)), (2, .ref q), (0, .ref h), (1, .ref h2)]) hx hb dJx4a65c_addAll_f0b43_32 hl (by decide) rfl (fun ls hl => ?_)
    refine g_tlen S hE hI dJx4a65c_addAll_f0b43_34 ?_
    refine lv_aload_n hx hb dJx4a65c_addAll_f0b43_35 rfl (lv_at hl 3 rfl) ?_
    refine g_get S hE hI (C := RJx4a65c) (T := TJx4a65c) (N := 3) (ref := "java/util/ArrayList") (fun w h => (List.mem_cons_of_mem _ (List.mem_append_right _ h))) o_G_1 rfl 2 (by decide) (List.mem_cons_of_mem _ (List.mem_append_left _ (List.mem_append_left _ (List.mem_of_getElem? (i := 3) rfl)))) (fun _ h9 => h9) (v := .int (nI 0)) rfl dJx4a65c_addAll_f0b43_36 ?_
    refine lv_dup hx hb dJx4a65c_addAll_f0b43_39 rfl ?_
    refine lv_istore (lv' := [(5, .int (nI 0)), (4, .ref K.2.2.1), (3, .int (nI n)), (2, .ref q), (0, .ref h), (1, .ref h2)]) hx hb dJx4a65c_addAll_f0b43_40 hl (by decide) rfl (fun ls hl => ?_)
    refine t_isub hx hb dJx4a65c_addAll_f0b43_42 (v := nI 0) (by decide) ?_
    refine lv_icmp_le (tgt := 56) hx hb dJx4a65c_addAll_f0b43_43 (by decide) (fun c_43 => ?_) (fun c_43 => ?_)
    · skip
      have c_43 : n ≤ 0 := (nI_leI (a := n) (b := 0) (by omega) (by omega)).mp c_43
      exact absurd c_43 (by omega)
    · skip
      have c_43 : 0 < n := Nat.not_le.mp (fun z => c_43 ((nI_leI (a := n) (b := 0) (by omega) (by omega)).mpr z))
      refine lv_aload_n hx hb dJx4a65c_addAll_f0b43_46 rfl (lv_at hl 4 rfl) ?_
      refine lv_iload hx hb dJx4a65c_addAll_f0b43_47 (lv_at hl 0 rfl) ?_
      refine lv_iload_n hx hb dJx4a65c_addAll_f0b43_49 rfl (lv_at hl 2 rfl) ?_
      refine t_iadd hx hb dJx4a65c_addAll_f0b43_50 (v := nI n) (by rw [nI_add, Nat.zero_add]) ?_
      refine g_callV (As := [.int (nI n)]) (rest := []) (b := h) (n := 1) S hE hI hA (c_growE l K _ t (tb true) h (mod + nI 1) n o_G_1 (hap.1 true) (by omega)) gJx4a65c_addAll_f0b43_Jx4a65c_grow_92f84 rfl (by decide +kernel) ⟨Nat.le_of_ble_eq_true rfl, Nat.le_of_ble_eq_true rfl⟩ (g_hro hE hI o_G_1 rfl) rfl hl.1 rfl (Nat.le_of_ble_eq_true rfl) dJx4a65c_addAll_f0b43_51 ⟨by show _ ≤ 2; omega, by show _ ≤ 20; omega⟩ (fun E ce q9 Gx H1 locs1 hx9 => hx9.elim) (fun rv Gc_51 H locs hp hI => ?_)
      obtain ⟨q2, rfl, hGd⟩ := hp
      have ho2 : Gc_51 t = some (h, cL (mod + nI 1) q2 0) := by rw [hGd]; exact gset_eq _ _ _ _
      have hd2 : Gc_51 (tb true) = some (q2, cR (K.2.1 4) (max 10 n) (fun _ => none)) := by rw [hGd, gset_ne (Ne.symm (hap.1 true))]; exact gset_eq _ _ _ _
      have hc2 : Gc_51 ts = some (q, cR (K.2.1 4) n (va_cpy g (fun _ => none) 0 0 n)) := by rw [hGd, gset_ne (Ne.symm hts.1), gset_ne (Ne.symm (hts.2 true))]; exact c_G_1
      refine W.eq (g2 := F0 m 54 ls [.ref q2]) rfl ?_
      refine lv_astore (lv' := [(4, .ref q2), (5, .int (nI 0)), (3, .int (nI n)), (2, .ref q), (0, .ref h), (1, .ref h2)]) hx hb dJx4a65c_addAll_f0b43_54 hl (by decide) rfl (fun ls hl => ?_)
      refine lv_aload_n hx hb dJx4a65c_addAll_f0b43_56 rfl (lv_at hl 3 rfl) ?_
      refine lv_iconst (v := nI 0) hx hb dJx4a65c_addAll_f0b43_57 (by decide) ?_
      refine lv_aload hx hb dJx4a65c_addAll_f0b43_58 (lv_at hl 0 rfl) ?_
      refine lv_iload hx hb dJx4a65c_addAll_f0b43_60 (lv_at hl 1 rfl) ?_
      refine lv_iload_n hx hb dJx4a65c_addAll_f0b43_62 rfl (lv_at hl 2 rfl) ?_
      refine g_copy S hE hI (k := n) (d := 0) (f := (va_cpy g (fun _ => none) 0 0 n)) (g := (fun _ => none)) hl.1 (List.mem_cons_of_mem _ (List.mem_append_left _ (List.mem_append_left _ (List.mem_of_getElem? (i := 4) rfl)))) (List.mem_cons_of_mem _ (List.mem_append_left _ (List.mem_append_left _ (List.mem_of_getElem? (i := 5) rfl)))) (List.mem_cons_of_mem _ (List.mem_append_left _ (List.mem_append_left _ (List.mem_of_getElem? (i := 6) rfl)))) (List.mem_cons_of_mem _ (List.mem_append_left _ (List.mem_append_left _ (List.mem_of_getElem? (i := 7) rfl)))) hc2 hd2 (Nat.le_refl _) (by omega) (by omega) (by omega) hC (fun i hi y hy => by rw [pk_cpy_in (Nat.zero_le _) (by omega), Nat.zero_add, Nat.sub_zero, hgf i hi] at hy; cases hy; obtain ⟨u9, e9, h1, h3, h4, h5, h6⟩ := hel i hi; exact ⟨u9, e9, by rw [hGd, gset_ne h1, gset_ne (h3 true), hG_1, gset_ne h1, hGc, gset_ne h4]; exact h5, h6⟩) (Nat.le_of_ble_eq_true rfl) (Nat.le_of_ble_eq_true rfl) dJx4a65c_addAll_f0b43_63 (fun H locs hI => ?_)
      have hI : gI K A s (gset Gc_51 (tb true) q2 (cR (K.2.1 4) (max 10 n) (va_cpy (va_cpy g (fun _ => none) 0 0 n) (fun _ => none) 0 0 n))) H locs := hI
      obtain ⟨G_2, hG_2⟩ : ∃ z, z = gset Gc_51 (tb true) q2 (cR (K.2.1 4) (max 10 n) (va_cpy (va_cpy g (fun _ => none) 0 0 n) (fun _ => none) 0 0 n)) := ⟨_, rfl⟩
      rw [← hG_2] at hI
      have o_G_2 : G_2 t = some (h, .inr (0, [.int (mod + nI 1), .ref q2, .int (nI 0)])) := by rw [hG_2, gset_ne (hap.1 true)]; exact ho2
      have c_G_2 : G_2 ts = some (q, cR (K.2.1 4) n (va_cpy g (fun _ => none) 0 0 n)) := by rw [hG_2, gset_ne (Ne.symm (hts.2 true))]; exact hc2
      have d_G_2 : G_2 (tb true) = some (q2, cR (K.2.1 4) (max 10 n) (va_cpy (va_cpy g (fun _ => none) 0 0 n) (fun _ => none) 0 0 n)) := by rw [hG_2]; exact gset_eq _ _ _ _
      refine lv_aload_n hx hb dJx4a65c_addAll_f0b43_66 rfl (lv_at hl 4 rfl) ?_
      refine lv_iload hx hb dJx4a65c_addAll_f0b43_67 (lv_at hl 1 rfl) ?_
      refine lv_iload_n hx hb dJx4a65c_addAll_f0b43_69 rfl (lv_at hl 2 rfl) ?_
      refine t_iadd hx hb dJx4a65c_addAll_f0b43_70 (v := nI n) (by rw [nI_add, Nat.zero_add]) ?_
      refine g_put S hE hI (C := RJx4a65c) (T := TJx4a65c) (N := 3) (ref := "java/util/ArrayList") (fun w h => (List.mem_cons_of_mem _ (List.mem_append_right _ h))) tyJx4a65c tyJx4a65c_ok nmJx4a65c o_G_2 rfl 2 (by decide) (List.mem_cons_of_mem _ (List.mem_append_left _ (List.mem_append_left _ (List.mem_of_getElem? (i := 3) rfl)))) (fun _ h9 => h9) rfl rfl rfl (Nat.le_of_ble_eq_true rfl) dJx4a65c_addAll_f0b43_71 (fun H locs hI => ?_)
      have hI : gI K A s (gset G_2 t h (.inr (0, [.int (mod + nI 1), .ref q2, .int (nI n)]))) H locs := hI
      obtain ⟨G_3, hG_3⟩ : ∃ z, z = gset G_2 t h (.inr (0, [.int (mod + nI 1), .ref q2, .int (nI n)])) := ⟨_, rfl⟩
      rw [← hG_3] at hI
      have c_G_3 : G_3 ts = some (q, cR (K.2.1 4) n (va_cpy g (fun _ => none) 0 0 n)) := by rw [hG_3, gset_ne (Ne.symm hts.1)]; exact c_G_2
      have d_G_3 : G_3 (tb true) = some (q2, cR (K.2.1 4) (max 10 n) (va_cpy (va_cpy g (fun _ => none) 0 0 n) (fun _ => none) 0 0 n)) := by rw [hG_3, gset_ne (Ne.symm (hap.1 true))]; exact d_G_2
      have o_G_3 : G_3 t = some (h, .inr (0, [.int (mod + nI 1), .ref q2, .int (nI n)])) := by rw [hG_3]; exact gset_eq _ _ _ _
      refine lv_iconst (v := nI 1) hx hb dJx4a65c_addAll_f0b43_74 (by decide) ?_
      have hx9 : ALg K t tb G_3 h n f := ⟨_, Or.inr ⟨true, q2, max 10 n, _, o_G_3, d_G_3, by omega, by omega, fun j hj => (pk_cpy_in (Nat.zero_le _) (by omega)).trans (by rw [Nat.zero_add, Nat.sub_zero]; exact (pk_cpy_in (Nat.zero_le _) (by omega)).trans (by rw [Nat.zero_add]; exact hgf j hj))⟩⟩
      exact g_zret S hI hr hlocks (by omega) (by omega) (Or.inr rfl) dJx4a65c_addAll_f0b43_75 ⟨⟨_, rfl⟩, hx9, fun u a b c9 => by rw [hG_3, hG_2, hGd, hG_1, hGc, gset_ne a, gset_ne (c9 true), gset_ne a, gset_ne (c9 true), gset_ne a, gset_ne b]⟩
  · skip
    have c_21 : n = 0 := (nI_eq (a := n) (b := 0) (by omega) (by omega)).mp c_21
    exact absurd c_21 (by omega)
