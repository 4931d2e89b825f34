/-! the calls of the class that catch -/
abbrev lPost (K : gK) (L1 L2 : Nat → Nat → Nat) (M : Nat → Nat) (hy ho : Nat) (G : gW) (o : oT) : Option Value → gW → Prop := fun v G1 => v = some (.int (nI o.1)) ∧ YardC K L1 L2 M hy G1 o.2.2 ∧ (∃ f1 : Nat → Int64, G1 (20, 0, 0) = some (ho, .inl (K.2.1 1, 1, .inr (.inl f1))) ∧ (o.1 = 0 → f1 0 = o.2.1.toInt64)) ∧ ∀ t : gTag, 5 ≤ t.1 → t.1 ≠ 20 → G1 t = G t
theorem lThrow {K : gK} {L1 L2 : Nat → Nat → Nat} {M : Nat → Nat} {hy ho k : Nat} {G G1 : gW} {o : oT} {f0 : Nat → Int64} (hk : o.1 = k) (h0 : k ≠ 0) (hY : YardC K L1 L2 M hy G1 o.2.2) (ha : AgY G G1) (hout : G (20, 0, 0) = some (ho, .inl (K.2.1 1, 1, .inr (.inl f0)))) : lPost K L1 L2 M hy ho G o (some (.int (nI k))) G1 := by
  subst hk
  exact ⟨rfl, hY, ⟨f0, (ha _ (by decide)).trans hout, fun z => absurd z h0⟩, fun t h5 _ => ha t h5⟩
theorem lOk {K : gK} {L1 L2 : Nat → Nat → Nat} {M : Nat → Nat} {hy ho : Nat} {G G1 G2 : gW} {o : oT} {f0 : Nat → Int64} (h0 : o.1 = 0) (hY : YardC K L1 L2 M hy G1 o.2.2) (ha : AgY G G1) (hg : G2 = gset G1 (20, 0, 0) ho (.inl (K.2.1 1, 1, .inr (.inl (vp_updL f0 0 o.2.1.toInt64))))) : lPost K L1 L2 M hy ho G o (some (.int (nI 0))) G2 := by
  refine ⟨by rw [h0], ?_, ⟨_, by rw [hg]; exact gset_eq _ _ _ _, fun _ => ?_⟩, fun t h5 h20 => ?_⟩
  · rw [hg]; exact hY.moved (fun t ht => gset_ne (fun z => by rw [z] at ht; exact absurd ht (by decide)))
  · unfold vp_updL; exact if_pos rfl
  · rw [hg, gset_ne (fun z => h20 (by rw [z]))]; exact ha t h5
theorem lTwo {n : Nat} (h0 : n ≠ 0) (h : n ≤ 2) : n = 1 ∨ n = 2 := by omega
theorem lThree {n : Nat} (h0 : n ≠ 0) (h : n ≤ 3) : n = 1 ∨ n = 2 ∨ n = 3 := by omega
theorem h_slab_le {y : YV} (w : Int32) (h : Int32) (g : Int32) : (oSlab y w h g).1 ≤ 2 := by
  unfold oSlab
  repeat' split
  all_goals exact Nat.le_of_ble_eq_true rfl
set_option maxHeartbeats 4000000 in
set_option maxRecDepth 100000 in
/-- the law's call of slab -/
theorem h_slab (l : Launch) (K : gK) (G : gW) (L1 L2 : Nat → Nat → Nat) (M : Nat → Nat) (hy ho : Nat) (f0 : Nat → Int64) (y : YV) (w : Int32) (h : Int32) (g : Int32) (hlS : l.stackTraces = false) (hy0 : YardC K L1 L2 M hy G y) (hout : G (20, 0, 0) = some (ho, .inl (K.2.1 1, 1, .inr (.inl f0)))) : gM l yL_slab wsL_slab 8 156 1 6 K [.ref hy, .int w, .int h, .int g, .ref ho] G (lPost K L1 L2 M hy ho G (oSlab y w h g)) (gNo) := by
  refine gM.ofH (hh := [(0, 12, 15, 13), (0, 12, 19, 15)]) (cc := cL_slab) (maxL := 6) (ret := (some .int)) (by decide) rfl (Nat.le_of_ble_eq_true rfl) ?_
  intro p e s m below meth c A S hr hlocks htab hname hE hA hI ls hl
  have hx := S.1
  have hb := S.2.1
  have hml := S.2.2.1
  have hl : lv_has ls 6 [(0, .ref hy), (1, .int w), (2, .int h), (3, .int g), (4, .ref ho)] := hl
  obtain ⟨H, hHe⟩ : ∃ z, z = s.heap := ⟨_, rfl⟩
  obtain ⟨locs, hLe⟩ : ∃ z : List Loc, z = [] := ⟨_, rfl⟩
  rw [← hHe, ← hLe]
  have hI : gI K A s G H locs := by rw [hHe, hLe]; exact hI
  clear hHe hLe
  refine lv_aload hx hb dL_slab_0 (lv_at hl 4 rfl) ?_
  refine lv_iconst (v := nI 0) hx hb dL_slab_2 (by decide) ?_
  refine lv_aload_n hx hb dL_slab_3 rfl (lv_at hl 0 rfl) ?_
  refine lv_iload_n hx hb dL_slab_4 rfl (lv_at hl 1 rfl) ?_
  refine lv_iload_n hx hb dL_slab_5 rfl (lv_at hl 2 rfl) ?_
  refine lv_iload_n hx hb dL_slab_6 rfl (lv_at hl 3 rfl) ?_
  refine g_callV (As := [.int w, .int h, .int g]) (rest := [.int (nI 0), .ref ho]) (b := hy) (n := 3) S hE hI hA (o_slab l K _ L1 L2 M hy y w h g hlS hy0) gL_slab_X4_slab rfl (by decide +kernel) ⟨Nat.le_of_ble_eq_true rfl, Nat.le_of_ble_eq_true rfl⟩ (g_hro hE hI hy0.1 rfl) rfl hl.1 rfl (Nat.le_of_ble_eq_true rfl) dL_slab_7 ⟨by show _ ≤ 1; omega, by show _ ≤ 6; omega⟩ (fun E ce q9 Gx H locs hx9 hI hce hcv hcl => ?_) (fun rv Gc_7 H locs hp hI => ?_)
  · skip
    obtain ⟨hne, rfl, hY1, ha1⟩ := hx9
    rcases lTwo hne (h_slab_le (y := y) (w := w) (h := h) (g := g)) with hk | hk
    · skip
      rw [hk] at hcl
      refine g_catch S hE (E := eIA) (name := "java/lang/IllegalArgumentException") (pc := 7) [] ⟨0, 12, 15, 13⟩ [⟨0, 12, 19, 15⟩] htab (fun z hz => nomatch hz) rfl (by decide) (List.mem_cons_of_mem _ (List.mem_append_left _ (List.mem_append_left _ (List.mem_append_left _ (List.mem_append_left _ (List.mem_append_left _ (List.mem_append_left _ (List.mem_of_getElem? (i := 0) rfl)))))))) (by decide) hce hcv hcl ?_
      show W _ _ _ _ _ _ _ _ _ _ _ _ _ _ _ (F0 m 15 ls [.ref q9])
      refine lv_astore (lv' := [(5, .ref q9), (0, .ref hy), (1, .int w), (2, .int h), (3, .int g), (4, .ref ho)]) hx hb dL_slab_15 hl (by decide) rfl (fun ls hl => ?_)
      refine lv_iconst (v := nI 1) hx hb dL_slab_17 (by decide) ?_
      exact g_iret S hI hr hlocks (by omega) (by omega) dL_slab_18 (lThrow hk (by decide) hY1 ha1 hout)
    · skip
      rw [hk] at hcl
      refine g_catch S hE (E := eIS) (name := "java/lang/IllegalStateException") (pc := 7) [⟨0, 12, 15, 13⟩] ⟨0, 12, 19, 15⟩ [] htab (fun z hz => by rcases List.mem_singleton.mp hz with rfl; exact Or.inr ⟨by decide, "java/lang/IllegalArgumentException", (List.mem_cons_of_mem _ (List.mem_append_left _ (List.mem_append_left _ (List.mem_append_left _ (List.mem_append_left _ (List.mem_append_left _ (List.mem_append_left _ (List.mem_of_getElem? (i := 0) rfl)))))))), by decide⟩) rfl (by decide) (List.mem_cons_of_mem _ (List.mem_append_left _ (List.mem_append_left _ (List.mem_append_left _ (List.mem_append_left _ (List.mem_append_left _ (List.mem_append_left _ (List.mem_of_getElem? (i := 1) rfl)))))))) (by decide) hce hcv hcl ?_
      show W _ _ _ _ _ _ _ _ _ _ _ _ _ _ _ (F0 m 19 ls [.ref q9])
      refine lv_astore (lv' := [(5, .ref q9), (0, .ref hy), (1, .int w), (2, .int h), (3, .int g), (4, .ref ho)]) hx hb dL_slab_19 hl (by decide) rfl (fun ls hl => ?_)
      refine lv_iconst (v := nI 2) hx hb dL_slab_21 (by decide) ?_
      exact g_iret S hI hr hlocks (by omega) (by omega) dL_slab_22 (lThrow hk (by decide) hY1 ha1 hout)
  obtain ⟨ho0, rfl, hY1, ha1⟩ := hp
  have hout1 : Gc_7 (20, 0, 0) = some (ho, .inl (K.2.1 1, 1, .inr (.inl f0))) := (ha1 _ (by decide)).trans hout
  refine W.eq (g2 := F0 m 10 ls [.int ((oSlab y w h g).2.1), .int (nI 0), .ref ho]) rfl ?_
  refine lv_i2l hx hb dL_slab_10 rfl ?_
  refine g_last S hE hI (j := 0) (f := f0) hout1 rfl (by omega) (Nat.le_of_ble_eq_true rfl) dL_slab_11 (fun H locs hI => ?_)
  have hI : gI K A s (gset Gc_7 (20, 0, 0) ho (.inl (K.2.1 1, 1, .inr (.inl (vp_updL f0 0 (((oSlab y w h g).2.1).toInt64)))))) H locs := hI
  obtain ⟨G_1, hG_1⟩ : ∃ z, z = gset Gc_7 (20, 0, 0) ho (.inl (K.2.1 1, 1, .inr (.inl (vp_updL f0 0 (((oSlab y w h g).2.1).toInt64))))) := ⟨_, rfl⟩
  rw [← hG_1] at hI
  have out_G_1 : G_1 (20, 0, 0) = some (ho, .inl (K.2.1 1, 1, .inr (.inl (vp_updL f0 0 (((oSlab y w h g).2.1).toInt64))))) := by rw [hG_1]; exact gset_eq _ _ _ _
  refine lv_goto (tgt := 23) hx hb dL_slab_12 (by decide) ?_
  refine lv_iconst (v := nI 0) hx hb dL_slab_23 (by decide) ?_
  exact g_iret S hI hr hlocks (by omega) (by omega) dL_slab_24 (lOk ho0 hY1 ha1 hG_1)
theorem h_flaw_le {y : YV} (x : Int32) (px : Int32) (py : Int32) : (oFlaw y x px py).1 ≤ 2 := by
  unfold oFlaw
  repeat' split
  all_goals exact Nat.le_of_ble_eq_true rfl
set_option maxHeartbeats 4000000 in
set_option maxRecDepth 100000 in
/-- the law's call of flaw -/
theorem h_flaw (l : Launch) (K : gK) (G : gW) (L1 L2 : Nat → Nat → Nat) (M : Nat → Nat) (hy ho : Nat) (f0 : Nat → Int64) (y : YV) (x : Int32) (px : Int32) (py : Int32) (hlS : l.stackTraces = false) (hy0 : YardC K L1 L2 M hy G y) (hout : G (20, 0, 0) = some (ho, .inl (K.2.1 1, 1, .inr (.inl f0)))) : gM l yL_flaw wsL_flaw 8 156 1 6 K [.ref hy, .int x, .int px, .int py, .ref ho] G (lPost K L1 L2 M hy ho G (oFlaw y x px py)) (gNo) := by
  refine gM.ofH (hh := [(0, 12, 15, 20), (0, 12, 19, 15)]) (cc := cL_flaw) (maxL := 6) (ret := (some .int)) (by decide) rfl (Nat.le_of_ble_eq_true rfl) ?_
  intro p e s m below meth c A S hr hlocks htab hname hE hA hI ls hl
  have hx := S.1
  have hb := S.2.1
  have hml := S.2.2.1
  have hl : lv_has ls 6 [(0, .ref hy), (1, .int x), (2, .int px), (3, .int py), (4, .ref ho)] := hl
  obtain ⟨H, hHe⟩ : ∃ z, z = s.heap := ⟨_, rfl⟩
  obtain ⟨locs, hLe⟩ : ∃ z : List Loc, z = [] := ⟨_, rfl⟩
  rw [← hHe, ← hLe]
  have hI : gI K A s G H locs := by rw [hHe, hLe]; exact hI
  clear hHe hLe
  refine lv_aload hx hb dL_flaw_0 (lv_at hl 4 rfl) ?_
  refine lv_iconst (v := nI 0) hx hb dL_flaw_2 (by decide) ?_
  refine lv_aload_n hx hb dL_flaw_3 rfl (lv_at hl 0 rfl) ?_
  refine lv_iload_n hx hb dL_flaw_4 rfl (lv_at hl 1 rfl) ?_
  refine lv_iload_n hx hb dL_flaw_5 rfl (lv_at hl 2 rfl) ?_
  refine lv_iload_n hx hb dL_flaw_6 rfl (lv_at hl 3 rfl) ?_
  refine g_callV (As := [.int x, .int px, .int py]) (rest := [.int (nI 0), .ref ho]) (b := hy) (n := 3) S hE hI hA (o_flaw l K _ L1 L2 M hy y x px py hlS hy0) gL_flaw_X4_flaw rfl (by decide +kernel) ⟨Nat.le_of_ble_eq_true rfl, Nat.le_of_ble_eq_true rfl⟩ (g_hro hE hI hy0.1 rfl) rfl hl.1 rfl (Nat.le_of_ble_eq_true rfl) dL_flaw_7 ⟨by show _ ≤ 1; omega, by show _ ≤ 6; omega⟩ (fun E ce q9 Gx H locs hx9 hI hce hcv hcl => ?_) (fun rv Gc_7 H locs hp hI => ?_)
  · skip
    obtain ⟨hne, rfl, hY1, ha1⟩ := hx9
    rcases lTwo hne (h_flaw_le (y := y) (x := x) (px := px) (py := py)) with hk | hk
    · skip
      rw [hk] at hcl
      refine g_catch S hE (E := eIO) (name := "java/lang/IndexOutOfBoundsException") (pc := 7) [] ⟨0, 12, 15, 20⟩ [⟨0, 12, 19, 15⟩] htab (fun z hz => nomatch hz) rfl (by decide) (List.mem_cons_of_mem _ (List.mem_append_left _ (List.mem_append_left _ (List.mem_append_left _ (List.mem_append_left _ (List.mem_append_left _ (List.mem_append_left _ (List.mem_of_getElem? (i := 0) rfl)))))))) (by decide) hce hcv hcl ?_
      show W _ _ _ _ _ _ _ _ _ _ _ _ _ _ _ (F0 m 15 ls [.ref q9])
      refine lv_astore (lv' := [(5, .ref q9), (0, .ref hy), (1, .int x), (2, .int px), (3, .int py), (4, .ref ho)]) hx hb dL_flaw_15 hl (by decide) rfl (fun ls hl => ?_)
      refine lv_iconst (v := nI 1) hx hb dL_flaw_17 (by decide) ?_
      exact g_iret S hI hr hlocks (by omega) (by omega) dL_flaw_18 (lThrow hk (by decide) hY1 ha1 hout)
    · skip
      rw [hk] at hcl
      refine g_catch S hE (E := eIS) (name := "java/lang/IllegalStateException") (pc := 7) [⟨0, 12, 15, 20⟩] ⟨0, 12, 19, 15⟩ [] htab (fun z hz => by rcases List.mem_singleton.mp hz with rfl; exact Or.inr ⟨by decide, "java/lang/IndexOutOfBoundsException", (List.mem_cons_of_mem _ (List.mem_append_left _ (List.mem_append_left _ (List.mem_append_left _ (List.mem_append_left _ (List.mem_append_left _ (List.mem_append_left _ (List.mem_of_getElem? (i := 0) rfl)))))))), by decide⟩) rfl (by decide) (List.mem_cons_of_mem _ (List.mem_append_left _ (List.mem_append_left _ (List.mem_append_left _ (List.mem_append_left _ (List.mem_append_left _ (List.mem_append_left _ (List.mem_of_getElem? (i := 1) rfl)))))))) (by decide) hce hcv hcl ?_
      show W _ _ _ _ _ _ _ _ _ _ _ _ _ _ _ (F0 m 19 ls [.ref q9])
      refine lv_astore (lv' := [(5, .ref q9), (0, .ref hy), (1, .int x), (2, .int px), (3, .int py), (4, .ref ho)]) hx hb dL_flaw_19 hl (by decide) rfl (fun ls hl => ?_)
      refine lv_iconst (v := nI 2) hx hb dL_flaw_21 (by decide) ?_
      exact g_iret S hI hr hlocks (by omega) (by omega) dL_flaw_22 (lThrow hk (by decide) hY1 ha1 hout)
  obtain ⟨ho0, rfl, hY1, ha1⟩ := hp
  have hout1 : Gc_7 (20, 0, 0) = some (ho, .inl (K.2.1 1, 1, .inr (.inl f0))) := (ha1 _ (by decide)).trans hout
  refine W.eq (g2 := F0 m 10 ls [.int ((oFlaw y x px py).2.1), .int (nI 0), .ref ho]) rfl ?_
  refine lv_i2l hx hb dL_flaw_10 rfl ?_
  refine g_last S hE hI (j := 0) (f := f0) hout1 rfl (by omega) (Nat.le_of_ble_eq_true rfl) dL_flaw_11 (fun H locs hI => ?_)
  have hI : gI K A s (gset Gc_7 (20, 0, 0) ho (.inl (K.2.1 1, 1, .inr (.inl (vp_updL f0 0 (((oFlaw y x px py).2.1).toInt64)))))) H locs := hI
  obtain ⟨G_1, hG_1⟩ : ∃ z, z = gset Gc_7 (20, 0, 0) ho (.inl (K.2.1 1, 1, .inr (.inl (vp_updL f0 0 (((oFlaw y x px py).2.1).toInt64))))) := ⟨_, rfl⟩
  rw [← hG_1] at hI
  have out_G_1 : G_1 (20, 0, 0) = some (ho, .inl (K.2.1 1, 1, .inr (.inl (vp_updL f0 0 (((oFlaw y x px py).2.1).toInt64))))) := by rw [hG_1]; exact gset_eq _ _ _ _
  refine lv_goto (tgt := 23) hx hb dL_flaw_12 (by decide) ?_
  refine lv_iconst (v := nI 0) hx hb dL_flaw_23 (by decide) ?_
  exact g_iret S hI hr hlocks (by omega) (by omega) dL_flaw_24 (lOk ho0 hY1 ha1 hG_1)
theorem h_kerf_le {y : YV} (x : Int32) : (oKerf y x).1 ≤ 1 := by
  unfold oKerf
  repeat' split
  all_goals exact Nat.le_of_ble_eq_true rfl
set_option maxHeartbeats 4000000 in
set_option maxRecDepth 100000 in
/-- the law's call of kerf -/
theorem h_kerf (l : Launch) (K : gK) (G : gW) (L1 L2 : Nat → Nat → Nat) (M : Nat → Nat) (hy ho : Nat) (f0 : Nat → Int64) (y : YV) (x : Int32) (hlS : l.stackTraces = false) (hy0 : YardC K L1 L2 M hy G y) (hout : G (20, 0, 0) = some (ho, .inl (K.2.1 1, 1, .inr (.inl f0)))) : gM l yL_kerf wsL_kerf 7 132 1 6 K [.ref hy, .int x, .ref ho] G (lPost K L1 L2 M hy ho G (oKerf y x)) (gNo) := by
  refine gM.ofH (hh := [(0, 9, 12, 13)]) (cc := cL_kerf) (maxL := 4) (ret := (some .int)) (by decide) rfl (Nat.le_of_ble_eq_true rfl) ?_
  intro p e s m below meth c A S hr hlocks htab hname hE hA hI ls hl
  have hx := S.1
  have hb := S.2.1
  have hml := S.2.2.1
  have hl : lv_has ls 4 [(0, .ref hy), (1, .int x), (2, .ref ho)] := hl
  obtain ⟨H, hHe⟩ : ∃ z, z = s.heap := ⟨_, rfl⟩
  obtain ⟨locs, hLe⟩ : ∃ z : List Loc, z = [] := ⟨_, rfl⟩
  rw [← hHe, ← hLe]
  have hI : gI K A s G H locs := by rw [hHe, hLe]; exact hI
  clear hHe hLe
  refine lv_aload_n hx hb dL_kerf_0 rfl (lv_at hl 2 rfl) ?_
  refine lv_iconst (v := nI 0) hx hb dL_kerf_1 (by decide) ?_
  refine lv_aload_n hx hb dL_kerf_2 rfl (lv_at hl 0 rfl) ?_
  refine lv_iload_n hx hb dL_kerf_3 rfl (lv_at hl 1 rfl) ?_
  refine g_callV (As := [.int x]) (rest := [.int (nI 0), .ref ho]) (b := hy) (n := 1) S hE hI hA (o_kerf l K _ L1 L2 M hy y x hlS hy0) gL_kerf_X4_kerf rfl (by decide +kernel) ⟨Nat.le_of_ble_eq_true rfl, Nat.le_of_ble_eq_true rfl⟩ (g_hro hE hI hy0.1 rfl) rfl hl.1 rfl (Nat.le_of_ble_eq_true rfl) dL_kerf_4 ⟨by show _ ≤ 1; omega, by show _ ≤ 6; omega⟩ (fun E ce q9 Gx H locs hx9 hI hce hcv hcl => ?_) (fun rv Gc_4 H locs hp hI => ?_)
  · skip
    obtain ⟨hne, rfl, hY1, ha1⟩ := hx9
    have hk : (oKerf y x).1 = 1 := by have h9 := h_kerf_le (y := y) (x := x); omega
    refine g_catch S hE (E := eIA) (name := "java/lang/IllegalArgumentException") (pc := 4) [] ⟨0, 9, 12, 13⟩ [] htab (fun z hz => nomatch hz) rfl (by decide) (List.mem_cons_of_mem _ (List.mem_append_left _ (List.mem_append_left _ (List.mem_append_left _ (List.mem_of_getElem? (i := 0) rfl))))) (by decide) hce hcv hcl ?_
    show W _ _ _ _ _ _ _ _ _ _ _ _ _ _ _ (F0 m 12 ls [.ref q9])
    refine lv_astore_n (lv' := [(3, .ref q9), (0, .ref hy), (1, .int x), (2, .ref ho)]) hx hb dL_kerf_12 rfl hl (by decide) rfl (fun ls hl => ?_)
    refine lv_iconst (v := nI 1) hx hb dL_kerf_13 (by decide) ?_
    exact g_iret S hI hr hlocks (by omega) (by omega) dL_kerf_14 (lThrow hk (by decide) hY1 ha1 hout)
  obtain ⟨ho0, rfl, hY1, ha1⟩ := hp
  have hout1 : Gc_4 (20, 0, 0) = some (ho, .inl (K.2.1 1, 1, .inr (.inl f0))) := (ha1 _ (by decide)).trans hout
  refine W.eq (g2 := F0 m 7 ls [.int ((oKerf y x).2.1), .int (nI 0), .ref ho]) rfl ?_
  refine lv_i2l hx hb dL_kerf_7 rfl ?_
  refine g_last S hE hI (j := 0) (f := f0) hout1 rfl (by omega) (Nat.le_of_ble_eq_true rfl) dL_kerf_8 (fun H locs hI => ?_)
  have hI : gI K A s (gset Gc_4 (20, 0, 0) ho (.inl (K.2.1 1, 1, .inr (.inl (vp_updL f0 0 (((oKerf y x).2.1).toInt64)))))) H locs := hI
  obtain ⟨G_1, hG_1⟩ : ∃ z, z = gset Gc_4 (20, 0, 0) ho (.inl (K.2.1 1, 1, .inr (.inl (vp_updL f0 0 (((oKerf y x).2.1).toInt64))))) := ⟨_, rfl⟩
  rw [← hG_1] at hI
  have out_G_1 : G_1 (20, 0, 0) = some (ho, .inl (K.2.1 1, 1, .inr (.inl (vp_updL f0 0 (((oKerf y x).2.1).toInt64))))) := by rw [hG_1]; exact gset_eq _ _ _ _
  refine lv_goto (tgt := 15) hx hb dL_kerf_9 (by decide) ?_
  refine lv_iconst (v := nI 0) hx hb dL_kerf_15 (by decide) ?_
  exact g_iret S hI hr hlocks (by omega) (by omega) dL_kerf_16 (lOk ho0 hY1 ha1 hG_1)
theorem h_cut_le {y : YV} (x : Int32) (dn : Bool) (px : Int32) : (oCut y x dn px).1 ≤ 3 := by
  unfold oCut
  repeat' split
  all_goals exact Nat.le_of_ble_eq_true rfl
set_option maxHeartbeats 4000000 in
set_option maxRecDepth 100000 in
/-- the law's call of cut -/
theorem h_cut (l : Launch) (K : gK) (G : gW) (L1 L2 : Nat → Nat → Nat) (M : Nat → Nat) (hy ho : Nat) (f0 : Nat → Int64) (y : YV) (x : Int32) (dn : Bool) (px : Int32) (hlS : l.stackTraces = false) (hy0 : YardC K L1 L2 M hy G y) (hout : G (20, 0, 0) = some (ho, .inl (K.2.1 1, 1, .inr (.inl f0)))) : gM l yL_cut wsL_cut 8 156 1 6 K [.ref hy, .int x, .int (bI dn), .int px, .ref ho] G (lPost K L1 L2 M hy ho G (oCut y x dn px)) (gNo) := by
  refine gM.ofH (hh := [(0, 12, 15, 20), (0, 12, 19, 13), (0, 12, 23, 15)]) (cc := cL_cut) (maxL := 6) (ret := (some .int)) (by decide) rfl (Nat.le_of_ble_eq_true rfl) ?_
  intro p e s m below meth c A S hr hlocks htab hname hE hA hI ls hl
  have hx := S.1
  have hb := S.2.1
  have hml := S.2.2.1
  have hl : lv_has ls 6 [(0, .ref hy), (1, .int x), (2, .int (bI dn)), (3, .int px), (4, .ref ho)] := hl
  obtain ⟨H, hHe⟩ : ∃ z, z = s.heap := ⟨_, rfl⟩
  obtain ⟨locs, hLe⟩ : ∃ z : List Loc, z = [] := ⟨_, rfl⟩
  rw [← hHe, ← hLe]
  have hI : gI K A s G H locs := by rw [hHe, hLe]; exact hI
  clear hHe hLe
  refine lv_aload hx hb dL_cut_0 (lv_at hl 4 rfl) ?_
  refine lv_iconst (v := nI 0) hx hb dL_cut_2 (by decide) ?_
  refine lv_aload_n hx hb dL_cut_3 rfl (lv_at hl 0 rfl) ?_
  refine lv_iload_n hx hb dL_cut_4 rfl (lv_at hl 1 rfl) ?_
  refine lv_iload_n hx hb dL_cut_5 rfl (lv_at hl 2 rfl) ?_
  refine lv_iload_n hx hb dL_cut_6 rfl (lv_at hl 3 rfl) ?_
  refine g_callV (As := [.int x, .int (bI dn), .int px]) (rest := [.int (nI 0), .ref ho]) (b := hy) (n := 3) S hE hI hA (o_cut l K _ L1 L2 M hy y x dn px hlS hy0) gL_cut_X4_cut rfl (by decide +kernel) ⟨Nat.le_of_ble_eq_true rfl, Nat.le_of_ble_eq_true rfl⟩ (g_hro hE hI hy0.1 rfl) rfl hl.1 rfl (Nat.le_of_ble_eq_true rfl) dL_cut_7 ⟨by show _ ≤ 1; omega, by show _ ≤ 6; omega⟩ (fun E ce q9 Gx H locs hx9 hI hce hcv hcl => ?_) (fun rv Gc_7 H locs hp hI => ?_)
  · skip
    obtain ⟨hne, rfl, hY1, ha1⟩ := hx9
    rcases lThree hne (h_cut_le (y := y) (x := x) (dn := dn) (px := px)) with hk | hk | hk
    · skip
      rw [hk] at hcl
      refine g_catch S hE (E := eIO) (name := "java/lang/IndexOutOfBoundsException") (pc := 7) [] ⟨0, 12, 15, 20⟩ [⟨0, 12, 19, 13⟩, ⟨0, 12, 23, 15⟩] htab (fun z hz => nomatch hz) rfl (by decide) (List.mem_cons_of_mem _ (List.mem_append_left _ (List.mem_append_left _ (List.mem_append_left _ (List.mem_append_left _ (List.mem_append_left _ (List.mem_append_left _ (List.mem_append_left _ (List.mem_of_getElem? (i := 0) rfl))))))))) (by decide) hce hcv hcl ?_
      show W _ _ _ _ _ _ _ _ _ _ _ _ _ _ _ (F0 m 15 ls [.ref q9])
      refine lv_astore (lv' := [(5, .ref q9), (0, .ref hy), (1, .int x), (2, .int (bI dn)), (3, .int px), (4, .ref ho)]) hx hb dL_cut_15 hl (by decide) rfl (fun ls hl => ?_)
      refine lv_iconst (v := nI 1) hx hb dL_cut_17 (by decide) ?_
      exact g_iret S hI hr hlocks (by omega) (by omega) dL_cut_18 (lThrow hk (by decide) hY1 ha1 hout)
    · skip
      rw [hk] at hcl
      refine g_catch S hE (E := eIA) (name := "java/lang/IllegalArgumentException") (pc := 7) [⟨0, 12, 15, 20⟩] ⟨0, 12, 19, 13⟩ [⟨0, 12, 23, 15⟩] htab (fun z hz => by rcases List.mem_singleton.mp hz with rfl; exact Or.inr ⟨by decide, "java/lang/IndexOutOfBoundsException", (List.mem_cons_of_mem _ (List.mem_append_left _ (List.mem_append_left _ (List.mem_append_left _ (List.mem_append_left _ (List.mem_append_left _ (List.mem_append_left _ (List.mem_append_left _ (List.mem_of_getElem? (i := 0) rfl))))))))), by decide⟩) rfl (by decide) (List.mem_cons_of_mem _ (List.mem_append_left _ (List.mem_append_left _ (List.mem_append_left _ (List.mem_append_left _ (List.mem_append_left _ (List.mem_append_left _ (List.mem_append_left _ (List.mem_of_getElem? (i := 1) rfl))))))))) (by decide) hce hcv hcl ?_
      show W _ _ _ _ _ _ _ _ _ _ _ _ _ _ _ (F0 m 19 ls [.ref q9])
      refine lv_astore (lv' := [(5, .ref q9), (0, .ref hy), (1, .int x), (2, .int (bI dn)), (3, .int px), (4, .ref ho)]) hx hb dL_cut_19 hl (by decide) rfl (fun ls hl => ?_)
      refine lv_iconst (v := nI 2) hx hb dL_cut_21 (by decide) ?_
      exact g_iret S hI hr hlocks (by omega) (by omega) dL_cut_22 (lThrow hk (by decide) hY1 ha1 hout)
    · skip
      rw [hk] at hcl
      refine g_catch S hE (E := eIS) (name := "java/lang/IllegalStateException") (pc := 7) [⟨0, 12, 15, 20⟩, ⟨0, 12, 19, 13⟩] ⟨0, 12, 23, 15⟩ [] htab (fun z hz => by rcases List.mem_cons.mp hz with rfl | hz; exact Or.inr ⟨by decide, "java/lang/IndexOutOfBoundsException", (List.mem_cons_of_mem _ (List.mem_append_left _ (List.mem_append_left _ (List.mem_append_left _ (List.mem_append_left _ (List.mem_append_left _ (List.mem_append_left _ (List.mem_append_left _ (List.mem_of_getElem? (i := 0) rfl))))))))), by decide⟩; rcases List.mem_singleton.mp hz with rfl; exact Or.inr ⟨by decide, "java/lang/IllegalArgumentException", (List.mem_cons_of_mem _ (List.mem_append_left _ (List.mem_append_left _ (List.mem_append_left _ (List.mem_append_left _ (List.mem_append_left _ (List.mem_append_left _ (List.mem_append_left _ (List.mem_of_getElem? (i := 1) rfl))))))))), by decide⟩) rfl (by decide) (List.mem_cons_of_mem _ (List.mem_append_left _ (List.mem_append_left _ (List.mem_append_left _ (List.mem_append_left _ (List.mem_append_left _ (List.mem_append_left _ (List.mem_append_left _ (List.mem_of_getElem? (i := 2) rfl))))))))) (by decide) hce hcv hcl ?_
      show W _ _ _ _ _ _ _ _ _ _ _ _ _ _ _ (F0 m 23 ls [.ref q9])
      refine lv_astore (lv' := [(5, .ref q9), (0, .ref hy), (1, .int x), (2, .int (bI dn)), (3, .int px), (4, .ref ho)]) hx hb dL_cut_23 hl (by decide) rfl (fun ls hl => ?_)
      refine lv_iconst (v := nI 3) hx hb dL_cut_25 (by decide) ?_
      exact g_iret S hI hr hlocks (by omega) (by omega) dL_cut_26 (lThrow hk (by decide) hY1 ha1 hout)
  obtain ⟨ho0, rfl, hY1, ha1⟩ := hp
  have hout1 : Gc_7 (20, 0, 0) = some (ho, .inl (K.2.1 1, 1, .inr (.inl f0))) := (ha1 _ (by decide)).trans hout
  refine W.eq (g2 := F0 m 10 ls [.int ((oCut y x dn px).2.1), .int (nI 0), .ref ho]) rfl ?_
  refine lv_i2l hx hb dL_cut_10 rfl ?_
  refine g_last S hE hI (j := 0) (f := f0) hout1 rfl (by omega) (Nat.le_of_ble_eq_true rfl) dL_cut_11 (fun H locs hI => ?_)
  have hI : gI K A s (gset Gc_7 (20, 0, 0) ho (.inl (K.2.1 1, 1, .inr (.inl (vp_updL f0 0 (((oCut y x dn px).2.1).toInt64)))))) H locs := hI
  obtain ⟨G_1, hG_1⟩ : ∃ z, z = gset Gc_7 (20, 0, 0) ho (.inl (K.2.1 1, 1, .inr (.inl (vp_updL f0 0 (((oCut y x dn px).2.1).toInt64))))) := ⟨_, rfl⟩
  rw [← hG_1] at hI
  have out_G_1 : G_1 (20, 0, 0) = some (ho, .inl (K.2.1 1, 1, .inr (.inl (vp_updL f0 0 (((oCut y x dn px).2.1).toInt64))))) := by rw [hG_1]; exact gset_eq _ _ _ _
  refine lv_goto (tgt := 27) hx hb dL_cut_12 (by decide) ?_
  refine lv_iconst (v := nI 0) hx hb dL_cut_27 (by decide) ?_
  exact g_iret S hI hr hlocks (by omega) (by omega) dL_cut_28 (lOk ho0 hY1 ha1 hG_1)
theorem h_toss_le {y : YV} (x : Int32) : (oToss y x).1 ≤ 2 := by
  unfold oToss
  repeat' split
  all_goals exact Nat.le_of_ble_eq_true rfl
set_option maxHeartbeats 4000000 in
set_option maxRecDepth 100000 in
/-- the law's call of toss -/
theorem h_toss (l : Launch) (K : gK) (G : gW) (L1 L2 : Nat → Nat → Nat) (M : Nat → Nat) (hy ho : Nat) (f0 : Nat → Int64) (y : YV) (x : Int32) (hlS : l.stackTraces = false) (hy0 : YardC K L1 L2 M hy G y) (hout : G (20, 0, 0) = some (ho, .inl (K.2.1 1, 1, .inr (.inl f0)))) : gM l yL_toss wsL_toss 8 154 1 6 K [.ref hy, .int x, .ref ho] G (lPost K L1 L2 M hy ho G (oToss y x)) (gNo) := by
  refine gM.ofH (hh := [(0, 9, 12, 20), (0, 9, 15, 15)]) (cc := cL_toss) (maxL := 4) (ret := (some .int)) (by decide) rfl (Nat.le_of_ble_eq_true rfl) ?_
  intro p e s m below meth c A S hr hlocks htab hname hE hA hI ls hl
  have hx := S.1
  have hb := S.2.1
  have hml := S.2.2.1
  have hl : lv_has ls 4 [(0, .ref hy), (1, .int x), (2, .ref ho)] := hl
  obtain ⟨H, hHe⟩ : ∃ z, z = s.heap := ⟨_, rfl⟩
  obtain ⟨locs, hLe⟩ : ∃ z : List Loc, z = [] := ⟨_, rfl⟩
  rw [← hHe, ← hLe]
  have hI : gI K A s G H locs := by rw [hHe, hLe]; exact hI
  clear hHe hLe
  refine lv_aload_n hx hb dL_toss_0 rfl (lv_at hl 2 rfl) ?_
  refine lv_iconst (v := nI 0) hx hb dL_toss_1 (by decide) ?_
  refine lv_aload_n hx hb dL_toss_2 rfl (lv_at hl 0 rfl) ?_
  refine lv_iload_n hx hb dL_toss_3 rfl (lv_at hl 1 rfl) ?_
  refine g_callV (As := [.int x]) (rest := [.int (nI 0), .ref ho]) (b := hy) (n := 1) S hE hI hA (o_toss l K _ L1 L2 M hy y x hlS hy0) gL_toss_X4_toss rfl (by decide +kernel) ⟨Nat.le_of_ble_eq_true rfl, Nat.le_of_ble_eq_true rfl⟩ (g_hro hE hI hy0.1 rfl) rfl hl.1 rfl (Nat.le_of_ble_eq_true rfl) dL_toss_4 ⟨by show _ ≤ 1; omega, by show _ ≤ 6; omega⟩ (fun E ce q9 Gx H locs hx9 hI hce hcv hcl => ?_) (fun rv Gc_4 H locs hp hI => ?_)
  · skip
    obtain ⟨hne, rfl, hY1, ha1⟩ := hx9
    rcases lTwo hne (h_toss_le (y := y) (x := x)) with hk | hk
    · skip
      rw [hk] at hcl
      refine g_catch S hE (E := eIO) (name := "java/lang/IndexOutOfBoundsException") (pc := 4) [] ⟨0, 9, 12, 20⟩ [⟨0, 9, 15, 15⟩] htab (fun z hz => nomatch hz) rfl (by decide) (List.mem_cons_of_mem _ (List.mem_append_left _ (List.mem_append_left _ (List.mem_append_left _ (List.mem_append_left _ (List.mem_append_left _ (List.mem_append_left _ (List.mem_of_getElem? (i := 0) rfl)))))))) (by decide) hce hcv hcl ?_
      show W _ _ _ _ _ _ _ _ _ _ _ _ _ _ _ (F0 m 12 ls [.ref q9])
      refine lv_astore_n (lv' := [(3, .ref q9), (0, .ref hy), (1, .int x), (2, .ref ho)]) hx hb dL_toss_12 rfl hl (by decide) rfl (fun ls hl => ?_)
      refine lv_iconst (v := nI 1) hx hb dL_toss_13 (by decide) ?_
      exact g_iret S hI hr hlocks (by omega) (by omega) dL_toss_14 (lThrow hk (by decide) hY1 ha1 hout)
    · skip
      rw [hk] at hcl
      refine g_catch S hE (E := eIS) (name := "java/lang/IllegalStateException") (pc := 4) [⟨0, 9, 12, 20⟩] ⟨0, 9, 15, 15⟩ [] htab (fun z hz => by rcases List.mem_singleton.mp hz with rfl; exact Or.inr ⟨by decide, "java/lang/IndexOutOfBoundsException", (List.mem_cons_of_mem _ (List.mem_append_left _ (List.mem_append_left _ (List.mem_append_left _ (List.mem_append_left _ (List.mem_append_left _ (List.mem_append_left _ (List.mem_of_getElem? (i := 0) rfl)))))))), by decide⟩) rfl (by decide) (List.mem_cons_of_mem _ (List.mem_append_left _ (List.mem_append_left _ (List.mem_append_left _ (List.mem_append_left _ (List.mem_append_left _ (List.mem_append_left _ (List.mem_of_getElem? (i := 1) rfl)))))))) (by decide) hce hcv hcl ?_
      show W _ _ _ _ _ _ _ _ _ _ _ _ _ _ _ (F0 m 15 ls [.ref q9])
      refine lv_astore_n (lv' := [(3, .ref q9), (0, .ref hy), (1, .int x), (2, .ref ho)]) hx hb dL_toss_15 rfl hl (by decide) rfl (fun ls hl => ?_)
      refine lv_iconst (v := nI 2) hx hb dL_toss_16 (by decide) ?_
      exact g_iret S hI hr hlocks (by omega) (by omega) dL_toss_17 (lThrow hk (by decide) hY1 ha1 hout)
  obtain ⟨ho0, rfl, hY1, ha1⟩ := hp
  have hout1 : Gc_4 (20, 0, 0) = some (ho, .inl (K.2.1 1, 1, .inr (.inl f0))) := (ha1 _ (by decide)).trans hout
  refine W.eq (g2 := F0 m 7 ls [.int ((oToss y x).2.1), .int (nI 0), .ref ho]) rfl ?_
  refine lv_i2l hx hb dL_toss_7 rfl ?_
  refine g_last S hE hI (j := 0) (f := f0) hout1 rfl (by omega) (Nat.le_of_ble_eq_true rfl) dL_toss_8 (fun H locs hI => ?_)
  have hI : gI K A s (gset Gc_4 (20, 0, 0) ho (.inl (K.2.1 1, 1, .inr (.inl (vp_updL f0 0 (((oToss y x).2.1).toInt64)))))) H locs := hI
  obtain ⟨G_1, hG_1⟩ : ∃ z, z = gset Gc_4 (20, 0, 0) ho (.inl (K.2.1 1, 1, .inr (.inl (vp_updL f0 0 (((oToss y x).2.1).toInt64))))) := ⟨_, rfl⟩
  rw [← hG_1] at hI
  have out_G_1 : G_1 (20, 0, 0) = some (ho, .inl (K.2.1 1, 1, .inr (.inl (vp_updL f0 0 (((oToss y x).2.1).toInt64))))) := by rw [hG_1]; exact gset_eq _ _ _ _
  refine lv_goto (tgt := 18) hx hb dL_toss_9 (by decide) ?_
  refine lv_iconst (v := nI 0) hx hb dL_toss_18 (by decide) ?_
  exact g_iret S hI hr hlocks (by omega) (by omega) dL_toss_19 (lOk ho0 hY1 ha1 hG_1)
theorem h_ofSlab_le {y : YV} (x : Int32) (w : Int32) : (oOfSlab y x w).1 ≤ 2 := by
  unfold oOfSlab
  repeat' split
  all_goals exact Nat.le_of_ble_eq_true rfl
set_option maxHeartbeats 4000000 in
set_option maxRecDepth 100000 in
/-- the law's call of ofSlab -/
theorem h_ofSlab (l : Launch) (K : gK) (G : gW) (L1 L2 : Nat → Nat → Nat) (M : Nat → Nat) (hy ho : Nat) (f0 : Nat → Int64) (y : YV) (x : Int32) (w : Int32) (hlS : l.stackTraces = false) (hy0 : YardC K L1 L2 M hy G y) (hout : G (20, 0, 0) = some (ho, .inl (K.2.1 1, 1, .inr (.inl f0)))) : gM l yL_ofSlab wsL_ofSlab 8 155 1 6 K [.ref hy, .int x, .int w, .ref ho] G (lPost K L1 L2 M hy ho G (oOfSlab y x w)) (gNo) := by
  refine gM.ofH (hh := [(0, 10, 13, 20), (0, 10, 17, 13)]) (cc := cL_ofSlab) (maxL := 5) (ret := (some .int)) (by decide) rfl (Nat.le_of_ble_eq_true rfl) ?_
  intro p e s m below meth c A S hr hlocks htab hname hE hA hI ls hl
  have hx := S.1
  have hb := S.2.1
  have hml := S.2.2.1
  have hl : lv_has ls 5 [(0, .ref hy), (1, .int x), (2, .int w), (3, .ref ho)] := hl
  obtain ⟨H, hHe⟩ : ∃ z, z = s.heap := ⟨_, rfl⟩
  obtain ⟨locs, hLe⟩ : ∃ z : List Loc, z = [] := ⟨_, rfl⟩
  rw [← hHe, ← hLe]
  have hI : gI K A s G H locs := by rw [hHe, hLe]; exact hI
  clear hHe hLe
  refine lv_aload_n hx hb dL_ofSlab_0 rfl (lv_at hl 3 rfl) ?_
  refine lv_iconst (v := nI 0) hx hb dL_ofSlab_1 (by decide) ?_
  refine lv_aload_n hx hb dL_ofSlab_2 rfl (lv_at hl 0 rfl) ?_
  refine lv_iload_n hx hb dL_ofSlab_3 rfl (lv_at hl 1 rfl) ?_
  refine lv_iload_n hx hb dL_ofSlab_4 rfl (lv_at hl 2 rfl) ?_
  refine g_callV (As := [.int x, .int w]) (rest := [.int (nI 0), .ref ho]) (b := hy) (n := 2) S hE hI hA (o_ofSlab l K _ L1 L2 M hy y x w hlS hy0) gL_ofSlab_X4_ofSlab rfl (by decide +kernel) ⟨Nat.le_of_ble_eq_true rfl, Nat.le_of_ble_eq_true rfl⟩ (g_hro hE hI hy0.1 rfl) rfl hl.1 rfl (Nat.le_of_ble_eq_true rfl) dL_ofSlab_5 ⟨by show _ ≤ 1; omega, by show _ ≤ 6; omega⟩ (fun E ce q9 Gx H locs hx9 hI hce hcv hcl => ?_) (fun rv Gc_5 H locs hp hI => ?_)
  · skip
    obtain ⟨hne, rfl, hY1, ha1⟩ := hx9
    rcases lTwo hne (h_ofSlab_le (y := y) (x := x) (w := w)) with hk | hk
    · skip
      rw [hk] at hcl
      refine g_catch S hE (E := eIO) (name := "java/lang/IndexOutOfBoundsException") (pc := 5) [] ⟨0, 10, 13, 20⟩ [⟨0, 10, 17, 13⟩] htab (fun z hz => nomatch hz) rfl (by decide) (List.mem_cons_of_mem _ (List.mem_append_left _ (List.mem_append_left _ (List.mem_append_left _ (List.mem_append_left _ (List.mem_append_left _ (List.mem_of_getElem? (i := 0) rfl))))))) (by decide) hce hcv hcl ?_
      show W _ _ _ _ _ _ _ _ _ _ _ _ _ _ _ (F0 m 13 ls [.ref q9])
      refine lv_astore (lv' := [(4, .ref q9), (0, .ref hy), (1, .int x), (2, .int w), (3, .ref ho)]) hx hb dL_ofSlab_13 hl (by decide) rfl (fun ls hl => ?_)
      refine lv_iconst (v := nI 1) hx hb dL_ofSlab_15 (by decide) ?_
      exact g_iret S hI hr hlocks (by omega) (by omega) dL_ofSlab_16 (lThrow hk (by decide) hY1 ha1 hout)
    · skip
      rw [hk] at hcl
      refine g_catch S hE (E := eIA) (name := "java/lang/IllegalArgumentException") (pc := 5) [⟨0, 10, 13, 20⟩] ⟨0, 10, 17, 13⟩ [] htab (fun z hz => by rcases List.mem_singleton.mp hz with rfl; exact Or.inr ⟨by decide, "java/lang/IndexOutOfBoundsException", (List.mem_cons_of_mem _ (List.mem_append_left _ (List.mem_append_left _ (List.mem_append_left _ (List.mem_append_left _ (List.mem_append_left _ (List.mem_of_getElem? (i := 0) rfl))))))), by decide⟩) rfl (by decide) (List.mem_cons_of_mem _ (List.mem_append_left _ (List.mem_append_left _ (List.mem_append_left _ (List.mem_append_left _ (List.mem_append_left _ (List.mem_of_getElem? (i := 1) rfl))))))) (by decide) hce hcv hcl ?_
      show W _ _ _ _ _ _ _ _ _ _ _ _ _ _ _ (F0 m 17 ls [.ref q9])
      refine lv_astore (lv' := [(4, .ref q9), (0, .ref hy), (1, .int x), (2, .int w), (3, .ref ho)]) hx hb dL_ofSlab_17 hl (by decide) rfl (fun ls hl => ?_)
      refine lv_iconst (v := nI 2) hx hb dL_ofSlab_19 (by decide) ?_
      exact g_iret S hI hr hlocks (by omega) (by omega) dL_ofSlab_20 (lThrow hk (by decide) hY1 ha1 hout)
  obtain ⟨ho0, rfl, hY1, ha1⟩ := hp
  have hout1 : Gc_5 (20, 0, 0) = some (ho, .inl (K.2.1 1, 1, .inr (.inl f0))) := (ha1 _ (by decide)).trans hout
  refine W.eq (g2 := F0 m 8 ls [.int ((oOfSlab y x w).2.1), .int (nI 0), .ref ho]) rfl ?_
  refine lv_i2l hx hb dL_ofSlab_8 rfl ?_
  refine g_last S hE hI (j := 0) (f := f0) hout1 rfl (by omega) (Nat.le_of_ble_eq_true rfl) dL_ofSlab_9 (fun H locs hI => ?_)
  have hI : gI K A s (gset Gc_5 (20, 0, 0) ho (.inl (K.2.1 1, 1, .inr (.inl (vp_updL f0 0 (((oOfSlab y x w).2.1).toInt64)))))) H locs := hI
  obtain ⟨G_1, hG_1⟩ : ∃ z, z = gset Gc_5 (20, 0, 0) ho (.inl (K.2.1 1, 1, .inr (.inl (vp_updL f0 0 (((oOfSlab y x w).2.1).toInt64))))) := ⟨_, rfl⟩
  rw [← hG_1] at hI
  have out_G_1 : G_1 (20, 0, 0) = some (ho, .inl (K.2.1 1, 1, .inr (.inl (vp_updL f0 0 (((oOfSlab y x w).2.1).toInt64))))) := by rw [hG_1]; exact gset_eq _ _ _ _
  refine lv_goto (tgt := 21) hx hb dL_ofSlab_10 (by decide) ?_
  refine lv_iconst (v := nI 0) hx hb dL_ofSlab_21 (by decide) ?_
  exact g_iret S hI hr hlocks (by omega) (by omega) dL_ofSlab_22 (lOk ho0 hY1 ha1 hG_1)
theorem h_flawsAt_le {y : YV} (x : Int32) (px : Int32) (py : Int32) : (oFlawsAt y x px py).1 ≤ 1 := by
  unfold oFlawsAt
  repeat' split
  all_goals exact Nat.le_of_ble_eq_true rfl
set_option maxHeartbeats 4000000 in
set_option maxRecDepth 100000 in
/-- the law's call of flawsAt -/
theorem h_flawsAt (l : Launch) (K : gK) (G : gW) (L1 L2 : Nat → Nat → Nat) (M : Nat → Nat) (hy ho : Nat) (f0 : Nat → Int64) (y : YV) (x : Int32) (px : Int32) (py : Int32) (hlS : l.stackTraces = false) (hy0 : YardC K L1 L2 M hy G y) (hout : G (20, 0, 0) = some (ho, .inl (K.2.1 1, 1, .inr (.inl f0)))) : gM l yL_flawsAt wsL_flawsAt 8 156 1 6 K [.ref hy, .int x, .int px, .int py, .ref ho] G (lPost K L1 L2 M hy ho G (oFlawsAt y x px py)) (gNo) := by
  refine gM.ofH (hh := [(0, 12, 15, 20)]) (cc := cL_flawsAt) (maxL := 6) (ret := (some .int)) (by decide) rfl (Nat.le_of_ble_eq_true rfl) ?_
  intro p e s m below meth c A S hr hlocks htab hname hE hA hI ls hl
  have hx := S.1
  have hb := S.2.1
  have hml := S.2.2.1
  have hl : lv_has ls 6 [(0, .ref hy), (1, .int x), (2, .int px), (3, .int py), (4, .ref ho)] := hl
  obtain ⟨H, hHe⟩ : ∃ z, z = s.heap := ⟨_, rfl⟩
  obtain ⟨locs, hLe⟩ : ∃ z : List Loc, z = [] := ⟨_, rfl⟩
  rw [← hHe, ← hLe]
  have hI : gI K A s G H locs := by rw [hHe, hLe]; exact hI
  clear hHe hLe
  refine lv_aload hx hb dL_flawsAt_0 (lv_at hl 4 rfl) ?_
  refine lv_iconst (v := nI 0) hx hb dL_flawsAt_2 (by decide) ?_
  refine lv_aload_n hx hb dL_flawsAt_3 rfl (lv_at hl 0 rfl) ?_
  refine lv_iload_n hx hb dL_flawsAt_4 rfl (lv_at hl 1 rfl) ?_
  refine lv_iload_n hx hb dL_flawsAt_5 rfl (lv_at hl 2 rfl) ?_
  refine lv_iload_n hx hb dL_flawsAt_6 rfl (lv_at hl 3 rfl) ?_
  refine g_callV (As := [.int x, .int px, .int py]) (rest := [.int (nI 0), .ref ho]) (b := hy) (n := 3) S hE hI hA (o_flawsAt l K _ L1 L2 M hy y x px py hlS hy0) gL_flawsAt_X4_flawsAt rfl (by decide +kernel) ⟨Nat.le_of_ble_eq_true rfl, Nat.le_of_ble_eq_true rfl⟩ (g_hro hE hI hy0.1 rfl) rfl hl.1 rfl (Nat.le_of_ble_eq_true rfl) dL_flawsAt_7 ⟨by show _ ≤ 1; omega, by show _ ≤ 6; omega⟩ (fun E ce q9 Gx H locs hx9 hI hce hcv hcl => ?_) (fun rv Gc_7 H locs hp hI => ?_)
  · skip
    obtain ⟨hne, rfl, hY1, ha1⟩ := hx9
    have hk : (oFlawsAt y x px py).1 = 1 := by have h9 := h_flawsAt_le (y := y) (x := x) (px := px) (py := py); omega
    refine g_catch S hE (E := eIO) (name := "java/lang/IndexOutOfBoundsException") (pc := 7) [] ⟨0, 12, 15, 20⟩ [] htab (fun z hz => nomatch hz) rfl (by decide) (List.mem_cons_of_mem _ (List.mem_append_left _ (List.mem_append_left _ (List.mem_append_left _ (List.mem_append_left _ (List.mem_append_left _ (List.mem_of_getElem? (i := 0) rfl))))))) (by decide) hce hcv hcl ?_
    show W _ _ _ _ _ _ _ _ _ _ _ _ _ _ _ (F0 m 15 ls [.ref q9])
    refine lv_astore (lv' := [(5, .ref q9), (0, .ref hy), (1, .int x), (2, .int px), (3, .int py), (4, .ref ho)]) hx hb dL_flawsAt_15 hl (by decide) rfl (fun ls hl => ?_)
    refine lv_iconst (v := nI 1) hx hb dL_flawsAt_17 (by decide) ?_
    exact g_iret S hI hr hlocks (by omega) (by omega) dL_flawsAt_18 (lThrow hk (by decide) hY1 ha1 hout)
  obtain ⟨ho0, rfl, hY1, ha1⟩ := hp
  have hout1 : Gc_7 (20, 0, 0) = some (ho, .inl (K.2.1 1, 1, .inr (.inl f0))) := (ha1 _ (by decide)).trans hout
  refine W.eq (g2 := F0 m 10 ls [.int ((oFlawsAt y x px py).2.1), .int (nI 0), .ref ho]) rfl ?_
  refine lv_i2l hx hb dL_flawsAt_10 rfl ?_
  refine g_last S hE hI (j := 0) (f := f0) hout1 rfl (by omega) (Nat.le_of_ble_eq_true rfl) dL_flawsAt_11 (fun H locs hI => ?_)
  have hI : gI K A s (gset Gc_7 (20, 0, 0) ho (.inl (K.2.1 1, 1, .inr (.inl (vp_updL f0 0 (((oFlawsAt y x px py).2.1).toInt64)))))) H locs := hI
  obtain ⟨G_1, hG_1⟩ : ∃ z, z = gset Gc_7 (20, 0, 0) ho (.inl (K.2.1 1, 1, .inr (.inl (vp_updL f0 0 (((oFlawsAt y x px py).2.1).toInt64))))) := ⟨_, rfl⟩
  rw [← hG_1] at hI
  have out_G_1 : G_1 (20, 0, 0) = some (ho, .inl (K.2.1 1, 1, .inr (.inl (vp_updL f0 0 (((oFlawsAt y x px py).2.1).toInt64))))) := by rw [hG_1]; exact gset_eq _ _ _ _
  refine lv_goto (tgt := 19) hx hb dL_flawsAt_12 (by decide) ?_
  refine lv_iconst (v := nI 0) hx hb dL_flawsAt_19 (by decide) ?_
  exact g_iret S hI hr hlocks (by omega) (by omega) dL_flawsAt_20 (lOk ho0 hY1 ha1 hG_1)
theorem h_root_le {y : YV} (x : Int32) : (oRoot y x).1 ≤ 1 := by
  unfold oRoot
  repeat' split
  all_goals exact Nat.le_of_ble_eq_true rfl
set_option maxHeartbeats 4000000 in
set_option maxRecDepth 100000 in
/-- the law's call of root -/
theorem h_root (l : Launch) (K : gK) (G : gW) (L1 L2 : Nat → Nat → Nat) (M : Nat → Nat) (hy ho : Nat) (f0 : Nat → Int64) (y : YV) (x : Int32) (hlS : l.stackTraces = false) (hy0 : YardC K L1 L2 M hy G y) (hout : G (20, 0, 0) = some (ho, .inl (K.2.1 1, 1, .inr (.inl f0)))) (hfr : yFr y) : gM l yL_root wsL_root 8 156 1 6 K [.ref hy, .int x, .ref ho] G (lPost K L1 L2 M hy ho G (oRoot y x)) (gNo) := by
  refine gM.ofH (hh := [(0, 9, 12, 20)]) (cc := cL_root) (maxL := 4) (ret := (some .int)) (by decide) rfl (Nat.le_of_ble_eq_true rfl) ?_
  intro p e s m below meth c A S hr hlocks htab hname hE hA hI ls hl
  have hx := S.1
  have hb := S.2.1
  have hml := S.2.2.1
  have hl : lv_has ls 4 [(0, .ref hy), (1, .int x), (2, .ref ho)] := hl
  obtain ⟨H, hHe⟩ : ∃ z, z = s.heap := ⟨_, rfl⟩
  obtain ⟨locs, hLe⟩ : ∃ z : List Loc, z = [] := ⟨_, rfl⟩
  rw [← hHe, ← hLe]
  have hI : gI K A s G H locs := by rw [hHe, hLe]; exact hI
  clear hHe hLe
  refine lv_aload_n hx hb dL_root_0 rfl (lv_at hl 2 rfl) ?_
  refine lv_iconst (v := nI 0) hx hb dL_root_1 (by decide) ?_
  refine lv_aload_n hx hb dL_root_2 rfl (lv_at hl 0 rfl) ?_
  refine lv_iload_n hx hb dL_root_3 rfl (lv_at hl 1 rfl) ?_
  refine g_callV (As := [.int x]) (rest := [.int (nI 0), .ref ho]) (b := hy) (n := 1) S hE hI hA (o_root l K _ L1 L2 M hy y x hlS hy0 hfr) gL_root_X4_root rfl (by decide +kernel) ⟨Nat.le_of_ble_eq_true rfl, Nat.le_of_ble_eq_true rfl⟩ (g_hro hE hI hy0.1 rfl) rfl hl.1 rfl (Nat.le_of_ble_eq_true rfl) dL_root_4 ⟨by show _ ≤ 1; omega, by show _ ≤ 6; omega⟩ (fun E ce q9 Gx H locs hx9 hI hce hcv hcl => ?_) (fun rv Gc_4 H locs hp hI => ?_)
  · skip
    obtain ⟨hne, rfl, hY1, ha1⟩ := hx9
    have hk : (oRoot y x).1 = 1 := by have h9 := h_root_le (y := y) (x := x); omega
    refine g_catch S hE (E := eIO) (name := "java/lang/IndexOutOfBoundsException") (pc := 4) [] ⟨0, 9, 12, 20⟩ [] htab (fun z hz => nomatch hz) rfl (by decide) (List.mem_cons_of_mem _ (List.mem_append_left _ (List.mem_append_left _ (List.mem_append_left _ (List.mem_append_left _ (List.mem_of_getElem? (i := 0) rfl)))))) (by decide) hce hcv hcl ?_
    show W _ _ _ _ _ _ _ _ _ _ _ _ _ _ _ (F0 m 12 ls [.ref q9])
    refine lv_astore_n (lv' := [(3, .ref q9), (0, .ref hy), (1, .int x), (2, .ref ho)]) hx hb dL_root_12 rfl hl (by decide) rfl (fun ls hl => ?_)
    refine lv_iconst (v := nI 1) hx hb dL_root_13 (by decide) ?_
    exact g_iret S hI hr hlocks (by omega) (by omega) dL_root_14 (lThrow hk (by decide) hY1 ha1 hout)
  obtain ⟨ho0, rfl, hY1, ha1⟩ := hp
  have hout1 : Gc_4 (20, 0, 0) = some (ho, .inl (K.2.1 1, 1, .inr (.inl f0))) := (ha1 _ (by decide)).trans hout
  refine W.eq (g2 := F0 m 7 ls [.int ((oRoot y x).2.1), .int (nI 0), .ref ho]) rfl ?_
  refine lv_i2l hx hb dL_root_7 rfl ?_
  refine g_last S hE hI (j := 0) (f := f0) hout1 rfl (by omega) (Nat.le_of_ble_eq_true rfl) dL_root_8 (fun H locs hI => ?_)
  have hI : gI K A s (gset Gc_4 (20, 0, 0) ho (.inl (K.2.1 1, 1, .inr (.inl (vp_updL f0 0 (((oRoot y x).2.1).toInt64)))))) H locs := hI
  obtain ⟨G_1, hG_1⟩ : ∃ z, z = gset Gc_4 (20, 0, 0) ho (.inl (K.2.1 1, 1, .inr (.inl (vp_updL f0 0 (((oRoot y x).2.1).toInt64))))) := ⟨_, rfl⟩
  rw [← hG_1] at hI
  have out_G_1 : G_1 (20, 0, 0) = some (ho, .inl (K.2.1 1, 1, .inr (.inl (vp_updL f0 0 (((oRoot y x).2.1).toInt64))))) := by rw [hG_1]; exact gset_eq _ _ _ _
  refine lv_goto (tgt := 15) hx hb dL_root_9 (by decide) ?_
  refine lv_iconst (v := nI 0) hx hb dL_root_15 (by decide) ?_
  exact g_iret S hI hr hlocks (by omega) (by omega) dL_root_16 (lOk ho0 hY1 ha1 hG_1)
theorem h_kind_le {y : YV} (a : Int32) (b : Int32) (q : Int32) : (oKind y a b q).1 ≤ 2 := by
  unfold oKind
  repeat' split
  all_goals exact Nat.le_of_ble_eq_true rfl
set_option maxHeartbeats 4000000 in
set_option maxRecDepth 100000 in
/-- the law's call of kind -/
theorem h_kind (l : Launch) (K : gK) (G : gW) (L1 L2 : Nat → Nat → Nat) (M : Nat → Nat) (hy ho : Nat) (f0 : Nat → Int64) (y : YV) (a : Int32) (b : Int32) (q : Int32) (hlS : l.stackTraces = false) (hy0 : YardC K L1 L2 M hy G y) (hout : G (20, 0, 0) = some (ho, .inl (K.2.1 1, 1, .inr (.inl f0)))) : gM l yL_kind wsL_kind 7 134 1 6 K [.ref hy, .int a, .int b, .int q, .ref ho] G (lPost K L1 L2 M hy ho G (oKind y a b q)) (gNo) := by
  refine gM.ofH (hh := [(0, 12, 15, 13), (0, 12, 19, 15)]) (cc := cL_kind) (maxL := 6) (ret := (some .int)) (by decide) rfl (Nat.le_of_ble_eq_true rfl) ?_
  intro p e s m below meth c A S hr hlocks htab hname hE hA hI ls hl
  have hx := S.1
  have hb := S.2.1
  have hml := S.2.2.1
  have hl : lv_has ls 6 [(0, .ref hy), (1, .int a), (2, .int b), (3, .int q), (4, .ref ho)] := hl
  obtain ⟨H, hHe⟩ : ∃ z, z = s.heap := ⟨_, rfl⟩
  obtain ⟨locs, hLe⟩ : ∃ z : List Loc, z = [] := ⟨_, rfl⟩
  rw [← hHe, ← hLe]
  have hI : gI K A s G H locs := by rw [hHe, hLe]; exact hI
  clear hHe hLe
  refine lv_aload hx hb dL_kind_0 (lv_at hl 4 rfl) ?_
  refine lv_iconst (v := nI 0) hx hb dL_kind_2 (by decide) ?_
  refine lv_aload_n hx hb dL_kind_3 rfl (lv_at hl 0 rfl) ?_
  refine lv_iload_n hx hb dL_kind_4 rfl (lv_at hl 1 rfl) ?_
  refine lv_iload_n hx hb dL_kind_5 rfl (lv_at hl 2 rfl) ?_
  refine lv_iload_n hx hb dL_kind_6 rfl (lv_at hl 3 rfl) ?_
  refine g_callV (As := [.int a, .int b, .int q]) (rest := [.int (nI 0), .ref ho]) (b := hy) (n := 3) S hE hI hA (o_kind l K _ L1 L2 M hy y a b q hlS hy0) gL_kind_X4_kind rfl (by decide +kernel) ⟨Nat.le_of_ble_eq_true rfl, Nat.le_of_ble_eq_true rfl⟩ (g_hro hE hI hy0.1 rfl) rfl hl.1 rfl (Nat.le_of_ble_eq_true rfl) dL_kind_7 ⟨by show _ ≤ 1; omega, by show _ ≤ 6; omega⟩ (fun E ce q9 Gx H locs hx9 hI hce hcv hcl => ?_) (fun rv Gc_7 H locs hp hI => ?_)
  · skip
    obtain ⟨hne, rfl, hY1, ha1⟩ := hx9
    rcases lTwo hne (h_kind_le (y := y) (a := a) (b := b) (q := q)) with hk | hk
    · skip
      rw [hk] at hcl
      refine g_catch S hE (E := eIA) (name := "java/lang/IllegalArgumentException") (pc := 7) [] ⟨0, 12, 15, 13⟩ [⟨0, 12, 19, 15⟩] htab (fun z hz => nomatch hz) rfl (by decide) (List.mem_cons_of_mem _ (List.mem_append_left _ (List.mem_append_left _ (List.mem_append_left _ (List.mem_append_left _ (List.mem_append_left _ (List.mem_append_left _ (List.mem_of_getElem? (i := 0) rfl)))))))) (by decide) hce hcv hcl ?_
      show W _ _ _ _ _ _ _ _ _ _ _ _ _ _ _ (F0 m 15 ls [.ref q9])
      refine lv_astore (lv' := [(5, .ref q9), (0, .ref hy), (1, .int a), (2, .int b), (3, .int q), (4, .ref ho)]) hx hb dL_kind_15 hl (by decide) rfl (fun ls hl => ?_)
      refine lv_iconst (v := nI 1) hx hb dL_kind_17 (by decide) ?_
      exact g_iret S hI hr hlocks (by omega) (by omega) dL_kind_18 (lThrow hk (by decide) hY1 ha1 hout)
    · skip
      rw [hk] at hcl
      refine g_catch S hE (E := eIS) (name := "java/lang/IllegalStateException") (pc := 7) [⟨0, 12, 15, 13⟩] ⟨0, 12, 19, 15⟩ [] htab (fun z hz => by rcases List.mem_singleton.mp hz with rfl; exact Or.inr ⟨by decide, "java/lang/IllegalArgumentException", (List.mem_cons_of_mem _ (List.mem_append_left _ (List.mem_append_left _ (List.mem_append_left _ (List.mem_append_left _ (List.mem_append_left _ (List.mem_append_left _ (List.mem_of_getElem? (i := 0) rfl)))))))), by decide⟩) rfl (by decide) (List.mem_cons_of_mem _ (List.mem_append_left _ (List.mem_append_left _ (List.mem_append_left _ (List.mem_append_left _ (List.mem_append_left _ (List.mem_append_left _ (List.mem_of_getElem? (i := 1) rfl)))))))) (by decide) hce hcv hcl ?_
      show W _ _ _ _ _ _ _ _ _ _ _ _ _ _ _ (F0 m 19 ls [.ref q9])
      refine lv_astore (lv' := [(5, .ref q9), (0, .ref hy), (1, .int a), (2, .int b), (3, .int q), (4, .ref ho)]) hx hb dL_kind_19 hl (by decide) rfl (fun ls hl => ?_)
      refine lv_iconst (v := nI 2) hx hb dL_kind_21 (by decide) ?_
      exact g_iret S hI hr hlocks (by omega) (by omega) dL_kind_22 (lThrow hk (by decide) hY1 ha1 hout)
  obtain ⟨ho0, rfl, hY1, ha1⟩ := hp
  have hout1 : Gc_7 (20, 0, 0) = some (ho, .inl (K.2.1 1, 1, .inr (.inl f0))) := (ha1 _ (by decide)).trans hout
  refine W.eq (g2 := F0 m 10 ls [.int ((oKind y a b q).2.1), .int (nI 0), .ref ho]) rfl ?_
  refine lv_i2l hx hb dL_kind_10 rfl ?_
  refine g_last S hE hI (j := 0) (f := f0) hout1 rfl (by omega) (Nat.le_of_ble_eq_true rfl) dL_kind_11 (fun H locs hI => ?_)
  have hI : gI K A s (gset Gc_7 (20, 0, 0) ho (.inl (K.2.1 1, 1, .inr (.inl (vp_updL f0 0 (((oKind y a b q).2.1).toInt64)))))) H locs := hI
  obtain ⟨G_1, hG_1⟩ : ∃ z, z = gset Gc_7 (20, 0, 0) ho (.inl (K.2.1 1, 1, .inr (.inl (vp_updL f0 0 (((oKind y a b q).2.1).toInt64))))) := ⟨_, rfl⟩
  rw [← hG_1] at hI
  have out_G_1 : G_1 (20, 0, 0) = some (ho, .inl (K.2.1 1, 1, .inr (.inl (vp_updL f0 0 (((oKind y a b q).2.1).toInt64))))) := by rw [hG_1]; exact gset_eq _ _ _ _
  refine lv_goto (tgt := 23) hx hb dL_kind_12 (by decide) ?_
  refine lv_iconst (v := nI 0) hx hb dL_kind_23 (by decide) ?_
  exact g_iret S hI hr hlocks (by omega) (by omega) dL_kind_24 (lOk ho0 hY1 ha1 hG_1)
theorem h_let_le {y : YV} (x : Int32) (w : Int32) (q : Int32) : (oLet y x w q).1 ≤ 2 := by
  unfold oLet
  repeat' split
  all_goals exact Nat.le_of_ble_eq_true rfl
set_option maxHeartbeats 4000000 in
set_option maxRecDepth 100000 in
/-- the law's call of let -/
theorem h_let (l : Launch) (K : gK) (G : gW) (L1 L2 : Nat → Nat → Nat) (M : Nat → Nat) (hy ho : Nat) (f0 : Nat → Int64) (y : YV) (x : Int32) (w : Int32) (q : Int32) (hlS : l.stackTraces = false) (hy0 : YardC K L1 L2 M hy G y) (hout : G (20, 0, 0) = some (ho, .inl (K.2.1 1, 1, .inr (.inl f0)))) : gM l yL_let wsL_let 8 157 1 6 K [.ref hy, .int x, .int w, .int q, .ref ho] G (lPost K L1 L2 M hy ho G (oLet y x w q)) (gNo) := by
  refine gM.ofH (hh := [(0, 12, 15, 20), (0, 12, 19, 13)]) (cc := cL_let) (maxL := 6) (ret := (some .int)) (by decide) rfl (Nat.le_of_ble_eq_true rfl) ?_
  intro p e s m below meth c A S hr hlocks htab hname hE hA hI ls hl
  have hx := S.1
  have hb := S.2.1
  have hml := S.2.2.1
  have hl : lv_has ls 6 [(0, .ref hy), (1, .int x), (2, .int w), (3, .int q), (4, .ref ho)] := hl
  obtain ⟨H, hHe⟩ : ∃ z, z = s.heap := ⟨_, rfl⟩
  obtain ⟨locs, hLe⟩ : ∃ z : List Loc, z = [] := ⟨_, rfl⟩
  rw [← hHe, ← hLe]
  have hI : gI K A s G H locs := by rw [hHe, hLe]; exact hI
  clear hHe hLe
  refine lv_aload hx hb dL_let_0 (lv_at hl 4 rfl) ?_
  refine lv_iconst (v := nI 0) hx hb dL_let_2 (by decide) ?_
  refine lv_aload_n hx hb dL_let_3 rfl (lv_at hl 0 rfl) ?_
  refine lv_iload_n hx hb dL_let_4 rfl (lv_at hl 1 rfl) ?_
  refine lv_iload_n hx hb dL_let_5 rfl (lv_at hl 2 rfl) ?_
  refine lv_iload_n hx hb dL_let_6 rfl (lv_at hl 3 rfl) ?_
  refine g_callV (As := [.int x, .int w, .int q]) (rest := [.int (nI 0), .ref ho]) (b := hy) (n := 3) S hE hI hA (o_let l K _ L1 L2 M hy y x w q hlS hy0) gL_let_X4_let rfl (by decide +kernel) ⟨Nat.le_of_ble_eq_true rfl, Nat.le_of_ble_eq_true rfl⟩ (g_hro hE hI hy0.1 rfl) rfl hl.1 rfl (Nat.le_of_ble_eq_true rfl) dL_let_7 ⟨by show _ ≤ 1; omega, by show _ ≤ 6; omega⟩ (fun E ce q9 Gx H locs hx9 hI hce hcv hcl => ?_) (fun rv Gc_7 H locs hp hI => ?_)
  · skip
    obtain ⟨hne, rfl, hY1, ha1⟩ := hx9
    rcases lTwo hne (h_let_le (y := y) (x := x) (w := w) (q := q)) with hk | hk
    · skip
      rw [hk] at hcl
      refine g_catch S hE (E := eIO) (name := "java/lang/IndexOutOfBoundsException") (pc := 7) [] ⟨0, 12, 15, 20⟩ [⟨0, 12, 19, 13⟩] htab (fun z hz => nomatch hz) rfl (by decide) (List.mem_cons_of_mem _ (List.mem_append_left _ (List.mem_append_left _ (List.mem_append_left _ (List.mem_append_left _ (List.mem_append_left _ (List.mem_of_getElem? (i := 0) rfl))))))) (by decide) hce hcv hcl ?_
      show W _ _ _ _ _ _ _ _ _ _ _ _ _ _ _ (F0 m 15 ls [.ref q9])
      refine lv_astore (lv' := [(5, .ref q9), (0, .ref hy), (1, .int x), (2, .int w), (3, .int q), (4, .ref ho)]) hx hb dL_let_15 hl (by decide) rfl (fun ls hl => ?_)
      refine lv_iconst (v := nI 1) hx hb dL_let_17 (by decide) ?_
      exact g_iret S hI hr hlocks (by omega) (by omega) dL_let_18 (lThrow hk (by decide) hY1 ha1 hout)
    · skip
      rw [hk] at hcl
      refine g_catch S hE (E := eIA) (name := "java/lang/IllegalArgumentException") (pc := 7) [⟨0, 12, 15, 20⟩] ⟨0, 12, 19, 13⟩ [] htab (fun z hz => by rcases List.mem_singleton.mp hz with rfl; exact Or.inr ⟨by decide, "java/lang/IndexOutOfBoundsException", (List.mem_cons_of_mem _ (List.mem_append_left _ (List.mem_append_left _ (List.mem_append_left _ (List.mem_append_left _ (List.mem_append_left _ (List.mem_of_getElem? (i := 0) rfl))))))), by decide⟩) rfl (by decide) (List.mem_cons_of_mem _ (List.mem_append_left _ (List.mem_append_left _ (List.mem_append_left _ (List.mem_append_left _ (List.mem_append_left _ (List.mem_of_getElem? (i := 1) rfl))))))) (by decide) hce hcv hcl ?_
      show W _ _ _ _ _ _ _ _ _ _ _ _ _ _ _ (F0 m 19 ls [.ref q9])
      refine lv_astore (lv' := [(5, .ref q9), (0, .ref hy), (1, .int x), (2, .int w), (3, .int q), (4, .ref ho)]) hx hb dL_let_19 hl (by decide) rfl (fun ls hl => ?_)
      refine lv_iconst (v := nI 2) hx hb dL_let_21 (by decide) ?_
      exact g_iret S hI hr hlocks (by omega) (by omega) dL_let_22 (lThrow hk (by decide) hY1 ha1 hout)
  obtain ⟨ho0, rfl, hY1, ha1⟩ := hp
  have hout1 : Gc_7 (20, 0, 0) = some (ho, .inl (K.2.1 1, 1, .inr (.inl f0))) := (ha1 _ (by decide)).trans hout
  refine W.eq (g2 := F0 m 10 ls [.int ((oLet y x w q).2.1), .int (nI 0), .ref ho]) rfl ?_
  refine lv_i2l hx hb dL_let_10 rfl ?_
  refine g_last S hE hI (j := 0) (f := f0) hout1 rfl (by omega) (Nat.le_of_ble_eq_true rfl) dL_let_11 (fun H locs hI => ?_)
  have hI : gI K A s (gset Gc_7 (20, 0, 0) ho (.inl (K.2.1 1, 1, .inr (.inl (vp_updL f0 0 (((oLet y x w q).2.1).toInt64)))))) H locs := hI
  obtain ⟨G_1, hG_1⟩ : ∃ z, z = gset Gc_7 (20, 0, 0) ho (.inl (K.2.1 1, 1, .inr (.inl (vp_updL f0 0 (((oLet y x w q).2.1).toInt64))))) := ⟨_, rfl⟩
  rw [← hG_1] at hI
  have out_G_1 : G_1 (20, 0, 0) = some (ho, .inl (K.2.1 1, 1, .inr (.inl (vp_updL f0 0 (((oLet y x w q).2.1).toInt64))))) := by rw [hG_1]; exact gset_eq _ _ _ _
  refine lv_goto (tgt := 23) hx hb dL_let_12 (by decide) ?_
  refine lv_iconst (v := nI 0) hx hb dL_let_23 (by decide) ?_
  exact g_iret S hI hr hlocks (by omega) (by omega) dL_let_24 (lOk ho0 hY1 ha1 hG_1)
theorem h_order_le {y : YV} (x : Int32) (q : Int32) : (oOrder y x q).1 ≤ 2 := by
  unfold oOrder
  repeat' split
  all_goals exact Nat.le_of_ble_eq_true rfl
set_option maxHeartbeats 4000000 in
set_option maxRecDepth 100000 in
/-- the law's call of order -/
theorem h_order (l : Launch) (K : gK) (G : gW) (L1 L2 : Nat → Nat → Nat) (M : Nat → Nat) (hy ho : Nat) (f0 : Nat → Int64) (y : YV) (x : Int32) (q : Int32) (hlS : l.stackTraces = false) (hy0 : YardC K L1 L2 M hy G y) (hout : G (20, 0, 0) = some (ho, .inl (K.2.1 1, 1, .inr (.inl f0)))) : gM l yL_order wsL_order 8 155 1 6 K [.ref hy, .int x, .int q, .ref ho] G (lPost K L1 L2 M hy ho G (oOrder y x q)) (gNo) := by
  refine gM.ofH (hh := [(0, 10, 13, 20), (0, 10, 17, 13)]) (cc := cL_order) (maxL := 5) (ret := (some .int)) (by decide) rfl (Nat.le_of_ble_eq_true rfl) ?_
  intro p e s m below meth c A S hr hlocks htab hname hE hA hI ls hl
  have hx := S.1
  have hb := S.2.1
  have hml := S.2.2.1
  have hl : lv_has ls 5 [(0, .ref hy), (1, .int x), (2, .int q), (3, .ref ho)] := hl
  obtain ⟨H, hHe⟩ : ∃ z, z = s.heap := ⟨_, rfl⟩
  obtain ⟨locs, hLe⟩ : ∃ z : List Loc, z = [] := ⟨_, rfl⟩
  rw [← hHe, ← hLe]
  have hI : gI K A s G H locs := by rw [hHe, hLe]; exact hI
  clear hHe hLe
  refine lv_aload_n hx hb dL_order_0 rfl (lv_at hl 3 rfl) ?_
  refine lv_iconst (v := nI 0) hx hb dL_order_1 (by decide) ?_
  refine lv_aload_n hx hb dL_order_2 rfl (lv_at hl 0 rfl) ?_
  refine lv_iload_n hx hb dL_order_3 rfl (lv_at hl 1 rfl) ?_
  refine lv_iload_n hx hb dL_order_4 rfl (lv_at hl 2 rfl) ?_
  refine g_callV (As := [.int x, .int q]) (rest := [.int (nI 0), .ref ho]) (b := hy) (n := 2) S hE hI hA (o_order l K _ L1 L2 M hy y x q hlS hy0) gL_order_X4_order rfl (by decide +kernel) ⟨Nat.le_of_ble_eq_true rfl, Nat.le_of_ble_eq_true rfl⟩ (g_hro hE hI hy0.1 rfl) rfl hl.1 rfl (Nat.le_of_ble_eq_true rfl) dL_order_5 ⟨by show _ ≤ 1; omega, by show _ ≤ 6; omega⟩ (fun E ce q9 Gx H locs hx9 hI hce hcv hcl => ?_) (fun rv Gc_5 H locs hp hI => ?_)
  · skip
    obtain ⟨hne, rfl, hY1, ha1⟩ := hx9
    rcases lTwo hne (h_order_le (y := y) (x := x) (q := q)) with hk | hk
    · skip
      rw [hk] at hcl
      refine g_catch S hE (E := eIO) (name := "java/lang/IndexOutOfBoundsException") (pc := 5) [] ⟨0, 10, 13, 20⟩ [⟨0, 10, 17, 13⟩] htab (fun z hz => nomatch hz) rfl (by decide) (List.mem_cons_of_mem _ (List.mem_append_left _ (List.mem_append_left _ (List.mem_append_left _ (List.mem_append_left _ (List.mem_append_left _ (List.mem_of_getElem? (i := 0) rfl))))))) (by decide) hce hcv hcl ?_
      show W _ _ _ _ _ _ _ _ _ _ _ _ _ _ _ (F0 m 13 ls [.ref q9])
      refine lv_astore (lv' := [(4, .ref q9), (0, .ref hy), (1, .int x), (2, .int q), (3, .ref ho)]) hx hb dL_order_13 hl (by decide) rfl (fun ls hl => ?_)
      refine lv_iconst (v := nI 1) hx hb dL_order_15 (by decide) ?_
      exact g_iret S hI hr hlocks (by omega) (by omega) dL_order_16 (lThrow hk (by decide) hY1 ha1 hout)
    · skip
      rw [hk] at hcl
      refine g_catch S hE (E := eIA) (name := "java/lang/IllegalArgumentException") (pc := 5) [⟨0, 10, 13, 20⟩] ⟨0, 10, 17, 13⟩ [] htab (fun z hz => by rcases List.mem_singleton.mp hz with rfl; exact Or.inr ⟨by decide, "java/lang/IndexOutOfBoundsException", (List.mem_cons_of_mem _ (List.mem_append_left _ (List.mem_append_left _ (List.mem_append_left _ (List.mem_append_left _ (List.mem_append_left _ (List.mem_of_getElem? (i := 0) rfl))))))), by decide⟩) rfl (by decide) (List.mem_cons_of_mem _ (List.mem_append_left _ (List.mem_append_left _ (List.mem_append_left _ (List.mem_append_left _ (List.mem_append_left _ (List.mem_of_getElem? (i := 1) rfl))))))) (by decide) hce hcv hcl ?_
      show W _ _ _ _ _ _ _ _ _ _ _ _ _ _ _ (F0 m 17 ls [.ref q9])
      refine lv_astore (lv' := [(4, .ref q9), (0, .ref hy), (1, .int x), (2, .int q), (3, .ref ho)]) hx hb dL_order_17 hl (by decide) rfl (fun ls hl => ?_)
      refine lv_iconst (v := nI 2) hx hb dL_order_19 (by decide) ?_
      exact g_iret S hI hr hlocks (by omega) (by omega) dL_order_20 (lThrow hk (by decide) hY1 ha1 hout)
  obtain ⟨ho0, rfl, hY1, ha1⟩ := hp
  have hout1 : Gc_5 (20, 0, 0) = some (ho, .inl (K.2.1 1, 1, .inr (.inl f0))) := (ha1 _ (by decide)).trans hout
  refine W.eq (g2 := F0 m 8 ls [.int ((oOrder y x q).2.1), .int (nI 0), .ref ho]) rfl ?_
  refine lv_i2l hx hb dL_order_8 rfl ?_
  refine g_last S hE hI (j := 0) (f := f0) hout1 rfl (by omega) (Nat.le_of_ble_eq_true rfl) dL_order_9 (fun H locs hI => ?_)
  have hI : gI K A s (gset Gc_5 (20, 0, 0) ho (.inl (K.2.1 1, 1, .inr (.inl (vp_updL f0 0 (((oOrder y x q).2.1).toInt64)))))) H locs := hI
  obtain ⟨G_1, hG_1⟩ : ∃ z, z = gset Gc_5 (20, 0, 0) ho (.inl (K.2.1 1, 1, .inr (.inl (vp_updL f0 0 (((oOrder y x q).2.1).toInt64))))) := ⟨_, rfl⟩
  rw [← hG_1] at hI
  have out_G_1 : G_1 (20, 0, 0) = some (ho, .inl (K.2.1 1, 1, .inr (.inl (vp_updL f0 0 (((oOrder y x q).2.1).toInt64))))) := by rw [hG_1]; exact gset_eq _ _ _ _
  refine lv_goto (tgt := 21) hx hb dL_order_10 (by decide) ?_
  refine lv_iconst (v := nI 0) hx hb dL_order_21 (by decide) ?_
  exact g_iret S hI hr hlocks (by omega) (by omega) dL_order_22 (lOk ho0 hY1 ha1 hG_1)
theorem h_ofKind_le {y : YV} (x : Int32) (w : Int32) : (oOfKind y x w).1 ≤ 2 := by
  unfold oOfKind
  repeat' split
  all_goals exact Nat.le_of_ble_eq_true rfl
set_option maxHeartbeats 4000000 in
set_option maxRecDepth 100000 in
/-- the law's call of ofKind -/
theorem h_ofKind (l : Launch) (K : gK) (G : gW) (L1 L2 : Nat → Nat → Nat) (M : Nat → Nat) (hy ho : Nat) (f0 : Nat → Int64) (y : YV) (x : Int32) (w : Int32) (hlS : l.stackTraces = false) (hy0 : YardC K L1 L2 M hy G y) (hout : G (20, 0, 0) = some (ho, .inl (K.2.1 1, 1, .inr (.inl f0)))) : gM l yL_ofKind wsL_ofKind 8 155 1 6 K [.ref hy, .int x, .int w, .ref ho] G (lPost K L1 L2 M hy ho G (oOfKind y x w)) (gNo) := by
  refine gM.ofH (hh := [(0, 10, 13, 20), (0, 10, 17, 13)]) (cc := cL_ofKind) (maxL := 5) (ret := (some .int)) (by decide) rfl (Nat.le_of_ble_eq_true rfl) ?_
  intro p e s m below meth c A S hr hlocks htab hname hE hA hI ls hl
  have hx := S.1
  have hb := S.2.1
  have hml := S.2.2.1
  have hl : lv_has ls 5 [(0, .ref hy), (1, .int x), (2, .int w), (3, .ref ho)] := hl
  obtain ⟨H, hHe⟩ : ∃ z, z = s.heap := ⟨_, rfl⟩
  obtain ⟨locs, hLe⟩ : ∃ z : List Loc, z = [] := ⟨_, rfl⟩
  rw [← hHe, ← hLe]
  have hI : gI K A s G H locs := by rw [hHe, hLe]; exact hI
  clear hHe hLe
  refine lv_aload_n hx hb dL_ofKind_0 rfl (lv_at hl 3 rfl) ?_
  refine lv_iconst (v := nI 0) hx hb dL_ofKind_1 (by decide) ?_
  refine lv_aload_n hx hb dL_ofKind_2 rfl (lv_at hl 0 rfl) ?_
  refine lv_iload_n hx hb dL_ofKind_3 rfl (lv_at hl 1 rfl) ?_
  refine lv_iload_n hx hb dL_ofKind_4 rfl (lv_at hl 2 rfl) ?_
  refine g_callV (As := [.int x, .int w]) (rest := [.int (nI 0), .ref ho]) (b := hy) (n := 2) S hE hI hA (o_ofKind l K _ L1 L2 M hy y x w hlS hy0) gL_ofKind_X4_ofKind rfl (by decide +kernel) ⟨Nat.le_of_ble_eq_true rfl, Nat.le_of_ble_eq_true rfl⟩ (g_hro hE hI hy0.1 rfl) rfl hl.1 rfl (Nat.le_of_ble_eq_true rfl) dL_ofKind_5 ⟨by show _ ≤ 1; omega, by show _ ≤ 6; omega⟩ (fun E ce q9 Gx H locs hx9 hI hce hcv hcl => ?_) (fun rv Gc_5 H locs hp hI => ?_)
  · skip
    obtain ⟨hne, rfl, hY1, ha1⟩ := hx9
    rcases lTwo hne (h_ofKind_le (y := y) (x := x) (w := w)) with hk | hk
    · skip
      rw [hk] at hcl
      refine g_catch S hE (E := eIO) (name := "java/lang/IndexOutOfBoundsException") (pc := 5) [] ⟨0, 10, 13, 20⟩ [⟨0, 10, 17, 13⟩] htab (fun z hz => nomatch hz) rfl (by decide) (List.mem_cons_of_mem _ (List.mem_append_left _ (List.mem_append_left _ (List.mem_append_left _ (List.mem_append_left _ (List.mem_append_left _ (List.mem_of_getElem? (i := 0) rfl))))))) (by decide) hce hcv hcl ?_
      show W _ _ _ _ _ _ _ _ _ _ _ _ _ _ _ (F0 m 13 ls [.ref q9])
      refine lv_astore (lv' := [(4, .ref q9), (0, .ref hy), (1, .int x), (2, .int w), (3, .ref ho)]) hx hb dL_ofKind_13 hl (by decide) rfl (fun ls hl => ?_)
      refine lv_iconst (v := nI 1) hx hb dL_ofKind_15 (by decide) ?_
      exact g_iret S hI hr hlocks (by omega) (by omega) dL_ofKind_16 (lThrow hk (by decide) hY1 ha1 hout)
    · skip
      rw [hk] at hcl
      refine g_catch S hE (E := eIA) (name := "java/lang/IllegalArgumentException") (pc := 5) [⟨0, 10, 13, 20⟩] ⟨0, 10, 17, 13⟩ [] htab (fun z hz => by rcases List.mem_singleton.mp hz with rfl; exact Or.inr ⟨by decide, "java/lang/IndexOutOfBoundsException", (List.mem_cons_of_mem _ (List.mem_append_left _ (List.mem_append_left _ (List.mem_append_left _ (List.mem_append_left _ (List.mem_append_left _ (List.mem_of_getElem? (i := 0) rfl))))))), by decide⟩) rfl (by decide) (List.mem_cons_of_mem _ (List.mem_append_left _ (List.mem_append_left _ (List.mem_append_left _ (List.mem_append_left _ (List.mem_append_left _ (List.mem_of_getElem? (i := 1) rfl))))))) (by decide) hce hcv hcl ?_
      show W _ _ _ _ _ _ _ _ _ _ _ _ _ _ _ (F0 m 17 ls [.ref q9])
      refine lv_astore (lv' := [(4, .ref q9), (0, .ref hy), (1, .int x), (2, .int w), (3, .ref ho)]) hx hb dL_ofKind_17 hl (by decide) rfl (fun ls hl => ?_)
      refine lv_iconst (v := nI 2) hx hb dL_ofKind_19 (by decide) ?_
      exact g_iret S hI hr hlocks (by omega) (by omega) dL_ofKind_20 (lThrow hk (by decide) hY1 ha1 hout)
  obtain ⟨ho0, rfl, hY1, ha1⟩ := hp
  have hout1 : Gc_5 (20, 0, 0) = some (ho, .inl (K.2.1 1, 1, .inr (.inl f0))) := (ha1 _ (by decide)).trans hout
  refine W.eq (g2 := F0 m 8 ls [.int ((oOfKind y x w).2.1), .int (nI 0), .ref ho]) rfl ?_
  refine lv_i2l hx hb dL_ofKind_8 rfl ?_
  refine g_last S hE hI (j := 0) (f := f0) hout1 rfl (by omega) (Nat.le_of_ble_eq_true rfl) dL_ofKind_9 (fun H locs hI => ?_)
  have hI : gI K A s (gset Gc_5 (20, 0, 0) ho (.inl (K.2.1 1, 1, .inr (.inl (vp_updL f0 0 (((oOfKind y x w).2.1).toInt64)))))) H locs := hI
  obtain ⟨G_1, hG_1⟩ : ∃ z, z = gset Gc_5 (20, 0, 0) ho (.inl (K.2.1 1, 1, .inr (.inl (vp_updL f0 0 (((oOfKind y x w).2.1).toInt64))))) := ⟨_, rfl⟩
  rw [← hG_1] at hI
  have out_G_1 : G_1 (20, 0, 0) = some (ho, .inl (K.2.1 1, 1, .inr (.inl (vp_updL f0 0 (((oOfKind y x w).2.1).toInt64))))) := by rw [hG_1]; exact gset_eq _ _ _ _
  refine lv_goto (tgt := 21) hx hb dL_ofKind_10 (by decide) ?_
  refine lv_iconst (v := nI 0) hx hb dL_ofKind_21 (by decide) ?_
  exact g_iret S hI hr hlocks (by omega) (by omega) dL_ofKind_22 (lOk ho0 hY1 ha1 hG_1)
theorem h_fits_le {y : YV} (x : Int32) (k : Int32) : (oFits y x k).1 ≤ 1 := by
  unfold oFits
  repeat' split
  all_goals exact Nat.le_of_ble_eq_true rfl
set_option maxHeartbeats 4000000 in
set_option maxRecDepth 100000 in
/-- the law's call of fits -/
theorem h_fits (l : Launch) (K : gK) (G : gW) (L1 L2 : Nat → Nat → Nat) (M : Nat → Nat) (hy ho : Nat) (f0 : Nat → Int64) (y : YV) (x : Int32) (k : Int32) (hlS : l.stackTraces = false) (hy0 : YardC K L1 L2 M hy G y) (hout : G (20, 0, 0) = some (ho, .inl (K.2.1 1, 1, .inr (.inl f0)))) : gM l yL_fits wsL_fits 8 154 1 6 K [.ref hy, .int x, .int k, .ref ho] G (lPost K L1 L2 M hy ho G (oFits y x k)) (gNo) := by
  refine gM.ofH (hh := [(0, 10, 13, 20)]) (cc := cL_fits) (maxL := 5) (ret := (some .int)) (by decide) rfl (Nat.le_of_ble_eq_true rfl) ?_
  intro p e s m below meth c A S hr hlocks htab hname hE hA hI ls hl
  have hx := S.1
  have hb := S.2.1
  have hml := S.2.2.1
  have hl : lv_has ls 5 [(0, .ref hy), (1, .int x), (2, .int k), (3, .ref ho)] := hl
  obtain ⟨H, hHe⟩ : ∃ z, z = s.heap := ⟨_, rfl⟩
  obtain ⟨locs, hLe⟩ : ∃ z : List Loc, z = [] := ⟨_, rfl⟩
  rw [← hHe, ← hLe]
  have hI : gI K A s G H locs := by rw [hHe, hLe]; exact hI
  clear hHe hLe
  refine lv_aload_n hx hb dL_fits_0 rfl (lv_at hl 3 rfl) ?_
  refine lv_iconst (v := nI 0) hx hb dL_fits_1 (by decide) ?_
  refine lv_aload_n hx hb dL_fits_2 rfl (lv_at hl 0 rfl) ?_
  refine lv_iload_n hx hb dL_fits_3 rfl (lv_at hl 1 rfl) ?_
  refine lv_iload_n hx hb dL_fits_4 rfl (lv_at hl 2 rfl) ?_
  refine g_callV (As := [.int x, .int k]) (rest := [.int (nI 0), .ref ho]) (b := hy) (n := 2) S hE hI hA (o_fits l K _ L1 L2 M hy y x k hlS hy0) gL_fits_X4_fits rfl (by decide +kernel) ⟨Nat.le_of_ble_eq_true rfl, Nat.le_of_ble_eq_true rfl⟩ (g_hro hE hI hy0.1 rfl) rfl hl.1 rfl (Nat.le_of_ble_eq_true rfl) dL_fits_5 ⟨by show _ ≤ 1; omega, by show _ ≤ 6; omega⟩ (fun E ce q9 Gx H locs hx9 hI hce hcv hcl => ?_) (fun rv Gc_5 H locs hp hI => ?_)
  · skip
    obtain ⟨hne, rfl, hY1, ha1⟩ := hx9
    have hk : (oFits y x k).1 = 1 := by have h9 := h_fits_le (y := y) (x := x) (k := k); omega
    refine g_catch S hE (E := eIO) (name := "java/lang/IndexOutOfBoundsException") (pc := 5) [] ⟨0, 10, 13, 20⟩ [] htab (fun z hz => nomatch hz) rfl (by decide) (List.mem_cons_of_mem _ (List.mem_append_left _ (List.mem_append_left _ (List.mem_append_left _ (List.mem_append_left _ (List.mem_append_left _ (List.mem_append_left _ (List.mem_of_getElem? (i := 0) rfl)))))))) (by decide) hce hcv hcl ?_
    show W _ _ _ _ _ _ _ _ _ _ _ _ _ _ _ (F0 m 13 ls [.ref q9])
    refine lv_astore (lv' := [(4, .ref q9), (0, .ref hy), (1, .int x), (2, .int k), (3, .ref ho)]) hx hb dL_fits_13 hl (by decide) rfl (fun ls hl => ?_)
    refine lv_iconst (v := nI 1) hx hb dL_fits_15 (by decide) ?_
    exact g_iret S hI hr hlocks (by omega) (by omega) dL_fits_16 (lThrow hk (by decide) hY1 ha1 hout)
  obtain ⟨ho0, rfl, hY1, ha1⟩ := hp
  have hout1 : Gc_5 (20, 0, 0) = some (ho, .inl (K.2.1 1, 1, .inr (.inl f0))) := (ha1 _ (by decide)).trans hout
  refine W.eq (g2 := F0 m 8 ls [.int ((oFits y x k).2.1), .int (nI 0), .ref ho]) rfl ?_
  refine lv_i2l hx hb dL_fits_8 rfl ?_
  refine g_last S hE hI (j := 0) (f := f0) hout1 rfl (by omega) (Nat.le_of_ble_eq_true rfl) dL_fits_9 (fun H locs hI => ?_)
  have hI : gI K A s (gset Gc_5 (20, 0, 0) ho (.inl (K.2.1 1, 1, .inr (.inl (vp_updL f0 0 (((oFits y x k).2.1).toInt64)))))) H locs := hI
  obtain ⟨G_1, hG_1⟩ : ∃ z, z = gset Gc_5 (20, 0, 0) ho (.inl (K.2.1 1, 1, .inr (.inl (vp_updL f0 0 (((oFits y x k).2.1).toInt64))))) := ⟨_, rfl⟩
  rw [← hG_1] at hI
  have out_G_1 : G_1 (20, 0, 0) = some (ho, .inl (K.2.1 1, 1, .inr (.inl (vp_updL f0 0 (((oFits y x k).2.1).toInt64))))) := by rw [hG_1]; exact gset_eq _ _ _ _
  refine lv_goto (tgt := 17) hx hb dL_fits_10 (by decide) ?_
  refine lv_iconst (v := nI 0) hx hb dL_fits_17 (by decide) ?_
  exact g_iret S hI hr hlocks (by omega) (by omega) dL_fits_18 (lOk ho0 hY1 ha1 hG_1)
theorem h_take_le {y : YV} (x : Int32) (k : Int32) : (oTake y x k).1 ≤ 2 := by
  unfold oTake
  repeat' split
  all_goals exact Nat.le_of_ble_eq_true rfl
set_option maxHeartbeats 4000000 in
set_option maxRecDepth 100000 in
/-- the law's call of take -/
theorem h_take (l : Launch) (K : gK) (G : gW) (L1 L2 : Nat → Nat → Nat) (M : Nat → Nat) (hy ho : Nat) (f0 : Nat → Int64) (y : YV) (x : Int32) (k : Int32) (hlS : l.stackTraces = false) (hy0 : YardC K L1 L2 M hy G y) (hout : G (20, 0, 0) = some (ho, .inl (K.2.1 1, 1, .inr (.inl f0)))) : gM l yL_take wsL_take 8 168 1 6 K [.ref hy, .int x, .int k, .ref ho] G (lPost K L1 L2 M hy ho G (oTake y x k)) (gNo) := by
  refine gM.ofH (hh := [(0, 10, 13, 20), (0, 10, 17, 15)]) (cc := cL_take) (maxL := 5) (ret := (some .int)) (by decide) rfl (Nat.le_of_ble_eq_true rfl) ?_
  intro p e s m below meth c A S hr hlocks htab hname hE hA hI ls hl
  have hx := S.1
  have hb := S.2.1
  have hml := S.2.2.1
  have hl : lv_has ls 5 [(0, .ref hy), (1, .int x), (2, .int k), (3, .ref ho)] := hl
  obtain ⟨H, hHe⟩ : ∃ z, z = s.heap := ⟨_, rfl⟩
  obtain ⟨locs, hLe⟩ : ∃ z : List Loc, z = [] := ⟨_, rfl⟩
  rw [← hHe, ← hLe]
  have hI : gI K A s G H locs := by rw [hHe, hLe]; exact hI
  clear hHe hLe
  refine lv_aload_n hx hb dL_take_0 rfl (lv_at hl 3 rfl) ?_
  refine lv_iconst (v := nI 0) hx hb dL_take_1 (by decide) ?_
  refine lv_aload_n hx hb dL_take_2 rfl (lv_at hl 0 rfl) ?_
  refine lv_iload_n hx hb dL_take_3 rfl (lv_at hl 1 rfl) ?_
  refine lv_iload_n hx hb dL_take_4 rfl (lv_at hl 2 rfl) ?_
  refine g_callV (As := [.int x, .int k]) (rest := [.int (nI 0), .ref ho]) (b := hy) (n := 2) S hE hI hA (o_take l K _ L1 L2 M hy y x k hlS hy0) gL_take_X4_take rfl (by decide +kernel) ⟨Nat.le_of_ble_eq_true rfl, Nat.le_of_ble_eq_true rfl⟩ (g_hro hE hI hy0.1 rfl) rfl hl.1 rfl (Nat.le_of_ble_eq_true rfl) dL_take_5 ⟨by show _ ≤ 1; omega, by show _ ≤ 6; omega⟩ (fun E ce q9 Gx H locs hx9 hI hce hcv hcl => ?_) (fun rv Gc_5 H locs hp hI => ?_)
  · skip
    obtain ⟨hne, rfl, hY1, ha1⟩ := hx9
    rcases lTwo hne (h_take_le (y := y) (x := x) (k := k)) with hk | hk
    · skip
      rw [hk] at hcl
      refine g_catch S hE (E := eIO) (name := "java/lang/IndexOutOfBoundsException") (pc := 5) [] ⟨0, 10, 13, 20⟩ [⟨0, 10, 17, 15⟩] htab (fun z hz => nomatch hz) rfl (by decide) (List.mem_cons_of_mem _ (List.mem_append_left _ (List.mem_append_left _ (List.mem_append_left _ (List.mem_append_left _ (List.mem_append_left _ (List.mem_append_left _ (List.mem_append_left _ (List.mem_of_getElem? (i := 0) rfl))))))))) (by decide) hce hcv hcl ?_
      show W _ _ _ _ _ _ _ _ _ _ _ _ _ _ _ (F0 m 13 ls [.ref q9])
      refine lv_astore (lv' := [(4, .ref q9), (0, .ref hy), (1, .int x), (2, .int k), (3, .ref ho)]) hx hb dL_take_13 hl (by decide) rfl (fun ls hl => ?_)
      refine lv_iconst (v := nI 1) hx hb dL_take_15 (by decide) ?_
      exact g_iret S hI hr hlocks (by omega) (by omega) dL_take_16 (lThrow hk (by decide) hY1 ha1 hout)
    · skip
      rw [hk] at hcl
      refine g_catch S hE (E := eIS) (name := "java/lang/IllegalStateException") (pc := 5) [⟨0, 10, 13, 20⟩] ⟨0, 10, 17, 15⟩ [] htab (fun z hz => by rcases List.mem_singleton.mp hz with rfl; exact Or.inr ⟨by decide, "java/lang/IndexOutOfBoundsException", (List.mem_cons_of_mem _ (List.mem_append_left _ (List.mem_append_left _ (List.mem_append_left _ (List.mem_append_left _ (List.mem_append_left _ (List.mem_append_left _ (List.mem_append_left _ (List.mem_of_getElem? (i := 0) rfl))))))))), by decide⟩) rfl (by decide) (List.mem_cons_of_mem _ (List.mem_append_left _ (List.mem_append_left _ (List.mem_append_left _ (List.mem_append_left _ (List.mem_append_left _ (List.mem_append_left _ (List.mem_append_left _ (List.mem_of_getElem? (i := 1) rfl))))))))) (by decide) hce hcv hcl ?_
      show W _ _ _ _ _ _ _ _ _ _ _ _ _ _ _ (F0 m 17 ls [.ref q9])
      refine lv_astore (lv' := [(4, .ref q9), (0, .ref hy), (1, .int x), (2, .int k), (3, .ref ho)]) hx hb dL_take_17 hl (by decide) rfl (fun ls hl => ?_)
      refine lv_iconst (v := nI 2) hx hb dL_take_19 (by decide) ?_
      exact g_iret S hI hr hlocks (by omega) (by omega) dL_take_20 (lThrow hk (by decide) hY1 ha1 hout)
  obtain ⟨ho0, rfl, hY1, ha1⟩ := hp
  have hout1 : Gc_5 (20, 0, 0) = some (ho, .inl (K.2.1 1, 1, .inr (.inl f0))) := (ha1 _ (by decide)).trans hout
  refine W.eq (g2 := F0 m 8 ls [.int ((oTake y x k).2.1), .int (nI 0), .ref ho]) rfl ?_
  refine lv_i2l hx hb dL_take_8 rfl ?_
  refine g_last S hE hI (j := 0) (f := f0) hout1 rfl (by omega) (Nat.le_of_ble_eq_true rfl) dL_take_9 (fun H locs hI => ?_)
  have hI : gI K A s (gset Gc_5 (20, 0, 0) ho (.inl (K.2.1 1, 1, .inr (.inl (vp_updL f0 0 (((oTake y x k).2.1).toInt64)))))) H locs := hI
  obtain ⟨G_1, hG_1⟩ : ∃ z, z = gset Gc_5 (20, 0, 0) ho (.inl (K.2.1 1, 1, .inr (.inl (vp_updL f0 0 (((oTake y x k).2.1).toInt64))))) := ⟨_, rfl⟩
  rw [← hG_1] at hI
  have out_G_1 : G_1 (20, 0, 0) = some (ho, .inl (K.2.1 1, 1, .inr (.inl (vp_updL f0 0 (((oTake y x k).2.1).toInt64))))) := by rw [hG_1]; exact gset_eq _ _ _ _
  refine lv_goto (tgt := 21) hx hb dL_take_10 (by decide) ?_
  refine lv_iconst (v := nI 0) hx hb dL_take_21 (by decide) ?_
  exact g_iret S hI hr hlocks (by omega) (by omega) dL_take_22 (lOk ho0 hY1 ha1 hG_1)
theorem h_plan_le {y : YV} (x : Int32) : (oPlan y x).1 ≤ 1 := by
  unfold oPlan
  repeat' split
  all_goals exact Nat.le_of_ble_eq_true rfl
set_option maxHeartbeats 4000000 in
set_option maxRecDepth 100000 in
/-- the law's call of plan -/
theorem h_plan (l : Launch) (K : gK) (G : gW) (L1 L2 : Nat → Nat → Nat) (M : Nat → Nat) (hy ho : Nat) (f0 : Nat → Int64) (y : YV) (x : Int32) (hlS : l.stackTraces = false) (hy0 : YardC K L1 L2 M hy G y) (hout : G (20, 0, 0) = some (ho, .inl (K.2.1 1, 1, .inr (.inl f0)))) : gM l yL_plan wsL_plan 8 190 1 6 K [.ref hy, .int x, .ref ho] G (lPost K L1 L2 M hy ho G (oPlan y x)) (gNo) := by
  refine gM.ofH (hh := [(0, 9, 12, 13)]) (cc := cL_plan) (maxL := 4) (ret := (some .int)) (by decide) rfl (Nat.le_of_ble_eq_true rfl) ?_
  intro p e s m below meth c A S hr hlocks htab hname hE hA hI ls hl
  have hx := S.1
  have hb := S.2.1
  have hml := S.2.2.1
  have hl : lv_has ls 4 [(0, .ref hy), (1, .int x), (2, .ref ho)] := hl
  obtain ⟨H, hHe⟩ : ∃ z, z = s.heap := ⟨_, rfl⟩
  obtain ⟨locs, hLe⟩ : ∃ z : List Loc, z = [] := ⟨_, rfl⟩
  rw [← hHe, ← hLe]
  have hI : gI K A s G H locs := by rw [hHe, hLe]; exact hI
  clear hHe hLe
  refine lv_aload_n hx hb dL_plan_0 rfl (lv_at hl 2 rfl) ?_
  refine lv_iconst (v := nI 0) hx hb dL_plan_1 (by decide) ?_
  refine lv_aload_n hx hb dL_plan_2 rfl (lv_at hl 0 rfl) ?_
  refine lv_iload_n hx hb dL_plan_3 rfl (lv_at hl 1 rfl) ?_
  refine g_callV (As := [.int x]) (rest := [.int (nI 0), .ref ho]) (b := hy) (n := 1) S hE hI hA (o_plan l K _ L1 L2 M hy y x hlS hy0) gL_plan_X4_plan rfl (by decide +kernel) ⟨Nat.le_of_ble_eq_true rfl, Nat.le_of_ble_eq_true rfl⟩ (g_hro hE hI hy0.1 rfl) rfl hl.1 rfl (Nat.le_of_ble_eq_true rfl) dL_plan_4 ⟨by show _ ≤ 1; omega, by show _ ≤ 6; omega⟩ (fun E ce q9 Gx H locs hx9 hI hce hcv hcl => ?_) (fun rv Gc_4 H locs hp hI => ?_)
  · skip
    obtain ⟨hne, rfl, hY1, ha1⟩ := hx9
    have hk : (oPlan y x).1 = 1 := by have h9 := h_plan_le (y := y) (x := x); omega
    refine g_catch S hE (E := eIA) (name := "java/lang/IllegalArgumentException") (pc := 4) [] ⟨0, 9, 12, 13⟩ [] htab (fun z hz => nomatch hz) rfl (by decide) (List.mem_cons_of_mem _ (List.mem_append_left _ (List.mem_append_left _ (List.mem_append_left _ (List.mem_append_left _ (List.mem_append_left _ (List.mem_append_left _ (List.mem_of_getElem? (i := 0) rfl)))))))) (by decide) hce hcv hcl ?_
    show W _ _ _ _ _ _ _ _ _ _ _ _ _ _ _ (F0 m 12 ls [.ref q9])
    refine lv_astore_n (lv' := [(3, .ref q9), (0, .ref hy), (1, .int x), (2, .ref ho)]) hx hb dL_plan_12 rfl hl (by decide) rfl (fun ls hl => ?_)
    refine lv_iconst (v := nI 1) hx hb dL_plan_13 (by decide) ?_
    exact g_iret S hI hr hlocks (by omega) (by omega) dL_plan_14 (lThrow hk (by decide) hY1 ha1 hout)
  obtain ⟨ho0, rfl, hY1, ha1⟩ := hp
  have hout1 : Gc_4 (20, 0, 0) = some (ho, .inl (K.2.1 1, 1, .inr (.inl f0))) := (ha1 _ (by decide)).trans hout
  refine W.eq (g2 := F0 m 7 ls [.int ((oPlan y x).2.1), .int (nI 0), .ref ho]) rfl ?_
  refine lv_i2l hx hb dL_plan_7 rfl ?_
  refine g_last S hE hI (j := 0) (f := f0) hout1 rfl (by omega) (Nat.le_of_ble_eq_true rfl) dL_plan_8 (fun H locs hI => ?_)
  have hI : gI K A s (gset Gc_4 (20, 0, 0) ho (.inl (K.2.1 1, 1, .inr (.inl (vp_updL f0 0 (((oPlan y x).2.1).toInt64)))))) H locs := hI
  obtain ⟨G_1, hG_1⟩ : ∃ z, z = gset Gc_4 (20, 0, 0) ho (.inl (K.2.1 1, 1, .inr (.inl (vp_updL f0 0 (((oPlan y x).2.1).toInt64))))) := ⟨_, rfl⟩
  rw [← hG_1] at hI
  have out_G_1 : G_1 (20, 0, 0) = some (ho, .inl (K.2.1 1, 1, .inr (.inl (vp_updL f0 0 (((oPlan y x).2.1).toInt64))))) := by rw [hG_1]; exact gset_eq _ _ _ _
  refine lv_goto (tgt := 15) hx hb dL_plan_9 (by decide) ?_
  refine lv_iconst (v := nI 0) hx hb dL_plan_15 (by decide) ?_
  exact g_iret S hI hr hlocks (by omega) (by omega) dL_plan_16 (lOk ho0 hY1 ha1 hG_1)
theorem h_many_le {y : YV} (w : Int32) : (oMany y w).1 ≤ 1 := by
  unfold oMany
  repeat' split
  all_goals exact Nat.le_of_ble_eq_true rfl
set_option maxHeartbeats 4000000 in
set_option maxRecDepth 100000 in
/-- the law's call of many -/
theorem h_many (l : Launch) (K : gK) (G : gW) (L1 L2 : Nat → Nat → Nat) (M : Nat → Nat) (hy ho : Nat) (f0 : Nat → Int64) (y : YV) (w : Int32) (hlS : l.stackTraces = false) (hy0 : YardC K L1 L2 M hy G y) (hout : G (20, 0, 0) = some (ho, .inl (K.2.1 1, 1, .inr (.inl f0)))) : gM l yL_many wsL_many 7 131 1 6 K [.ref hy, .int w, .ref ho] G (lPost K L1 L2 M hy ho G (oMany y w)) (gNo) := by
  refine gM.ofH (hh := [(0, 9, 12, 13)]) (cc := cL_many) (maxL := 4) (ret := (some .int)) (by decide) rfl (Nat.le_of_ble_eq_true rfl) ?_
  intro p e s m below meth c A S hr hlocks htab hname hE hA hI ls hl
  have hx := S.1
  have hb := S.2.1
  have hml := S.2.2.1
  have hl : lv_has ls 4 [(0, .ref hy), (1, .int w), (2, .ref ho)] := hl
  obtain ⟨H, hHe⟩ : ∃ z, z = s.heap := ⟨_, rfl⟩
  obtain ⟨locs, hLe⟩ : ∃ z : List Loc, z = [] := ⟨_, rfl⟩
  rw [← hHe, ← hLe]
  have hI : gI K A s G H locs := by rw [hHe, hLe]; exact hI
  clear hHe hLe
  refine lv_aload_n hx hb dL_many_0 rfl (lv_at hl 2 rfl) ?_
  refine lv_iconst (v := nI 0) hx hb dL_many_1 (by decide) ?_
  refine lv_aload_n hx hb dL_many_2 rfl (lv_at hl 0 rfl) ?_
  refine lv_iload_n hx hb dL_many_3 rfl (lv_at hl 1 rfl) ?_
  refine g_callV (As := [.int w]) (rest := [.int (nI 0), .ref ho]) (b := hy) (n := 1) S hE hI hA (o_many l K _ L1 L2 M hy y w hlS hy0) gL_many_X4_many rfl (by decide +kernel) ⟨Nat.le_of_ble_eq_true rfl, Nat.le_of_ble_eq_true rfl⟩ (g_hro hE hI hy0.1 rfl) rfl hl.1 rfl (Nat.le_of_ble_eq_true rfl) dL_many_4 ⟨by show _ ≤ 1; omega, by show _ ≤ 6; omega⟩ (fun E ce q9 Gx H locs hx9 hI hce hcv hcl => ?_) (fun rv Gc_4 H locs hp hI => ?_)
  · skip
    obtain ⟨hne, rfl, hY1, ha1⟩ := hx9
    have hk : (oMany y w).1 = 1 := by have h9 := h_many_le (y := y) (w := w); omega
    refine g_catch S hE (E := eIA) (name := "java/lang/IllegalArgumentException") (pc := 4) [] ⟨0, 9, 12, 13⟩ [] htab (fun z hz => nomatch hz) rfl (by decide) (List.mem_cons_of_mem _ (List.mem_append_left _ (List.mem_append_left _ (List.mem_append_left _ (List.mem_append_left _ (List.mem_append_left _ (List.mem_append_left _ (List.mem_of_getElem? (i := 0) rfl)))))))) (by decide) hce hcv hcl ?_
    show W _ _ _ _ _ _ _ _ _ _ _ _ _ _ _ (F0 m 12 ls [.ref q9])
    refine lv_astore_n (lv' := [(3, .ref q9), (0, .ref hy), (1, .int w), (2, .ref ho)]) hx hb dL_many_12 rfl hl (by decide) rfl (fun ls hl => ?_)
    refine lv_iconst (v := nI 1) hx hb dL_many_13 (by decide) ?_
    exact g_iret S hI hr hlocks (by omega) (by omega) dL_many_14 (lThrow hk (by decide) hY1 ha1 hout)
  obtain ⟨ho0, rfl, hY1, ha1⟩ := hp
  have hout1 : Gc_4 (20, 0, 0) = some (ho, .inl (K.2.1 1, 1, .inr (.inl f0))) := (ha1 _ (by decide)).trans hout
  refine W.eq (g2 := F0 m 7 ls [.int ((oMany y w).2.1), .int (nI 0), .ref ho]) rfl ?_
  refine lv_i2l hx hb dL_many_7 rfl ?_
  refine g_last S hE hI (j := 0) (f := f0) hout1 rfl (by omega) (Nat.le_of_ble_eq_true rfl) dL_many_8 (fun H locs hI => ?_)
  have hI : gI K A s (gset Gc_4 (20, 0, 0) ho (.inl (K.2.1 1, 1, .inr (.inl (vp_updL f0 0 (((oMany y w).2.1).toInt64)))))) H locs := hI
  obtain ⟨G_1, hG_1⟩ : ∃ z, z = gset Gc_4 (20, 0, 0) ho (.inl (K.2.1 1, 1, .inr (.inl (vp_updL f0 0 (((oMany y w).2.1).toInt64))))) := ⟨_, rfl⟩
  rw [← hG_1] at hI
  have out_G_1 : G_1 (20, 0, 0) = some (ho, .inl (K.2.1 1, 1, .inr (.inl (vp_updL f0 0 (((oMany y w).2.1).toInt64))))) := by rw [hG_1]; exact gset_eq _ _ _ _
  refine lv_goto (tgt := 15) hx hb dL_many_9 (by decide) ?_
  refine lv_iconst (v := nI 0) hx hb dL_many_15 (by decide) ?_
  exact g_iret S hI hr hlocks (by omega) (by omega) dL_many_16 (lOk ho0 hY1 ha1 hG_1)
theorem h_worth_le {y : YV} (w : Int32) (h : Int32) (g : Int32) : (oWorth y w h g).1 ≤ 1 := by
  unfold oWorth
  repeat' split
  all_goals exact Nat.le_of_ble_eq_true rfl
set_option maxHeartbeats 4000000 in
set_option maxRecDepth 100000 in
/-- the law's call of worth -/
theorem h_worth (l : Launch) (K : gK) (G : gW) (L1 L2 : Nat → Nat → Nat) (M : Nat → Nat) (hy ho : Nat) (f0 : Nat → Int64) (y : YV) (w : Int32) (h : Int32) (g : Int32) (hlS : l.stackTraces = false) (hy0 : YardC K L1 L2 M hy G y) (hout : G (20, 0, 0) = some (ho, .inl (K.2.1 1, 1, .inr (.inl f0)))) : gM l yL_worth wsL_worth 8 167 1 6 K [.ref hy, .int w, .int h, .int g, .ref ho] G (lPost K L1 L2 M hy ho G (oWorth y w h g)) (gNo) := by
  refine gM.ofH (hh := [(0, 12, 15, 13)]) (cc := cL_worth) (maxL := 6) (ret := (some .int)) (by decide) rfl (Nat.le_of_ble_eq_true rfl) ?_
  intro p e s m below meth c A S hr hlocks htab hname hE hA hI ls hl
  have hx := S.1
  have hb := S.2.1
  have hml := S.2.2.1
  have hl : lv_has ls 6 [(0, .ref hy), (1, .int w), (2, .int h), (3, .int g), (4, .ref ho)] := hl
  obtain ⟨H, hHe⟩ : ∃ z, z = s.heap := ⟨_, rfl⟩
  obtain ⟨locs, hLe⟩ : ∃ z : List Loc, z = [] := ⟨_, rfl⟩
  rw [← hHe, ← hLe]
  have hI : gI K A s G H locs := by rw [hHe, hLe]; exact hI
  clear hHe hLe
  refine lv_aload hx hb dL_worth_0 (lv_at hl 4 rfl) ?_
  refine lv_iconst (v := nI 0) hx hb dL_worth_2 (by decide) ?_
  refine lv_aload_n hx hb dL_worth_3 rfl (lv_at hl 0 rfl) ?_
  refine lv_iload_n hx hb dL_worth_4 rfl (lv_at hl 1 rfl) ?_
  refine lv_iload_n hx hb dL_worth_5 rfl (lv_at hl 2 rfl) ?_
  refine lv_iload_n hx hb dL_worth_6 rfl (lv_at hl 3 rfl) ?_
  refine g_callV (As := [.int w, .int h, .int g]) (rest := [.int (nI 0), .ref ho]) (b := hy) (n := 3) S hE hI hA (o_worth l K _ L1 L2 M hy y w h g hlS hy0) gL_worth_X4_worth rfl (by decide +kernel) ⟨Nat.le_of_ble_eq_true rfl, Nat.le_of_ble_eq_true rfl⟩ (g_hro hE hI hy0.1 rfl) rfl hl.1 rfl (Nat.le_of_ble_eq_true rfl) dL_worth_7 ⟨by show _ ≤ 1; omega, by show _ ≤ 6; omega⟩ (fun E ce q9 Gx H locs hx9 hI hce hcv hcl => ?_) (fun rv Gc_7 H locs hp hI => ?_)
  · skip
    obtain ⟨hne, rfl, hY1, ha1⟩ := hx9
    have hk : (oWorth y w h g).1 = 1 := by have h9 := h_worth_le (y := y) (w := w) (h := h) (g := g); omega
    refine g_catch S hE (E := eIA) (name := "java/lang/IllegalArgumentException") (pc := 7) [] ⟨0, 12, 15, 13⟩ [] htab (fun z hz => nomatch hz) rfl (by decide) (List.mem_cons_of_mem _ (List.mem_append_left _ (List.mem_append_left _ (List.mem_append_left _ (List.mem_append_left _ (List.mem_append_left _ (List.mem_append_left _ (List.mem_of_getElem? (i := 0) rfl)))))))) (by decide) hce hcv hcl ?_
    show W _ _ _ _ _ _ _ _ _ _ _ _ _ _ _ (F0 m 15 ls [.ref q9])
    refine lv_astore (lv' := [(5, .ref q9), (0, .ref hy), (1, .int w), (2, .int h), (3, .int g), (4, .ref ho)]) hx hb dL_worth_15 hl (by decide) rfl (fun ls hl => ?_)
    refine lv_iconst (v := nI 1) hx hb dL_worth_17 (by decide) ?_
    exact g_iret S hI hr hlocks (by omega) (by omega) dL_worth_18 (lThrow hk (by decide) hY1 ha1 hout)
  obtain ⟨ho0, rfl, hY1, ha1⟩ := hp
  have hout1 : Gc_7 (20, 0, 0) = some (ho, .inl (K.2.1 1, 1, .inr (.inl f0))) := (ha1 _ (by decide)).trans hout
  refine W.eq (g2 := F0 m 10 ls [.int ((oWorth y w h g).2.1), .int (nI 0), .ref ho]) rfl ?_
  refine lv_i2l hx hb dL_worth_10 rfl ?_
  refine g_last S hE hI (j := 0) (f := f0) hout1 rfl (by omega) (Nat.le_of_ble_eq_true rfl) dL_worth_11 (fun H locs hI => ?_)
  have hI : gI K A s (gset Gc_7 (20, 0, 0) ho (.inl (K.2.1 1, 1, .inr (.inl (vp_updL f0 0 (((oWorth y w h g).2.1).toInt64)))))) H locs := hI
  obtain ⟨G_1, hG_1⟩ : ∃ z, z = gset Gc_7 (20, 0, 0) ho (.inl (K.2.1 1, 1, .inr (.inl (vp_updL f0 0 (((oWorth y w h g).2.1).toInt64))))) := ⟨_, rfl⟩
  rw [← hG_1] at hI
  have out_G_1 : G_1 (20, 0, 0) = some (ho, .inl (K.2.1 1, 1, .inr (.inl (vp_updL f0 0 (((oWorth y w h g).2.1).toInt64))))) := by rw [hG_1]; exact gset_eq _ _ _ _
  refine lv_goto (tgt := 19) hx hb dL_worth_12 (by decide) ?_
  refine lv_iconst (v := nI 0) hx hb dL_worth_19 (by decide) ?_
  exact g_iret S hI hr hlocks (by omega) (by omega) dL_worth_20 (lOk ho0 hY1 ha1 hG_1)
theorem h_bestCut_le {y : YV} (w : Int32) (h : Int32) (g : Int32) : (oBest y w h g).1 ≤ 1 := by
  unfold oBest
  repeat' split
  all_goals exact Nat.le_of_ble_eq_true rfl
set_option maxHeartbeats 4000000 in
set_option maxRecDepth 100000 in
/-- the law's call of bestCut -/
theorem h_bestCut (l : Launch) (K : gK) (G : gW) (L1 L2 : Nat → Nat → Nat) (M : Nat → Nat) (hy ho : Nat) (f0 : Nat → Int64) (y : YV) (w : Int32) (h : Int32) (g : Int32) (hlS : l.stackTraces = false) (hy0 : YardC K L1 L2 M hy G y) (hout : G (20, 0, 0) = some (ho, .inl (K.2.1 1, 1, .inr (.inl f0)))) : gM l yL_bestCut wsL_bestCut 8 167 1 6 K [.ref hy, .int w, .int h, .int g, .ref ho] G (lPost K L1 L2 M hy ho G (oBest y w h g)) (gNo) := by
  refine gM.ofH (hh := [(0, 12, 15, 13)]) (cc := cL_bestCut) (maxL := 6) (ret := (some .int)) (by decide) rfl (Nat.le_of_ble_eq_true rfl) ?_
  intro p e s m below meth c A S hr hlocks htab hname hE hA hI ls hl
  have hx := S.1
  have hb := S.2.1
  have hml := S.2.2.1
  have hl : lv_has ls 6 [(0, .ref hy), (1, .int w), (2, .int h), (3, .int g), (4, .ref ho)] := hl
  obtain ⟨H, hHe⟩ : ∃ z, z = s.heap := ⟨_, rfl⟩
  obtain ⟨locs, hLe⟩ : ∃ z : List Loc, z = [] := ⟨_, rfl⟩
  rw [← hHe, ← hLe]
  have hI : gI K A s G H locs := by rw [hHe, hLe]; exact hI
  clear hHe hLe
  refine lv_aload hx hb dL_bestCut_0 (lv_at hl 4 rfl) ?_
  refine lv_iconst (v := nI 0) hx hb dL_bestCut_2 (by decide) ?_
  refine lv_aload_n hx hb dL_bestCut_3 rfl (lv_at hl 0 rfl) ?_
  refine lv_iload_n hx hb dL_bestCut_4 rfl (lv_at hl 1 rfl) ?_
  refine lv_iload_n hx hb dL_bestCut_5 rfl (lv_at hl 2 rfl) ?_
  refine lv_iload_n hx hb dL_bestCut_6 rfl (lv_at hl 3 rfl) ?_
  refine g_callV (As := [.int w, .int h, .int g]) (rest := [.int (nI 0), .ref ho]) (b := hy) (n := 3) S hE hI hA (o_best l K _ L1 L2 M hy y w h g hlS hy0) gL_bestCut_X4_bestCut rfl (by decide +kernel) ⟨Nat.le_of_ble_eq_true rfl, Nat.le_of_ble_eq_true rfl⟩ (g_hro hE hI hy0.1 rfl) rfl hl.1 rfl (Nat.le_of_ble_eq_true rfl) dL_bestCut_7 ⟨by show _ ≤ 1; omega, by show _ ≤ 6; omega⟩ (fun E ce q9 Gx H locs hx9 hI hce hcv hcl => ?_) (fun rv Gc_7 H locs hp hI => ?_)
  · skip
    obtain ⟨hne, rfl, hY1, ha1⟩ := hx9
    have hk : (oBest y w h g).1 = 1 := by have h9 := h_bestCut_le (y := y) (w := w) (h := h) (g := g); omega
    refine g_catch S hE (E := eIA) (name := "java/lang/IllegalArgumentException") (pc := 7) [] ⟨0, 12, 15, 13⟩ [] htab (fun z hz => nomatch hz) rfl (by decide) (List.mem_cons_of_mem _ (List.mem_append_left _ (List.mem_append_left _ (List.mem_append_left _ (List.mem_append_left _ (List.mem_append_left _ (List.mem_append_left _ (List.mem_of_getElem? (i := 0) rfl)))))))) (by decide) hce hcv hcl ?_
    show W _ _ _ _ _ _ _ _ _ _ _ _ _ _ _ (F0 m 15 ls [.ref q9])
    refine lv_astore (lv' := [(5, .ref q9), (0, .ref hy), (1, .int w), (2, .int h), (3, .int g), (4, .ref ho)]) hx hb dL_bestCut_15 hl (by decide) rfl (fun ls hl => ?_)
    refine lv_iconst (v := nI 1) hx hb dL_bestCut_17 (by decide) ?_
    exact g_iret S hI hr hlocks (by omega) (by omega) dL_bestCut_18 (lThrow hk (by decide) hY1 ha1 hout)
  obtain ⟨ho0, rfl, hY1, ha1⟩ := hp
  have hout1 : Gc_7 (20, 0, 0) = some (ho, .inl (K.2.1 1, 1, .inr (.inl f0))) := (ha1 _ (by decide)).trans hout
  refine W.eq (g2 := F0 m 10 ls [.int ((oBest y w h g).2.1), .int (nI 0), .ref ho]) rfl ?_
  refine lv_i2l hx hb dL_bestCut_10 rfl ?_
  refine g_last S hE hI (j := 0) (f := f0) hout1 rfl (by omega) (Nat.le_of_ble_eq_true rfl) dL_bestCut_11 (fun H locs hI => ?_)
  have hI : gI K A s (gset Gc_7 (20, 0, 0) ho (.inl (K.2.1 1, 1, .inr (.inl (vp_updL f0 0 (((oBest y w h g).2.1).toInt64)))))) H locs := hI
  obtain ⟨G_1, hG_1⟩ : ∃ z, z = gset Gc_7 (20, 0, 0) ho (.inl (K.2.1 1, 1, .inr (.inl (vp_updL f0 0 (((oBest y w h g).2.1).toInt64))))) := ⟨_, rfl⟩
  rw [← hG_1] at hI
  have out_G_1 : G_1 (20, 0, 0) = some (ho, .inl (K.2.1 1, 1, .inr (.inl (vp_updL f0 0 (((oBest y w h g).2.1).toInt64))))) := by rw [hG_1]; exact gset_eq _ _ _ _
  refine lv_goto (tgt := 19) hx hb dL_bestCut_12 (by decide) ?_
  refine lv_iconst (v := nI 0) hx hb dL_bestCut_19 (by decide) ?_
  exact g_iret S hI hr hlocks (by omega) (by omega) dL_bestCut_20 (lOk ho0 hY1 ha1 hG_1)
theorem h_column_le {y : YV} (w : Int32) (h : Int32) (g : Int32) (x : Int32) : (oColumn y w h g x).1 ≤ 2 := by
  unfold oColumn
  repeat' split
  all_goals exact Nat.le_of_ble_eq_true rfl
set_option maxHeartbeats 4000000 in
set_option maxRecDepth 100000 in
/-- the law's call of column -/
theorem h_column (l : Launch) (K : gK) (G : gW) (L1 L2 : Nat → Nat → Nat) (M : Nat → Nat) (hy ho : Nat) (f0 : Nat → Int64) (y : YV) (w : Int32) (h : Int32) (g : Int32) (x : Int32) (hlS : l.stackTraces = false) (hy0 : YardC K L1 L2 M hy G y) (hout : G (20, 0, 0) = some (ho, .inl (K.2.1 1, 1, .inr (.inl f0)))) : gM l yL_column wsL_column 8 168 1 6 K [.ref hy, .int w, .int h, .int g, .int x, .ref ho] G (lPost K L1 L2 M hy ho G (oColumn y w h g x)) (gNo) := by
  refine gM.ofH (hh := [(0, 14, 17, 20), (0, 14, 21, 13)]) (cc := cL_column) (maxL := 7) (ret := (some .int)) (by decide) rfl (Nat.le_of_ble_eq_true rfl) ?_
  intro p e s m below meth c A S hr hlocks htab hname hE hA hI ls hl
  have hx := S.1
  have hb := S.2.1
  have hml := S.2.2.1
  have hl : lv_has ls 7 [(0, .ref hy), (1, .int w), (2, .int h), (3, .int g), (4, .int x), (5, .ref ho)] := hl
  obtain ⟨H, hHe⟩ : ∃ z, z = s.heap := ⟨_, rfl⟩
  obtain ⟨locs, hLe⟩ : ∃ z : List Loc, z = [] := ⟨_, rfl⟩
  rw [← hHe, ← hLe]
  have hI : gI K A s G H locs := by rw [hHe, hLe]; exact hI
  clear hHe hLe
  refine lv_aload hx hb dL_column_0 (lv_at hl 5 rfl) ?_
  refine lv_iconst (v := nI 0) hx hb dL_column_2 (by decide) ?_
  refine lv_aload_n hx hb dL_column_3 rfl (lv_at hl 0 rfl) ?_
  refine lv_iload_n hx hb dL_column_4 rfl (lv_at hl 1 rfl) ?_
  refine lv_iload_n hx hb dL_column_5 rfl (lv_at hl 2 rfl) ?_
  refine lv_iload_n hx hb dL_column_6 rfl (lv_at hl 3 rfl) ?_
  refine lv_iload hx hb dL_column_7 (lv_at hl 4 rfl) ?_
  refine g_callV (As := [.int w, .int h, .int g, .int x]) (rest := [.int (nI 0), .ref ho]) (b := hy) (n := 4) S hE hI hA (o_column l K _ L1 L2 M hy y w h g x hlS hy0) gL_column_X4_column rfl (by decide +kernel) ⟨Nat.le_of_ble_eq_true rfl, Nat.le_of_ble_eq_true rfl⟩ (g_hro hE hI hy0.1 rfl) rfl hl.1 rfl (Nat.le_of_ble_eq_true rfl) dL_column_9 ⟨by show _ ≤ 1; omega, by show _ ≤ 6; omega⟩ (fun E ce q9 Gx H locs hx9 hI hce hcv hcl => ?_) (fun rv Gc_9 H locs hp hI => ?_)
  · skip
    obtain ⟨hne, rfl, hY1, ha1⟩ := hx9
    rcases lTwo hne (h_column_le (y := y) (w := w) (h := h) (g := g) (x := x)) with hk | hk
    · skip
      rw [hk] at hcl
      refine g_catch S hE (E := eIO) (name := "java/lang/IndexOutOfBoundsException") (pc := 9) [] ⟨0, 14, 17, 20⟩ [⟨0, 14, 21, 13⟩] htab (fun z hz => nomatch hz) rfl (by decide) (List.mem_cons_of_mem _ (List.mem_append_left _ (List.mem_append_left _ (List.mem_append_left _ (List.mem_append_left _ (List.mem_append_left _ (List.mem_append_left _ (List.mem_append_left _ (List.mem_of_getElem? (i := 0) rfl))))))))) (by decide) hce hcv hcl ?_
      show W _ _ _ _ _ _ _ _ _ _ _ _ _ _ _ (F0 m 17 ls [.ref q9])
      refine lv_astore (lv' := [(6, .ref q9), (0, .ref hy), (1, .int w), (2, .int h), (3, .int g), (4, .int x), (5, .ref ho)]) hx hb dL_column_17 hl (by decide) rfl (fun ls hl => ?_)
      refine lv_iconst (v := nI 1) hx hb dL_column_19 (by decide) ?_
      exact g_iret S hI hr hlocks (by omega) (by omega) dL_column_20 (lThrow hk (by decide) hY1 ha1 hout)
    · skip
      rw [hk] at hcl
      refine g_catch S hE (E := eIA) (name := "java/lang/IllegalArgumentException") (pc := 9) [⟨0, 14, 17, 20⟩] ⟨0, 14, 21, 13⟩ [] htab (fun z hz => by rcases List.mem_singleton.mp hz with rfl; exact Or.inr ⟨by decide, "java/lang/IndexOutOfBoundsException", (List.mem_cons_of_mem _ (List.mem_append_left _ (List.mem_append_left _ (List.mem_append_left _ (List.mem_append_left _ (List.mem_append_left _ (List.mem_append_left _ (List.mem_append_left _ (List.mem_of_getElem? (i := 0) rfl))))))))), by decide⟩) rfl (by decide) (List.mem_cons_of_mem _ (List.mem_append_left _ (List.mem_append_left _ (List.mem_append_left _ (List.mem_append_left _ (List.mem_append_left _ (List.mem_append_left _ (List.mem_append_left _ (List.mem_of_getElem? (i := 1) rfl))))))))) (by decide) hce hcv hcl ?_
      show W _ _ _ _ _ _ _ _ _ _ _ _ _ _ _ (F0 m 21 ls [.ref q9])
      refine lv_astore (lv' := [(6, .ref q9), (0, .ref hy), (1, .int w), (2, .int h), (3, .int g), (4, .int x), (5, .ref ho)]) hx hb dL_column_21 hl (by decide) rfl (fun ls hl => ?_)
      refine lv_iconst (v := nI 2) hx hb dL_column_23 (by decide) ?_
      exact g_iret S hI hr hlocks (by omega) (by omega) dL_column_24 (lThrow hk (by decide) hY1 ha1 hout)
  obtain ⟨ho0, rfl, hY1, ha1⟩ := hp
  have hout1 : Gc_9 (20, 0, 0) = some (ho, .inl (K.2.1 1, 1, .inr (.inl f0))) := (ha1 _ (by decide)).trans hout
  refine W.eq (g2 := F0 m 12 ls [.int ((oColumn y w h g x).2.1), .int (nI 0), .ref ho]) rfl ?_
  refine lv_i2l hx hb dL_column_12 rfl ?_
  refine g_last S hE hI (j := 0) (f := f0) hout1 rfl (by omega) (Nat.le_of_ble_eq_true rfl) dL_column_13 (fun H locs hI => ?_)
  have hI : gI K A s (gset Gc_9 (20, 0, 0) ho (.inl (K.2.1 1, 1, .inr (.inl (vp_updL f0 0 (((oColumn y w h g x).2.1).toInt64)))))) H locs := hI
  obtain ⟨G_1, hG_1⟩ : ∃ z, z = gset Gc_9 (20, 0, 0) ho (.inl (K.2.1 1, 1, .inr (.inl (vp_updL f0 0 (((oColumn y w h g x).2.1).toInt64))))) := ⟨_, rfl⟩
  rw [← hG_1] at hI
  have out_G_1 : G_1 (20, 0, 0) = some (ho, .inl (K.2.1 1, 1, .inr (.inl (vp_updL f0 0 (((oColumn y w h g x).2.1).toInt64))))) := by rw [hG_1]; exact gset_eq _ _ _ _
  refine lv_goto (tgt := 25) hx hb dL_column_14 (by decide) ?_
  refine lv_iconst (v := nI 0) hx hb dL_column_25 (by decide) ?_
  exact g_iret S hI hr hlocks (by omega) (by omega) dL_column_26 (lOk ho0 hY1 ha1 hG_1)
theorem h_worthMore_le {y : YV} (x : Int32) (q : Int32) : (oMore y x q).1 ≤ 2 := by
  unfold oMore
  repeat' split
  all_goals exact Nat.le_of_ble_eq_true rfl
set_option maxHeartbeats 4000000 in
set_option maxRecDepth 100000 in
/-- the law's call of worthMore -/
theorem h_worthMore (l : Launch) (K : gK) (G : gW) (L1 L2 : Nat → Nat → Nat) (M : Nat → Nat) (hy ho : Nat) (f0 : Nat → Int64) (y : YV) (x : Int32) (q : Int32) (hlS : l.stackTraces = false) (hy0 : YardC K L1 L2 M hy G y) (hout : G (20, 0, 0) = some (ho, .inl (K.2.1 1, 1, .inr (.inl f0)))) : gM l yL_worthMore wsL_worthMore 8 191 1 6 K [.ref hy, .int x, .int q, .ref ho] G (lPost K L1 L2 M hy ho G (oMore y x q)) (gNo) := by
  refine gM.ofH (hh := [(0, 10, 13, 20), (0, 10, 17, 13)]) (cc := cL_worthMore) (maxL := 5) (ret := (some .int)) (by decide) rfl (Nat.le_of_ble_eq_true rfl) ?_
  intro p e s m below meth c A S hr hlocks htab hname hE hA hI ls hl
  have hx := S.1
  have hb := S.2.1
  have hml := S.2.2.1
  have hl : lv_has ls 5 [(0, .ref hy), (1, .int x), (2, .int q), (3, .ref ho)] := hl
  obtain ⟨H, hHe⟩ : ∃ z, z = s.heap := ⟨_, rfl⟩
  obtain ⟨locs, hLe⟩ : ∃ z : List Loc, z = [] := ⟨_, rfl⟩
  rw [← hHe, ← hLe]
  have hI : gI K A s G H locs := by rw [hHe, hLe]; exact hI
  clear hHe hLe
  refine lv_aload_n hx hb dL_worthMore_0 rfl (lv_at hl 3 rfl) ?_
  refine lv_iconst (v := nI 0) hx hb dL_worthMore_1 (by decide) ?_
  refine lv_aload_n hx hb dL_worthMore_2 rfl (lv_at hl 0 rfl) ?_
  refine lv_iload_n hx hb dL_worthMore_3 rfl (lv_at hl 1 rfl) ?_
  refine lv_iload_n hx hb dL_worthMore_4 rfl (lv_at hl 2 rfl) ?_
  refine g_callV (As := [.int x, .int q]) (rest := [.int (nI 0), .ref ho]) (b := hy) (n := 2) S hE hI hA (o_more l K _ L1 L2 M hy y x q hlS hy0) gL_worthMore_X4_worthMore rfl (by decide +kernel) ⟨Nat.le_of_ble_eq_true rfl, Nat.le_of_ble_eq_true rfl⟩ (g_hro hE hI hy0.1 rfl) rfl hl.1 rfl (Nat.le_of_ble_eq_true rfl) dL_worthMore_5 ⟨by show _ ≤ 1; omega, by show _ ≤ 6; omega⟩ (fun E ce q9 Gx H locs hx9 hI hce hcv hcl => ?_) (fun rv Gc_5 H locs hp hI => ?_)
  · skip
    obtain ⟨hne, rfl, hY1, ha1⟩ := hx9
    rcases lTwo hne (h_worthMore_le (y := y) (x := x) (q := q)) with hk | hk
    · skip
      rw [hk] at hcl
      refine g_catch S hE (E := eIO) (name := "java/lang/IndexOutOfBoundsException") (pc := 5) [] ⟨0, 10, 13, 20⟩ [⟨0, 10, 17, 13⟩] htab (fun z hz => nomatch hz) rfl (by decide) (List.mem_cons_of_mem _ (List.mem_append_left _ (List.mem_append_left _ (List.mem_append_left _ (List.mem_append_left _ (List.mem_append_left _ (List.mem_append_left _ (List.mem_append_left _ (List.mem_append_left _ (List.mem_of_getElem? (i := 0) rfl)))))))))) (by decide) hce hcv hcl ?_
      show W _ _ _ _ _ _ _ _ _ _ _ _ _ _ _ (F0 m 13 ls [.ref q9])
      refine lv_astore (lv' := [(4, .ref q9), (0, .ref hy), (1, .int x), (2, .int q), (3, .ref ho)]) hx hb dL_worthMore_13 hl (by decide) rfl (fun ls hl => ?_)
      refine lv_iconst (v := nI 1) hx hb dL_worthMore_15 (by decide) ?_
      exact g_iret S hI hr hlocks (by omega) (by omega) dL_worthMore_16 (lThrow hk (by decide) hY1 ha1 hout)
    · skip
      rw [hk] at hcl
      refine g_catch S hE (E := eIA) (name := "java/lang/IllegalArgumentException") (pc := 5) [⟨0, 10, 13, 20⟩] ⟨0, 10, 17, 13⟩ [] htab (fun z hz => by rcases List.mem_singleton.mp hz with rfl; exact Or.inr ⟨by decide, "java/lang/IndexOutOfBoundsException", (List.mem_cons_of_mem _ (List.mem_append_left _ (List.mem_append_left _ (List.mem_append_left _ (List.mem_append_left _ (List.mem_append_left _ (List.mem_append_left _ (List.mem_append_left _ (List.mem_append_left _ (List.mem_of_getElem? (i := 0) rfl)))))))))), by decide⟩) rfl (by decide) (List.mem_cons_of_mem _ (List.mem_append_left _ (List.mem_append_left _ (List.mem_append_left _ (List.mem_append_left _ (List.mem_append_left _ (List.mem_append_left _ (List.mem_append_left _ (List.mem_append_left _ (List.mem_of_getElem? (i := 1) rfl)))))))))) (by decide) hce hcv hcl ?_
      show W _ _ _ _ _ _ _ _ _ _ _ _ _ _ _ (F0 m 17 ls [.ref q9])
      refine lv_astore (lv' := [(4, .ref q9), (0, .ref hy), (1, .int x), (2, .int q), (3, .ref ho)]) hx hb dL_worthMore_17 hl (by decide) rfl (fun ls hl => ?_)
      refine lv_iconst (v := nI 2) hx hb dL_worthMore_19 (by decide) ?_
      exact g_iret S hI hr hlocks (by omega) (by omega) dL_worthMore_20 (lThrow hk (by decide) hY1 ha1 hout)
  obtain ⟨ho0, rfl, hY1, ha1⟩ := hp
  have hout1 : Gc_5 (20, 0, 0) = some (ho, .inl (K.2.1 1, 1, .inr (.inl f0))) := (ha1 _ (by decide)).trans hout
  refine W.eq (g2 := F0 m 8 ls [.int ((oMore y x q).2.1), .int (nI 0), .ref ho]) rfl ?_
  refine lv_i2l hx hb dL_worthMore_8 rfl ?_
  refine g_last S hE hI (j := 0) (f := f0) hout1 rfl (by omega) (Nat.le_of_ble_eq_true rfl) dL_worthMore_9 (fun H locs hI => ?_)
  have hI : gI K A s (gset Gc_5 (20, 0, 0) ho (.inl (K.2.1 1, 1, .inr (.inl (vp_updL f0 0 (((oMore y x q).2.1).toInt64)))))) H locs := hI
  obtain ⟨G_1, hG_1⟩ : ∃ z, z = gset Gc_5 (20, 0, 0) ho (.inl (K.2.1 1, 1, .inr (.inl (vp_updL f0 0 (((oMore y x q).2.1).toInt64))))) := ⟨_, rfl⟩
  rw [← hG_1] at hI
  have out_G_1 : G_1 (20, 0, 0) = some (ho, .inl (K.2.1 1, 1, .inr (.inl (vp_updL f0 0 (((oMore y x q).2.1).toInt64))))) := by rw [hG_1]; exact gset_eq _ _ _ _
  refine lv_goto (tgt := 21) hx hb dL_worthMore_10 (by decide) ?_
  refine lv_iconst (v := nI 0) hx hb dL_worthMore_21 (by decide) ?_
  exact g_iret S hI hr hlocks (by omega) (by omega) dL_worthMore_22 (lOk ho0 hY1 ha1 hG_1)
theorem h_wasteBy_le {y : YV} (x : Int32) (k : Int32) : (oWasteBy y x k).1 ≤ 1 := by
  unfold oWasteBy
  repeat' split
  all_goals exact Nat.le_of_ble_eq_true rfl
set_option maxHeartbeats 4000000 in
set_option maxRecDepth 100000 in
/-- the law's call of wasteBy -/
theorem h_wasteBy (l : Launch) (K : gK) (G : gW) (L1 L2 : Nat → Nat → Nat) (M : Nat → Nat) (hy ho : Nat) (f0 : Nat → Int64) (y : YV) (x : Int32) (k : Int32) (hlS : l.stackTraces = false) (hy0 : YardC K L1 L2 M hy G y) (hout : G (20, 0, 0) = some (ho, .inl (K.2.1 1, 1, .inr (.inl f0)))) : gM l yL_wasteBy wsL_wasteBy 8 167 1 6 K [.ref hy, .int x, .int k, .ref ho] G (lPost K L1 L2 M hy ho G (oWasteBy y x k)) (gNo) := by
  refine gM.ofH (hh := [(0, 10, 13, 20)]) (cc := cL_wasteBy) (maxL := 5) (ret := (some .int)) (by decide) rfl (Nat.le_of_ble_eq_true rfl) ?_
  intro p e s m below meth c A S hr hlocks htab hname hE hA hI ls hl
  have hx := S.1
  have hb := S.2.1
  have hml := S.2.2.1
  have hl : lv_has ls 5 [(0, .ref hy), (1, .int x), (2, .int k), (3, .ref ho)] := hl
  obtain ⟨H, hHe⟩ : ∃ z, z = s.heap := ⟨_, rfl⟩
  obtain ⟨locs, hLe⟩ : ∃ z : List Loc, z = [] := ⟨_, rfl⟩
  rw [← hHe, ← hLe]
  have hI : gI K A s G H locs := by rw [hHe, hLe]; exact hI
  clear hHe hLe
  refine lv_aload_n hx hb dL_wasteBy_0 rfl (lv_at hl 3 rfl) ?_
  refine lv_iconst (v := nI 0) hx hb dL_wasteBy_1 (by decide) ?_
  refine lv_aload_n hx hb dL_wasteBy_2 rfl (lv_at hl 0 rfl) ?_
  refine lv_iload_n hx hb dL_wasteBy_3 rfl (lv_at hl 1 rfl) ?_
  refine lv_iload_n hx hb dL_wasteBy_4 rfl (lv_at hl 2 rfl) ?_
  refine g_callV (As := [.int x, .int k]) (rest := [.int (nI 0), .ref ho]) (b := hy) (n := 2) S hE hI hA (o_wasteBy l K _ L1 L2 M hy y x k hlS hy0) gL_wasteBy_X4_wasteBy rfl (by decide +kernel) ⟨Nat.le_of_ble_eq_true rfl, Nat.le_of_ble_eq_true rfl⟩ (g_hro hE hI hy0.1 rfl) rfl hl.1 rfl (Nat.le_of_ble_eq_true rfl) dL_wasteBy_5 ⟨by show _ ≤ 1; omega, by show _ ≤ 6; omega⟩ (fun E ce q9 Gx H locs hx9 hI hce hcv hcl => ?_) (fun rv Gc_5 H locs hp hI => ?_)
  · skip
    obtain ⟨hne, rfl, hY1, ha1⟩ := hx9
    have hk : (oWasteBy y x k).1 = 1 := by have h9 := h_wasteBy_le (y := y) (x := x) (k := k); omega
    refine g_catch S hE (E := eIO) (name := "java/lang/IndexOutOfBoundsException") (pc := 5) [] ⟨0, 10, 13, 20⟩ [] htab (fun z hz => nomatch hz) rfl (by decide) (List.mem_cons_of_mem _ (List.mem_append_left _ (List.mem_append_left _ (List.mem_append_left _ (List.mem_append_left _ (List.mem_append_left _ (List.mem_append_left _ (List.mem_of_getElem? (i := 0) rfl)))))))) (by decide) hce hcv hcl ?_
    show W _ _ _ _ _ _ _ _ _ _ _ _ _ _ _ (F0 m 13 ls [.ref q9])
    refine lv_astore (lv' := [(4, .ref q9), (0, .ref hy), (1, .int x), (2, .int k), (3, .ref ho)]) hx hb dL_wasteBy_13 hl (by decide) rfl (fun ls hl => ?_)
    refine lv_iconst (v := nI 1) hx hb dL_wasteBy_15 (by decide) ?_
    exact g_iret S hI hr hlocks (by omega) (by omega) dL_wasteBy_16 (lThrow hk (by decide) hY1 ha1 hout)
  obtain ⟨ho0, rfl, hY1, ha1⟩ := hp
  have hout1 : Gc_5 (20, 0, 0) = some (ho, .inl (K.2.1 1, 1, .inr (.inl f0))) := (ha1 _ (by decide)).trans hout
  refine W.eq (g2 := F0 m 8 ls [.int ((oWasteBy y x k).2.1), .int (nI 0), .ref ho]) rfl ?_
  refine lv_i2l hx hb dL_wasteBy_8 rfl ?_
  refine g_last S hE hI (j := 0) (f := f0) hout1 rfl (by omega) (Nat.le_of_ble_eq_true rfl) dL_wasteBy_9 (fun H locs hI => ?_)
  have hI : gI K A s (gset Gc_5 (20, 0, 0) ho (.inl (K.2.1 1, 1, .inr (.inl (vp_updL f0 0 (((oWasteBy y x k).2.1).toInt64)))))) H locs := hI
  obtain ⟨G_1, hG_1⟩ : ∃ z, z = gset Gc_5 (20, 0, 0) ho (.inl (K.2.1 1, 1, .inr (.inl (vp_updL f0 0 (((oWasteBy y x k).2.1).toInt64))))) := ⟨_, rfl⟩
  rw [← hG_1] at hI
  have out_G_1 : G_1 (20, 0, 0) = some (ho, .inl (K.2.1 1, 1, .inr (.inl (vp_updL f0 0 (((oWasteBy y x k).2.1).toInt64))))) := by rw [hG_1]; exact gset_eq _ _ _ _
  refine lv_goto (tgt := 17) hx hb dL_wasteBy_10 (by decide) ?_
  refine lv_iconst (v := nI 0) hx hb dL_wasteBy_17 (by decide) ?_
  exact g_iret S hI hr hlocks (by omega) (by omega) dL_wasteBy_18 (lOk ho0 hY1 ha1 hG_1)
theorem h_planPays_le {y : YV} (x : Int32) : (oPays y x).1 ≤ 1 := by
  unfold oPays
  repeat' split
  all_goals exact Nat.le_of_ble_eq_true rfl
set_option maxHeartbeats 4000000 in
set_option maxRecDepth 100000 in
/-- the law's call of planPays -/
theorem h_planPays (l : Launch) (K : gK) (G : gW) (L1 L2 : Nat → Nat → Nat) (M : Nat → Nat) (hy ho : Nat) (f0 : Nat → Int64) (y : YV) (x : Int32) (hlS : l.stackTraces = false) (hy0 : YardC K L1 L2 M hy G y) (hout : G (20, 0, 0) = some (ho, .inl (K.2.1 1, 1, .inr (.inl f0)))) : gM l yL_planPays wsL_planPays 8 190 1 6 K [.ref hy, .int x, .ref ho] G (lPost K L1 L2 M hy ho G (oPays y x)) (gNo) := by
  refine gM.ofH (hh := [(0, 9, 12, 13)]) (cc := cL_planPays) (maxL := 4) (ret := (some .int)) (by decide) rfl (Nat.le_of_ble_eq_true rfl) ?_
  intro p e s m below meth c A S hr hlocks htab hname hE hA hI ls hl
  have hx := S.1
  have hb := S.2.1
  have hml := S.2.2.1
  have hl : lv_has ls 4 [(0, .ref hy), (1, .int x), (2, .ref ho)] := hl
  obtain ⟨H, hHe⟩ : ∃ z, z = s.heap := ⟨_, rfl⟩
  obtain ⟨locs, hLe⟩ : ∃ z : List Loc, z = [] := ⟨_, rfl⟩
  rw [← hHe, ← hLe]
  have hI : gI K A s G H locs := by rw [hHe, hLe]; exact hI
  clear hHe hLe
  refine lv_aload_n hx hb dL_planPays_0 rfl (lv_at hl 2 rfl) ?_
  refine lv_iconst (v := nI 0) hx hb dL_planPays_1 (by decide) ?_
  refine lv_aload_n hx hb dL_planPays_2 rfl (lv_at hl 0 rfl) ?_
  refine lv_iload_n hx hb dL_planPays_3 rfl (lv_at hl 1 rfl) ?_
  refine g_callV (As := [.int x]) (rest := [.int (nI 0), .ref ho]) (b := hy) (n := 1) S hE hI hA (o_pays l K _ L1 L2 M hy y x hlS hy0) gL_planPays_X4_planPays rfl (by decide +kernel) ⟨Nat.le_of_ble_eq_true rfl, Nat.le_of_ble_eq_true rfl⟩ (g_hro hE hI hy0.1 rfl) rfl hl.1 rfl (Nat.le_of_ble_eq_true rfl) dL_planPays_4 ⟨by show _ ≤ 1; omega, by show _ ≤ 6; omega⟩ (fun E ce q9 Gx H locs hx9 hI hce hcv hcl => ?_) (fun rv Gc_4 H locs hp hI => ?_)
  · skip
    obtain ⟨hne, rfl, hY1, ha1⟩ := hx9
    have hk : (oPays y x).1 = 1 := by have h9 := h_planPays_le (y := y) (x := x); omega
    refine g_catch S hE (E := eIA) (name := "java/lang/IllegalArgumentException") (pc := 4) [] ⟨0, 9, 12, 13⟩ [] htab (fun z hz => nomatch hz) rfl (by decide) (List.mem_cons_of_mem _ (List.mem_append_left _ (List.mem_append_left _ (List.mem_append_left _ (List.mem_append_left _ (List.mem_append_left _ (List.mem_append_left _ (List.mem_of_getElem? (i := 0) rfl)))))))) (by decide) hce hcv hcl ?_
    show W _ _ _ _ _ _ _ _ _ _ _ _ _ _ _ (F0 m 12 ls [.ref q9])
    refine lv_astore_n (lv' := [(3, .ref q9), (0, .ref hy), (1, .int x), (2, .ref ho)]) hx hb dL_planPays_12 rfl hl (by decide) rfl (fun ls hl => ?_)
    refine lv_iconst (v := nI 1) hx hb dL_planPays_13 (by decide) ?_
    exact g_iret S hI hr hlocks (by omega) (by omega) dL_planPays_14 (lThrow hk (by decide) hY1 ha1 hout)
  obtain ⟨ho0, rfl, hY1, ha1⟩ := hp
  have hout1 : Gc_4 (20, 0, 0) = some (ho, .inl (K.2.1 1, 1, .inr (.inl f0))) := (ha1 _ (by decide)).trans hout
  refine W.eq (g2 := F0 m 7 ls [.int ((oPays y x).2.1), .int (nI 0), .ref ho]) rfl ?_
  refine lv_i2l hx hb dL_planPays_7 rfl ?_
  refine g_last S hE hI (j := 0) (f := f0) hout1 rfl (by omega) (Nat.le_of_ble_eq_true rfl) dL_planPays_8 (fun H locs hI => ?_)
  have hI : gI K A s (gset Gc_4 (20, 0, 0) ho (.inl (K.2.1 1, 1, .inr (.inl (vp_updL f0 0 (((oPays y x).2.1).toInt64)))))) H locs := hI
  obtain ⟨G_1, hG_1⟩ : ∃ z, z = gset Gc_4 (20, 0, 0) ho (.inl (K.2.1 1, 1, .inr (.inl (vp_updL f0 0 (((oPays y x).2.1).toInt64))))) := ⟨_, rfl⟩
  rw [← hG_1] at hI
  have out_G_1 : G_1 (20, 0, 0) = some (ho, .inl (K.2.1 1, 1, .inr (.inl (vp_updL f0 0 (((oPays y x).2.1).toInt64))))) := by rw [hG_1]; exact gset_eq _ _ _ _
  refine lv_goto (tgt := 15) hx hb dL_planPays_9 (by decide) ?_
  refine lv_iconst (v := nI 0) hx hb dL_planPays_15 (by decide) ?_
  exact g_iret S hI hr hlocks (by omega) (by omega) dL_planPays_16 (lOk ho0 hY1 ha1 hG_1)
