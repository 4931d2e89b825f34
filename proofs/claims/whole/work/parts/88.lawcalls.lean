/-! the law's calls, each of both sides -/
section GK
variable {p : Program} {l : Launch} {e : Env} {s : State} {m : MethodId} {below : List Frame} {meth : Method} {c : Code} {H : Heap} {locs : List Loc} {cells slots : Nat} {Q : State → Prop}
variable {b Ln : Nat} {xs : Nat → Int32} {ls : Array Slot} {K : gK} {A : Nat → Prop} {G : gW} {L1 L2 : Nat → Nat → Nat} {M : Nat → Nat} {hy ho h0 i : Nat} {y : YV}
set_option maxHeartbeats 4000000 in
set_option maxRecDepth 100000 in
theorem k_slab (S : CallFix p m c cL_law 9 s #[Value.ref b] wsL_law RL) (hE : gE K A s s.heap) (hA : ∀ q, s.heap.size ≤ q → A q) (hX : va_X b Ln xs s s.heap) (hbl : b < s.heap.size) (hbA : ¬ A b) (hlS : l.stackTraces = false) (hLn : Ln ≤ 2560) (hI : gI K A s G H locs) (hLI : LI K L1 L2 M hy ho h0 G y) (hi : i + 5 ≤ Ln) (hl : lv_has ls 9 [(4, .int (nI i)), (3, .ref ho), (2, .ref h0), (1, .ref hy), (0, .ref b)]) (hcs : cells + 1040 ≤ 601024 ∧ slots + 12000 ≤ 7293034)
    (kk : ∀ (G1 : gW) (y1 : YV) (H1 : Heap) (locs1 : List Loc) (ls1 : Array Slot), gI K A s G1 H1 locs1 → LI K L1 L2 M hy ho h0 G1 y1 → lv_has ls1 9 [(4, .int (nI i)), (3, .ref ho), (2, .ref h0), (1, .ref hy), (0, .ref b)] → W p l e room_1 s m #[Value.ref b] below meth c H1 locs1 (cells + 1040) (slots + 12000) Q (F0 m 1763 ls1 [])) : W p l e room_1 s m #[Value.ref b] below meth c H locs cells slots Q (F0 m 148 ls []) := by
  have hx := S.1
  have hb := S.2.1
  have hml := S.2.2.1
  obtain ⟨hy0, ⟨L, N, th, hM⟩, hfr, f0, hout⟩ := hLI
  refine lv_aload_n hx hb dL_law_148 rfl (lv_at hl 3 rfl) ?_
  refine lv_aload_n hx hb dL_law_149 rfl (lv_at hl 4 rfl) ?_
  refine lv_iload hx hb dL_law_150 (lv_at hl 0 rfl) ?_
  refine lv_iconst (v := nI 1) hx hb dL_law_152 (by decide) ?_
  refine t_iadd hx hb dL_law_153 (nI_add _ _) ?_
  refine g_sld S hI hX hbl hbA (j := i + 1) (by omega) (by omega) dL_law_154 ?_
  refine lv_aload_n hx hb dL_law_155 rfl (lv_at hl 4 rfl) ?_
  refine lv_iload hx hb dL_law_156 (lv_at hl 0 rfl) ?_
  refine lv_iconst (v := nI 2) hx hb dL_law_158 (by decide) ?_
  refine t_iadd hx hb dL_law_159 (nI_add _ _) ?_
  refine g_sld S hI hX hbl hbA (j := i + 2) (by omega) (by omega) dL_law_160 ?_
  refine lv_aload_n hx hb dL_law_161 rfl (lv_at hl 4 rfl) ?_
  refine lv_iload hx hb dL_law_162 (lv_at hl 0 rfl) ?_
  refine lv_iconst (v := nI 3) hx hb dL_law_164 (by decide) ?_
  refine t_iadd hx hb dL_law_165 (nI_add _ _) ?_
  refine g_sld S hI hX hbl hbA (j := i + 3) (by omega) (by omega) dL_law_166 ?_
  refine lv_aload_n hx hb dL_law_167 rfl (lv_at hl 1 rfl) ?_
  refine g_callSX (As := [.ref hy, .int (xs (i + 1)), .int (xs (i + 2)), .int (xs (i + 3)), .ref ho]) (rest := []) (n := 5) S hE hI hA (h_slab l K _ L1 L2 M hy ho f0 y (xs (i + 1)) (xs (i + 2)) (xs (i + 3)) hlS hy0 hout) gL_law_L_slab rfl (by decide +kernel) ⟨Nat.le_of_ble_eq_true rfl, Nat.le_of_ble_eq_true rfl⟩ rfl hl.1 rfl (Nat.le_of_ble_eq_true rfl) dL_law_168 ⟨by show _ ≤ 601024; omega, by show _ ≤ 7293034; omega⟩ (fun E ce q9 Gx H1 locs1 hx9 => hx9.elim) (fun rv Gc_168 H locs hp hI => ?_)
  obtain ⟨rfl, hY1, ⟨f1, hout1, hv1⟩, ha1⟩ := hp
  have hM1 : MdC K L h0 th Gc_168 y N := hM.moved (fun t ht => ha1 t (by omega) (by omega))
  have hle := h_slab_le (y := y) (w := (xs (i + 1))) (h := (xs (i + 2))) (g := (xs (i + 3)))
  refine W.eq (g2 := F0 m 171 ls [.int (nI ((oSlab y (xs (i + 1)) (xs (i + 2)) (xs (i + 3))).1))]) rfl ?_
  refine lv_istore (lv' := [(5, .int (nI ((oSlab y (xs (i + 1)) (xs (i + 2)) (xs (i + 3))).1))), (4, .int (nI i)), (3, .ref ho), (2, .ref h0), (1, .ref hy), (0, .ref b)]) hx hb dL_law_171 hl (by decide) rfl (fun ls hl => ?_)
  refine lv_aload_n hx hb dL_law_173 rfl (lv_at hl 3 rfl) ?_
  refine lv_aload_n hx hb dL_law_174 rfl (lv_at hl 5 rfl) ?_
  refine lv_iload hx hb dL_law_175 (lv_at hl 1 rfl) ?_
  refine lv_iconst (v := nI 1) hx hb dL_law_177 (by decide) ?_
  refine t_iadd hx hb dL_law_178 (nI_add _ _) ?_
  refine g_sld S hI hX hbl hbA (j := i + 1) (by omega) (by omega) dL_law_179 ?_
  refine lv_aload_n hx hb dL_law_180 rfl (lv_at hl 5 rfl) ?_
  refine lv_iload hx hb dL_law_181 (lv_at hl 1 rfl) ?_
  refine lv_iconst (v := nI 2) hx hb dL_law_183 (by decide) ?_
  refine t_iadd hx hb dL_law_184 (nI_add _ _) ?_
  refine g_sld S hI hX hbl hbA (j := i + 2) (by omega) (by omega) dL_law_185 ?_
  refine lv_aload_n hx hb dL_law_186 rfl (lv_at hl 5 rfl) ?_
  refine lv_iload hx hb dL_law_187 (lv_at hl 1 rfl) ?_
  refine lv_iconst (v := nI 3) hx hb dL_law_189 (by decide) ?_
  refine t_iadd hx hb dL_law_190 (nI_add _ _) ?_
  refine g_sld S hI hX hbl hbA (j := i + 3) (by omega) (by omega) dL_law_191 ?_
  refine g_callV (As := [.int (xs (i + 1)), .int (xs (i + 2)), .int (xs (i + 3))]) (rest := []) (b := h0) (n := 3) S hE hI hA (p_slab l K _ L h0 th y N (xs (i + 1)) (xs (i + 2)) (xs (i + 3)) hM1) gL_law_X8_slab rfl (by decide +kernel) ⟨Nat.le_of_ble_eq_true rfl, Nat.le_of_ble_eq_true rfl⟩ (g_hro hE hI hM1.1 rfl) rfl hl.1 rfl (Nat.le_of_ble_eq_true rfl) dL_law_192 ⟨by show _ ≤ 601024; omega, by show _ ≤ 7293034; omega⟩ (fun E ce q9 Gx H1 locs1 hx9 => hx9.elim) (fun rv Gc_192 H locs hp hI => ?_)
  obtain ⟨L9, N9, x9, rfl, hx9v, hM2, ha2⟩ := hp
  have hY2 := hY1.moved (fun t ht => ha2 t (Or.inl ht))
  have hout2 : Gc_192 (20, 0, 0) = some (ho, .inl (K.2.1 1, 1, .inr (.inl f1))) := (ha2 _ (by decide)).trans hout1
  refine W.eq (g2 := F0 m 195 ls [.int x9]) rfl ?_
  refine lv_istore (lv' := [(6, .int x9), (5, .int (nI ((oSlab y (xs (i + 1)) (xs (i + 2)) (xs (i + 3))).1))), (4, .int (nI i)), (3, .ref ho), (2, .ref h0), (1, .ref hy), (0, .ref b)]) hx hb dL_law_195 hl (by decide) rfl (fun ls hl => ?_)
  refine lv_aload_n hx hb dL_law_197 rfl (lv_at hl 4 rfl) ?_
  refine g_callV (As := []) (rest := []) (b := h0) (n := 0) S hE hI hA (c_X8_thrown l K _ h0 (oSlab y (xs (i + 1)) (xs (i + 2)) (xs (i + 3))).1 (L9 30 0) hM2.1 hM2.2.2.1) gL_law_X8_thrown rfl (by decide +kernel) ⟨Nat.le_of_ble_eq_true rfl, Nat.le_of_ble_eq_true rfl⟩ (g_hro hE hI hM2.1 rfl) rfl hl.1 rfl (Nat.le_of_ble_eq_true rfl) dL_law_198 ⟨by show _ ≤ 601024; omega, by show _ ≤ 7293034; omega⟩ (fun E ce q9 Gx H1 locs1 hx9 => hx9.elim) (fun rv Gc_198 H locs hp hI => ?_)
  obtain ⟨rfl, hq9⟩ := hp
  rw [hq9] at hI
  refine W.eq (g2 := F0 m 201 ls [.int (nI ((oSlab y (xs (i + 1)) (xs (i + 2)) (xs (i + 3))).1))]) rfl ?_
  refine lv_iload hx hb dL_law_201 (lv_at hl 1 rfl) ?_
  refine lv_icmp_eq (tgt := 208) hx hb dL_law_203 (by decide) (fun c_203 => ?_) (fun c_203 => ?_)
  · skip
    have c_203 : ((oSlab y (xs (i + 1)) (xs (i + 2)) (xs (i + 3))).1) = ((oSlab y (xs (i + 1)) (xs (i + 2)) (xs (i + 3))).1) := (nI_eq (a := ((oSlab y (xs (i + 1)) (xs (i + 2)) (xs (i + 3))).1)) (b := ((oSlab y (xs (i + 1)) (xs (i + 2)) (xs (i + 3))).1)) (by omega) (by omega)).mp c_203
    refine lv_iload hx hb dL_law_208 (lv_at hl 1 rfl) ?_
    refine lv_if_ne (tgt := 225) hx hb dL_law_210 (by decide) (fun c_210 => ?_) (fun c_210 => ?_)
    · skip
      have c_210 : ((oSlab y (xs (i + 1)) (xs (i + 2)) (xs (i + 3))).1) ≠ 0 := fun z => c_210 ((nI_eq (a := ((oSlab y (xs (i + 1)) (xs (i + 2)) (xs (i + 3))).1)) (b := 0) (by omega) (by omega)).mpr z)
      refine lv_goto (tgt := 1763) hx hb dL_law_225 (by decide) ?_
      exact W.widen (by omega) (by omega) (kk _ _ _ _ _ hI ⟨hY2, ⟨L9, N9, _, hM2⟩, fr_slab hfr (xs (i + 1)) (xs (i + 2)) (xs (i + 3)), f1, hout2⟩ (lv_sub hl [2,3,4,5,6] rfl))
    · skip
      have c_210 : ((oSlab y (xs (i + 1)) (xs (i + 2)) (xs (i + 3))).1) = 0 := (nI_eq (a := ((oSlab y (xs (i + 1)) (xs (i + 2)) (xs (i + 3))).1)) (b := 0) (by omega) (by omega)).mp c_210
      refine lv_aload_n hx hb dL_law_213 rfl (lv_at hl 3 rfl) ?_
      refine lv_iconst (v := nI 0) hx hb dL_law_214 (by decide) ?_
      refine g_lald S hE hI (j := 0) (f := f1) hout2 rfl (by omega) (by decide) dL_law_215 ?_
      refine lv_iload hx hb dL_law_216 (lv_at hl 0 rfl) ?_
      refine lv_i2l hx hb dL_law_218 rfl ?_
      refine g_lcmpE hx hb ((hv1 c_210).trans (by rw [hx9v c_210])) dL_law_219 ?_
      refine lv_if_eq (tgt := 225) hx hb dL_law_220 (by decide) (fun c_220 => ?_) (fun c_220 => ?_)
      · skip
        have c_220 : 0 = 0 := (nI_eq (a := 0) (b := 0) (by omega) (by omega)).mp c_220
        refine lv_goto (tgt := 1763) hx hb dL_law_225 (by decide) ?_
        exact W.widen (by omega) (by omega) (kk _ _ _ _ _ hI ⟨hY2, ⟨L9, N9, _, hM2⟩, fr_slab hfr (xs (i + 1)) (xs (i + 2)) (xs (i + 3)), f1, hout2⟩ (lv_sub hl [2,3,4,5,6] rfl))
      · skip
        have c_220 : 0 ≠ 0 := fun z => c_220 ((nI_eq (a := 0) (b := 0) (by omega) (by omega)).mpr z)
        exact absurd rfl c_220
  · skip
    have c_203 : ((oSlab y (xs (i + 1)) (xs (i + 2)) (xs (i + 3))).1) ≠ ((oSlab y (xs (i + 1)) (xs (i + 2)) (xs (i + 3))).1) := fun z => c_203 ((nI_eq (a := ((oSlab y (xs (i + 1)) (xs (i + 2)) (xs (i + 3))).1)) (b := ((oSlab y (xs (i + 1)) (xs (i + 2)) (xs (i + 3))).1)) (by omega) (by omega)).mpr z)
    exact absurd rfl c_203
set_option maxHeartbeats 4000000 in
set_option maxRecDepth 100000 in
theorem k_flaw (S : CallFix p m c cL_law 9 s #[Value.ref b] wsL_law RL) (hE : gE K A s s.heap) (hA : ∀ q, s.heap.size ≤ q → A q) (hX : va_X b Ln xs s s.heap) (hbl : b < s.heap.size) (hbA : ¬ A b) (hlS : l.stackTraces = false) (hLn : Ln ≤ 2560) (hI : gI K A s G H locs) (hLI : LI K L1 L2 M hy ho h0 G y) (hi : i + 5 ≤ Ln) (hl : lv_has ls 9 [(4, .int (nI i)), (3, .ref ho), (2, .ref h0), (1, .ref hy), (0, .ref b)]) (hcs : cells + 1040 ≤ 601024 ∧ slots + 12000 ≤ 7293034)
    (kk : ∀ (G1 : gW) (y1 : YV) (H1 : Heap) (locs1 : List Loc) (ls1 : Array Slot), gI K A s G1 H1 locs1 → LI K L1 L2 M hy ho h0 G1 y1 → lv_has ls1 9 [(4, .int (nI i)), (3, .ref ho), (2, .ref h0), (1, .ref hy), (0, .ref b)] → W p l e room_1 s m #[Value.ref b] below meth c H1 locs1 (cells + 1040) (slots + 12000) Q (F0 m 1763 ls1 [])) : W p l e room_1 s m #[Value.ref b] below meth c H locs cells slots Q (F0 m 228 ls []) := by
  have hx := S.1
  have hb := S.2.1
  have hml := S.2.2.1
  obtain ⟨hy0, ⟨L, N, th, hM⟩, hfr, f0, hout⟩ := hLI
  refine lv_aload_n hx hb dL_law_228 rfl (lv_at hl 3 rfl) ?_
  refine lv_aload_n hx hb dL_law_229 rfl (lv_at hl 4 rfl) ?_
  refine lv_iload hx hb dL_law_230 (lv_at hl 0 rfl) ?_
  refine lv_iconst (v := nI 1) hx hb dL_law_232 (by decide) ?_
  refine t_iadd hx hb dL_law_233 (nI_add _ _) ?_
  refine g_sld S hI hX hbl hbA (j := i + 1) (by omega) (by omega) dL_law_234 ?_
  refine lv_aload_n hx hb dL_law_235 rfl (lv_at hl 4 rfl) ?_
  refine lv_iload hx hb dL_law_236 (lv_at hl 0 rfl) ?_
  refine lv_iconst (v := nI 2) hx hb dL_law_238 (by decide) ?_
  refine t_iadd hx hb dL_law_239 (nI_add _ _) ?_
  refine g_sld S hI hX hbl hbA (j := i + 2) (by omega) (by omega) dL_law_240 ?_
  refine lv_aload_n hx hb dL_law_241 rfl (lv_at hl 4 rfl) ?_
  refine lv_iload hx hb dL_law_242 (lv_at hl 0 rfl) ?_
  refine lv_iconst (v := nI 3) hx hb dL_law_244 (by decide) ?_
  refine t_iadd hx hb dL_law_245 (nI_add _ _) ?_
  refine g_sld S hI hX hbl hbA (j := i + 3) (by omega) (by omega) dL_law_246 ?_
  refine lv_aload_n hx hb dL_law_247 rfl (lv_at hl 1 rfl) ?_
  refine g_callSX (As := [.ref hy, .int (xs (i + 1)), .int (xs (i + 2)), .int (xs (i + 3)), .ref ho]) (rest := []) (n := 5) S hE hI hA (h_flaw l K _ L1 L2 M hy ho f0 y (xs (i + 1)) (xs (i + 2)) (xs (i + 3)) hlS hy0 hout) gL_law_L_flaw rfl (by decide +kernel) ⟨Nat.le_of_ble_eq_true rfl, Nat.le_of_ble_eq_true rfl⟩ rfl hl.1 rfl (Nat.le_of_ble_eq_true rfl) dL_law_248 ⟨by show _ ≤ 601024; omega, by show _ ≤ 7293034; omega⟩ (fun E ce q9 Gx H1 locs1 hx9 => hx9.elim) (fun rv Gc_248 H locs hp hI => ?_)
  obtain ⟨rfl, hY1, ⟨f1, hout1, hv1⟩, ha1⟩ := hp
  have hM1 : MdC K L h0 th Gc_248 y N := hM.moved (fun t ht => ha1 t (by omega) (by omega))
  have hle := h_flaw_le (y := y) (x := (xs (i + 1))) (px := (xs (i + 2))) (py := (xs (i + 3)))
  refine W.eq (g2 := F0 m 251 ls [.int (nI ((oFlaw y (xs (i + 1)) (xs (i + 2)) (xs (i + 3))).1))]) rfl ?_
  refine lv_istore (lv' := [(5, .int (nI ((oFlaw y (xs (i + 1)) (xs (i + 2)) (xs (i + 3))).1))), (4, .int (nI i)), (3, .ref ho), (2, .ref h0), (1, .ref hy), (0, .ref b)]) hx hb dL_law_251 hl (by decide) rfl (fun ls hl => ?_)
  refine lv_aload_n hx hb dL_law_253 rfl (lv_at hl 3 rfl) ?_
  refine lv_aload_n hx hb dL_law_254 rfl (lv_at hl 5 rfl) ?_
  refine lv_iload hx hb dL_law_255 (lv_at hl 1 rfl) ?_
  refine lv_iconst (v := nI 1) hx hb dL_law_257 (by decide) ?_
  refine t_iadd hx hb dL_law_258 (nI_add _ _) ?_
  refine g_sld S hI hX hbl hbA (j := i + 1) (by omega) (by omega) dL_law_259 ?_
  refine lv_aload_n hx hb dL_law_260 rfl (lv_at hl 5 rfl) ?_
  refine lv_iload hx hb dL_law_261 (lv_at hl 1 rfl) ?_
  refine lv_iconst (v := nI 2) hx hb dL_law_263 (by decide) ?_
  refine t_iadd hx hb dL_law_264 (nI_add _ _) ?_
  refine g_sld S hI hX hbl hbA (j := i + 2) (by omega) (by omega) dL_law_265 ?_
  refine lv_aload_n hx hb dL_law_266 rfl (lv_at hl 5 rfl) ?_
  refine lv_iload hx hb dL_law_267 (lv_at hl 1 rfl) ?_
  refine lv_iconst (v := nI 3) hx hb dL_law_269 (by decide) ?_
  refine t_iadd hx hb dL_law_270 (nI_add _ _) ?_
  refine g_sld S hI hX hbl hbA (j := i + 3) (by omega) (by omega) dL_law_271 ?_
  refine g_callV (As := [.int (xs (i + 1)), .int (xs (i + 2)), .int (xs (i + 3))]) (rest := []) (b := h0) (n := 3) S hE hI hA (p_flaw l K _ L h0 th y N (xs (i + 1)) (xs (i + 2)) (xs (i + 3)) hM1) gL_law_X8_flaw rfl (by decide +kernel) ⟨Nat.le_of_ble_eq_true rfl, Nat.le_of_ble_eq_true rfl⟩ (g_hro hE hI hM1.1 rfl) rfl hl.1 rfl (Nat.le_of_ble_eq_true rfl) dL_law_272 ⟨by show _ ≤ 601024; omega, by show _ ≤ 7293034; omega⟩ (fun E ce q9 Gx H1 locs1 hx9 => hx9.elim) (fun rv Gc_272 H locs hp hI => ?_)
  obtain ⟨L9, N9, x9, rfl, hx9v, hM2, ha2⟩ := hp
  have hY2 := hY1.moved (fun t ht => ha2 t (Or.inl ht))
  have hout2 : Gc_272 (20, 0, 0) = some (ho, .inl (K.2.1 1, 1, .inr (.inl f1))) := (ha2 _ (by decide)).trans hout1
  refine W.eq (g2 := F0 m 275 ls [.int x9]) rfl ?_
  refine lv_istore (lv' := [(6, .int x9), (5, .int (nI ((oFlaw y (xs (i + 1)) (xs (i + 2)) (xs (i + 3))).1))), (4, .int (nI i)), (3, .ref ho), (2, .ref h0), (1, .ref hy), (0, .ref b)]) hx hb dL_law_275 hl (by decide) rfl (fun ls hl => ?_)
  refine lv_aload_n hx hb dL_law_277 rfl (lv_at hl 4 rfl) ?_
  refine g_callV (As := []) (rest := []) (b := h0) (n := 0) S hE hI hA (c_X8_thrown l K _ h0 (oFlaw y (xs (i + 1)) (xs (i + 2)) (xs (i + 3))).1 (L9 30 0) hM2.1 hM2.2.2.1) gL_law_X8_thrown rfl (by decide +kernel) ⟨Nat.le_of_ble_eq_true rfl, Nat.le_of_ble_eq_true rfl⟩ (g_hro hE hI hM2.1 rfl) rfl hl.1 rfl (Nat.le_of_ble_eq_true rfl) dL_law_278 ⟨by show _ ≤ 601024; omega, by show _ ≤ 7293034; omega⟩ (fun E ce q9 Gx H1 locs1 hx9 => hx9.elim) (fun rv Gc_278 H locs hp hI => ?_)
  obtain ⟨rfl, hq9⟩ := hp
  rw [hq9] at hI
  refine W.eq (g2 := F0 m 281 ls [.int (nI ((oFlaw y (xs (i + 1)) (xs (i + 2)) (xs (i + 3))).1))]) rfl ?_
  refine lv_iload hx hb dL_law_281 (lv_at hl 1 rfl) ?_
  refine lv_icmp_eq (tgt := 288) hx hb dL_law_283 (by decide) (fun c_283 => ?_) (fun c_283 => ?_)
  · skip
    have c_283 : ((oFlaw y (xs (i + 1)) (xs (i + 2)) (xs (i + 3))).1) = ((oFlaw y (xs (i + 1)) (xs (i + 2)) (xs (i + 3))).1) := (nI_eq (a := ((oFlaw y (xs (i + 1)) (xs (i + 2)) (xs (i + 3))).1)) (b := ((oFlaw y (xs (i + 1)) (xs (i + 2)) (xs (i + 3))).1)) (by omega) (by omega)).mp c_283
    refine lv_iload hx hb dL_law_288 (lv_at hl 1 rfl) ?_
    refine lv_if_ne (tgt := 305) hx hb dL_law_290 (by decide) (fun c_290 => ?_) (fun c_290 => ?_)
    · skip
      have c_290 : ((oFlaw y (xs (i + 1)) (xs (i + 2)) (xs (i + 3))).1) ≠ 0 := fun z => c_290 ((nI_eq (a := ((oFlaw y (xs (i + 1)) (xs (i + 2)) (xs (i + 3))).1)) (b := 0) (by omega) (by omega)).mpr z)
      refine lv_goto (tgt := 1763) hx hb dL_law_305 (by decide) ?_
      exact W.widen (by omega) (by omega) (kk _ _ _ _ _ hI ⟨hY2, ⟨L9, N9, _, hM2⟩, fr_flaw hfr (xs (i + 1)) (xs (i + 2)) (xs (i + 3)), f1, hout2⟩ (lv_sub hl [2,3,4,5,6] rfl))
    · skip
      have c_290 : ((oFlaw y (xs (i + 1)) (xs (i + 2)) (xs (i + 3))).1) = 0 := (nI_eq (a := ((oFlaw y (xs (i + 1)) (xs (i + 2)) (xs (i + 3))).1)) (b := 0) (by omega) (by omega)).mp c_290
      refine lv_aload_n hx hb dL_law_293 rfl (lv_at hl 3 rfl) ?_
      refine lv_iconst (v := nI 0) hx hb dL_law_294 (by decide) ?_
      refine g_lald S hE hI (j := 0) (f := f1) hout2 rfl (by omega) (by decide) dL_law_295 ?_
      refine lv_iload hx hb dL_law_296 (lv_at hl 0 rfl) ?_
      refine lv_i2l hx hb dL_law_298 rfl ?_
      refine g_lcmpE hx hb ((hv1 c_290).trans (by rw [hx9v c_290])) dL_law_299 ?_
      refine lv_if_eq (tgt := 305) hx hb dL_law_300 (by decide) (fun c_300 => ?_) (fun c_300 => ?_)
      · skip
        have c_300 : 0 = 0 := (nI_eq (a := 0) (b := 0) (by omega) (by omega)).mp c_300
        refine lv_goto (tgt := 1763) hx hb dL_law_305 (by decide) ?_
        exact W.widen (by omega) (by omega) (kk _ _ _ _ _ hI ⟨hY2, ⟨L9, N9, _, hM2⟩, fr_flaw hfr (xs (i + 1)) (xs (i + 2)) (xs (i + 3)), f1, hout2⟩ (lv_sub hl [2,3,4,5,6] rfl))
      · skip
        have c_300 : 0 ≠ 0 := fun z => c_300 ((nI_eq (a := 0) (b := 0) (by omega) (by omega)).mpr z)
        exact absurd rfl c_300
  · skip
    have c_283 : ((oFlaw y (xs (i + 1)) (xs (i + 2)) (xs (i + 3))).1) ≠ ((oFlaw y (xs (i + 1)) (xs (i + 2)) (xs (i + 3))).1) := fun z => c_283 ((nI_eq (a := ((oFlaw y (xs (i + 1)) (xs (i + 2)) (xs (i + 3))).1)) (b := ((oFlaw y (xs (i + 1)) (xs (i + 2)) (xs (i + 3))).1)) (by omega) (by omega)).mpr z)
    exact absurd rfl c_283
set_option maxHeartbeats 4000000 in
set_option maxRecDepth 100000 in
theorem k_kerf (S : CallFix p m c cL_law 9 s #[Value.ref b] wsL_law RL) (hE : gE K A s s.heap) (hA : ∀ q, s.heap.size ≤ q → A q) (hX : va_X b Ln xs s s.heap) (hbl : b < s.heap.size) (hbA : ¬ A b) (hlS : l.stackTraces = false) (hLn : Ln ≤ 2560) (hI : gI K A s G H locs) (hLI : LI K L1 L2 M hy ho h0 G y) (hi : i + 5 ≤ Ln) (hl : lv_has ls 9 [(4, .int (nI i)), (3, .ref ho), (2, .ref h0), (1, .ref hy), (0, .ref b)]) (hcs : cells + 1040 ≤ 601024 ∧ slots + 12000 ≤ 7293034)
    (kk : ∀ (G1 : gW) (y1 : YV) (H1 : Heap) (locs1 : List Loc) (ls1 : Array Slot), gI K A s G1 H1 locs1 → LI K L1 L2 M hy ho h0 G1 y1 → lv_has ls1 9 [(4, .int (nI i)), (3, .ref ho), (2, .ref h0), (1, .ref hy), (0, .ref b)] → W p l e room_1 s m #[Value.ref b] below meth c H1 locs1 (cells + 1040) (slots + 12000) Q (F0 m 1763 ls1 [])) : W p l e room_1 s m #[Value.ref b] below meth c H locs cells slots Q (F0 m 308 ls []) := by
  have hx := S.1
  have hb := S.2.1
  have hml := S.2.2.1
  obtain ⟨hy0, ⟨L, N, th, hM⟩, hfr, f0, hout⟩ := hLI
  refine lv_aload_n hx hb dL_law_308 rfl (lv_at hl 3 rfl) ?_
  refine lv_aload_n hx hb dL_law_309 rfl (lv_at hl 4 rfl) ?_
  refine lv_iload hx hb dL_law_310 (lv_at hl 0 rfl) ?_
  refine lv_iconst (v := nI 1) hx hb dL_law_312 (by decide) ?_
  refine t_iadd hx hb dL_law_313 (nI_add _ _) ?_
  refine g_sld S hI hX hbl hbA (j := i + 1) (by omega) (by omega) dL_law_314 ?_
  refine lv_aload_n hx hb dL_law_315 rfl (lv_at hl 1 rfl) ?_
  refine g_callSX (As := [.ref hy, .int (xs (i + 1)), .ref ho]) (rest := []) (n := 3) S hE hI hA (h_kerf l K _ L1 L2 M hy ho f0 y (xs (i + 1)) hlS hy0 hout) gL_law_L_kerf rfl (by decide +kernel) ⟨Nat.le_of_ble_eq_true rfl, Nat.le_of_ble_eq_true rfl⟩ rfl hl.1 rfl (Nat.le_of_ble_eq_true rfl) dL_law_316 ⟨by show _ ≤ 601024; omega, by show _ ≤ 7293034; omega⟩ (fun E ce q9 Gx H1 locs1 hx9 => hx9.elim) (fun rv Gc_316 H locs hp hI => ?_)
  obtain ⟨rfl, hY1, ⟨f1, hout1, hv1⟩, ha1⟩ := hp
  have hM1 : MdC K L h0 th Gc_316 y N := hM.moved (fun t ht => ha1 t (by omega) (by omega))
  have hle := h_kerf_le (y := y) (x := (xs (i + 1)))
  refine W.eq (g2 := F0 m 319 ls [.int (nI ((oKerf y (xs (i + 1))).1))]) rfl ?_
  refine lv_istore (lv' := [(5, .int (nI ((oKerf y (xs (i + 1))).1))), (4, .int (nI i)), (3, .ref ho), (2, .ref h0), (1, .ref hy), (0, .ref b)]) hx hb dL_law_319 hl (by decide) rfl (fun ls hl => ?_)
  refine lv_aload_n hx hb dL_law_321 rfl (lv_at hl 3 rfl) ?_
  refine lv_aload_n hx hb dL_law_322 rfl (lv_at hl 5 rfl) ?_
  refine lv_iload hx hb dL_law_323 (lv_at hl 1 rfl) ?_
  refine lv_iconst (v := nI 1) hx hb dL_law_325 (by decide) ?_
  refine t_iadd hx hb dL_law_326 (nI_add _ _) ?_
  refine g_sld S hI hX hbl hbA (j := i + 1) (by omega) (by omega) dL_law_327 ?_
  refine g_callV (As := [.int (xs (i + 1))]) (rest := []) (b := h0) (n := 1) S hE hI hA (p_kerf l K _ L h0 th y N (xs (i + 1)) hM1) gL_law_X8_kerf rfl (by decide +kernel) ⟨Nat.le_of_ble_eq_true rfl, Nat.le_of_ble_eq_true rfl⟩ (g_hro hE hI hM1.1 rfl) rfl hl.1 rfl (Nat.le_of_ble_eq_true rfl) dL_law_328 ⟨by show _ ≤ 601024; omega, by show _ ≤ 7293034; omega⟩ (fun E ce q9 Gx H1 locs1 hx9 => hx9.elim) (fun rv Gc_328 H locs hp hI => ?_)
  obtain ⟨L9, N9, x9, rfl, hx9v, hM2, ha2⟩ := hp
  have hY2 := hY1.moved (fun t ht => ha2 t (Or.inl ht))
  have hout2 : Gc_328 (20, 0, 0) = some (ho, .inl (K.2.1 1, 1, .inr (.inl f1))) := (ha2 _ (by decide)).trans hout1
  refine W.eq (g2 := F0 m 331 ls [.int x9]) rfl ?_
  refine lv_istore (lv' := [(6, .int x9), (5, .int (nI ((oKerf y (xs (i + 1))).1))), (4, .int (nI i)), (3, .ref ho), (2, .ref h0), (1, .ref hy), (0, .ref b)]) hx hb dL_law_331 hl (by decide) rfl (fun ls hl => ?_)
  refine lv_aload_n hx hb dL_law_333 rfl (lv_at hl 4 rfl) ?_
  refine g_callV (As := []) (rest := []) (b := h0) (n := 0) S hE hI hA (c_X8_thrown l K _ h0 (oKerf y (xs (i + 1))).1 (L9 30 0) hM2.1 hM2.2.2.1) gL_law_X8_thrown rfl (by decide +kernel) ⟨Nat.le_of_ble_eq_true rfl, Nat.le_of_ble_eq_true rfl⟩ (g_hro hE hI hM2.1 rfl) rfl hl.1 rfl (Nat.le_of_ble_eq_true rfl) dL_law_334 ⟨by show _ ≤ 601024; omega, by show _ ≤ 7293034; omega⟩ (fun E ce q9 Gx H1 locs1 hx9 => hx9.elim) (fun rv Gc_334 H locs hp hI => ?_)
  obtain ⟨rfl, hq9⟩ := hp
  rw [hq9] at hI
  refine W.eq (g2 := F0 m 337 ls [.int (nI ((oKerf y (xs (i + 1))).1))]) rfl ?_
  refine lv_iload hx hb dL_law_337 (lv_at hl 1 rfl) ?_
  refine lv_icmp_eq (tgt := 344) hx hb dL_law_339 (by decide) (fun c_339 => ?_) (fun c_339 => ?_)
  · skip
    have c_339 : ((oKerf y (xs (i + 1))).1) = ((oKerf y (xs (i + 1))).1) := (nI_eq (a := ((oKerf y (xs (i + 1))).1)) (b := ((oKerf y (xs (i + 1))).1)) (by omega) (by omega)).mp c_339
    refine lv_iload hx hb dL_law_344 (lv_at hl 1 rfl) ?_
    refine lv_if_ne (tgt := 361) hx hb dL_law_346 (by decide) (fun c_346 => ?_) (fun c_346 => ?_)
    · skip
      have c_346 : ((oKerf y (xs (i + 1))).1) ≠ 0 := fun z => c_346 ((nI_eq (a := ((oKerf y (xs (i + 1))).1)) (b := 0) (by omega) (by omega)).mpr z)
      refine lv_goto (tgt := 1763) hx hb dL_law_361 (by decide) ?_
      exact W.widen (by omega) (by omega) (kk _ _ _ _ _ hI ⟨hY2, ⟨L9, N9, _, hM2⟩, fr_kerf hfr (xs (i + 1)), f1, hout2⟩ (lv_sub hl [2,3,4,5,6] rfl))
    · skip
      have c_346 : ((oKerf y (xs (i + 1))).1) = 0 := (nI_eq (a := ((oKerf y (xs (i + 1))).1)) (b := 0) (by omega) (by omega)).mp c_346
      refine lv_aload_n hx hb dL_law_349 rfl (lv_at hl 3 rfl) ?_
      refine lv_iconst (v := nI 0) hx hb dL_law_350 (by decide) ?_
      refine g_lald S hE hI (j := 0) (f := f1) hout2 rfl (by omega) (by decide) dL_law_351 ?_
      refine lv_iload hx hb dL_law_352 (lv_at hl 0 rfl) ?_
      refine lv_i2l hx hb dL_law_354 rfl ?_
      refine g_lcmpE hx hb ((hv1 c_346).trans (by rw [hx9v c_346])) dL_law_355 ?_
      refine lv_if_eq (tgt := 361) hx hb dL_law_356 (by decide) (fun c_356 => ?_) (fun c_356 => ?_)
      · skip
        have c_356 : 0 = 0 := (nI_eq (a := 0) (b := 0) (by omega) (by omega)).mp c_356
        refine lv_goto (tgt := 1763) hx hb dL_law_361 (by decide) ?_
        exact W.widen (by omega) (by omega) (kk _ _ _ _ _ hI ⟨hY2, ⟨L9, N9, _, hM2⟩, fr_kerf hfr (xs (i + 1)), f1, hout2⟩ (lv_sub hl [2,3,4,5,6] rfl))
      · skip
        have c_356 : 0 ≠ 0 := fun z => c_356 ((nI_eq (a := 0) (b := 0) (by omega) (by omega)).mpr z)
        exact absurd rfl c_356
  · skip
    have c_339 : ((oKerf y (xs (i + 1))).1) ≠ ((oKerf y (xs (i + 1))).1) := fun z => c_339 ((nI_eq (a := ((oKerf y (xs (i + 1))).1)) (b := ((oKerf y (xs (i + 1))).1)) (by omega) (by omega)).mpr z)
    exact absurd rfl c_339
set_option maxHeartbeats 4000000 in
set_option maxRecDepth 100000 in
theorem k_cut (S : CallFix p m c cL_law 9 s #[Value.ref b] wsL_law RL) (hE : gE K A s s.heap) (hA : ∀ q, s.heap.size ≤ q → A q) (hX : va_X b Ln xs s s.heap) (hbl : b < s.heap.size) (hbA : ¬ A b) (hlS : l.stackTraces = false) (hLn : Ln ≤ 2560) (hI : gI K A s G H locs) (hLI : LI K L1 L2 M hy ho h0 G y) (hi : i + 5 ≤ Ln) (hl : lv_has ls 9 [(4, .int (nI i)), (3, .ref ho), (2, .ref h0), (1, .ref hy), (0, .ref b)]) (hcs : cells + 1040 ≤ 601024 ∧ slots + 12000 ≤ 7293034)
    (kk : ∀ (G1 : gW) (y1 : YV) (H1 : Heap) (locs1 : List Loc) (ls1 : Array Slot), gI K A s G1 H1 locs1 → LI K L1 L2 M hy ho h0 G1 y1 → lv_has ls1 9 [(4, .int (nI i)), (3, .ref ho), (2, .ref h0), (1, .ref hy), (0, .ref b)] → W p l e room_1 s m #[Value.ref b] below meth c H1 locs1 (cells + 1040) (slots + 12000) Q (F0 m 1763 ls1 [])) : W p l e room_1 s m #[Value.ref b] below meth c H locs cells slots Q (F0 m 364 ls []) := by
  have hx := S.1
  have hb := S.2.1
  have hml := S.2.2.1
  obtain ⟨hy0, ⟨L, N, th, hM⟩, hfr, f0, hout⟩ := hLI
  refine lv_aload_n hx hb dL_law_364 rfl (lv_at hl 3 rfl) ?_
  refine lv_aload_n hx hb dL_law_365 rfl (lv_at hl 4 rfl) ?_
  refine lv_iload hx hb dL_law_366 (lv_at hl 0 rfl) ?_
  refine lv_iconst (v := nI 1) hx hb dL_law_368 (by decide) ?_
  refine t_iadd hx hb dL_law_369 (nI_add _ _) ?_
  refine g_sld S hI hX hbl hbA (j := i + 1) (by omega) (by omega) dL_law_370 ?_
  refine lv_aload_n hx hb dL_law_371 rfl (lv_at hl 4 rfl) ?_
  refine lv_iload hx hb dL_law_372 (lv_at hl 0 rfl) ?_
  refine lv_iconst (v := nI 2) hx hb dL_law_374 (by decide) ?_
  refine t_iadd hx hb dL_law_375 (nI_add _ _) ?_
  refine g_sld S hI hX hbl hbA (j := i + 2) (by omega) (by omega) dL_law_376 ?_
  refine lv_if_eq (tgt := 384) hx hb dL_law_377 (by decide) (fun c_377 => ?_) (fun c_377 => ?_)
  · skip
    refine lv_iconst (v := nI 0) hx hb dL_law_384 (by decide) ?_
    refine lv_aload_n hx hb dL_law_385 rfl (lv_at hl 4 rfl) ?_
    refine lv_iload hx hb dL_law_386 (lv_at hl 0 rfl) ?_
    refine lv_iconst (v := nI 3) hx hb dL_law_388 (by decide) ?_
    refine t_iadd hx hb dL_law_389 (nI_add _ _) ?_
    refine g_sld S hI hX hbl hbA (j := i + 3) (by omega) (by omega) dL_law_390 ?_
    refine lv_aload_n hx hb dL_law_391 rfl (lv_at hl 1 rfl) ?_
    refine g_callSX (As := [.ref hy, .int (xs (i + 1)), .int (nI 0), .int (xs (i + 3)), .ref ho]) (rest := []) (n := 5) S hE hI hA (h_cut l K _ L1 L2 M hy ho f0 y (xs (i + 1)) false (xs (i + 3)) hlS hy0 hout) gL_law_L_cut rfl (by decide +kernel) ⟨Nat.le_of_ble_eq_true rfl, Nat.le_of_ble_eq_true rfl⟩ rfl hl.1 rfl (Nat.le_of_ble_eq_true rfl) dL_law_392 ⟨by show _ ≤ 601024; omega, by show _ ≤ 7293034; omega⟩ (fun E ce q9 Gx H1 locs1 hx9 => hx9.elim) (fun rv Gc_392 H locs hp hI => ?_)
    obtain ⟨rfl, hY1, ⟨f1, hout1, hv1⟩, ha1⟩ := hp
    have hM1 : MdC K L h0 th Gc_392 y N := hM.moved (fun t ht => ha1 t (by omega) (by omega))
    have hle := h_cut_le (y := y) (x := (xs (i + 1))) (dn := false) (px := (xs (i + 3)))
    refine W.eq (g2 := F0 m 395 ls [.int (nI ((oCut y (xs (i + 1)) false (xs (i + 3))).1))]) rfl ?_
    refine lv_istore (lv' := [(5, .int (nI ((oCut y (xs (i + 1)) false (xs (i + 3))).1))), (4, .int (nI i)), (3, .ref ho), (2, .ref h0), (1, .ref hy), (0, .ref b)]) hx hb dL_law_395 hl (by decide) rfl (fun ls hl => ?_)
    refine lv_aload_n hx hb dL_law_397 rfl (lv_at hl 3 rfl) ?_
    refine lv_aload_n hx hb dL_law_398 rfl (lv_at hl 5 rfl) ?_
    refine lv_iload hx hb dL_law_399 (lv_at hl 1 rfl) ?_
    refine lv_iconst (v := nI 1) hx hb dL_law_401 (by decide) ?_
    refine t_iadd hx hb dL_law_402 (nI_add _ _) ?_
    refine g_sld S hI hX hbl hbA (j := i + 1) (by omega) (by omega) dL_law_403 ?_
    refine lv_aload_n hx hb dL_law_404 rfl (lv_at hl 5 rfl) ?_
    refine lv_iload hx hb dL_law_405 (lv_at hl 1 rfl) ?_
    refine lv_iconst (v := nI 2) hx hb dL_law_407 (by decide) ?_
    refine t_iadd hx hb dL_law_408 (nI_add _ _) ?_
    refine g_sld S hI hX hbl hbA (j := i + 2) (by omega) (by omega) dL_law_409 ?_
    refine lv_if_eq (tgt := 417) hx hb dL_law_410 (by decide) (fun c_410 => ?_) (fun c_410 => ?_)
    · skip
      refine lv_iconst (v := nI 0) hx hb dL_law_417 (by decide) ?_
      refine lv_aload_n hx hb dL_law_418 rfl (lv_at hl 5 rfl) ?_
      refine lv_iload hx hb dL_law_419 (lv_at hl 1 rfl) ?_
      refine lv_iconst (v := nI 3) hx hb dL_law_421 (by decide) ?_
      refine t_iadd hx hb dL_law_422 (nI_add _ _) ?_
      refine g_sld S hI hX hbl hbA (j := i + 3) (by omega) (by omega) dL_law_423 ?_
      refine g_callV (As := [.int (xs (i + 1)), .int (nI 0), .int (xs (i + 3))]) (rest := []) (b := h0) (n := 3) S hE hI hA (p_cut l K _ L h0 th y N (xs (i + 1)) false (xs (i + 3)) hM1) gL_law_X8_cut rfl (by decide +kernel) ⟨Nat.le_of_ble_eq_true rfl, Nat.le_of_ble_eq_true rfl⟩ (g_hro hE hI hM1.1 rfl) rfl hl.1 rfl (Nat.le_of_ble_eq_true rfl) dL_law_424 ⟨by show _ ≤ 601024; omega, by show _ ≤ 7293034; omega⟩ (fun E ce q9 Gx H1 locs1 hx9 => hx9.elim) (fun rv Gc_424 H locs hp hI => ?_)
      obtain ⟨L9, N9, x9, rfl, hx9v, hM2, ha2⟩ := hp
      have hY2 := hY1.moved (fun t ht => ha2 t (Or.inl ht))
      have hout2 : Gc_424 (20, 0, 0) = some (ho, .inl (K.2.1 1, 1, .inr (.inl f1))) := (ha2 _ (by decide)).trans hout1
      refine W.eq (g2 := F0 m 427 ls [.int x9]) rfl ?_
      refine lv_istore (lv' := [(6, .int x9), (5, .int (nI ((oCut y (xs (i + 1)) false (xs (i + 3))).1))), (4, .int (nI i)), (3, .ref ho), (2, .ref h0), (1, .ref hy), (0, .ref b)]) hx hb dL_law_427 hl (by decide) rfl (fun ls hl => ?_)
      refine lv_aload_n hx hb dL_law_429 rfl (lv_at hl 4 rfl) ?_
      refine g_callV (As := []) (rest := []) (b := h0) (n := 0) S hE hI hA (c_X8_thrown l K _ h0 (oCut y (xs (i + 1)) false (xs (i + 3))).1 (L9 30 0) hM2.1 hM2.2.2.1) gL_law_X8_thrown rfl (by decide +kernel) ⟨Nat.le_of_ble_eq_true rfl, Nat.le_of_ble_eq_true rfl⟩ (g_hro hE hI hM2.1 rfl) rfl hl.1 rfl (Nat.le_of_ble_eq_true rfl) dL_law_430 ⟨by show _ ≤ 601024; omega, by show _ ≤ 7293034; omega⟩ (fun E ce q9 Gx H1 locs1 hx9 => hx9.elim) (fun rv Gc_430 H locs hp hI => ?_)
      obtain ⟨rfl, hq9⟩ := hp
      rw [hq9] at hI
      refine W.eq (g2 := F0 m 433 ls [.int (nI ((oCut y (xs (i + 1)) false (xs (i + 3))).1))]) rfl ?_
      refine lv_iload hx hb dL_law_433 (lv_at hl 1 rfl) ?_
      refine lv_icmp_eq (tgt := 440) hx hb dL_law_435 (by decide) (fun c_435 => ?_) (fun c_435 => ?_)
      · skip
        have c_435 : ((oCut y (xs (i + 1)) false (xs (i + 3))).1) = ((oCut y (xs (i + 1)) false (xs (i + 3))).1) := (nI_eq (a := ((oCut y (xs (i + 1)) false (xs (i + 3))).1)) (b := ((oCut y (xs (i + 1)) false (xs (i + 3))).1)) (by omega) (by omega)).mp c_435
        refine lv_iload hx hb dL_law_440 (lv_at hl 1 rfl) ?_
        refine lv_if_ne (tgt := 457) hx hb dL_law_442 (by decide) (fun c_442 => ?_) (fun c_442 => ?_)
        · skip
          have c_442 : ((oCut y (xs (i + 1)) false (xs (i + 3))).1) ≠ 0 := fun z => c_442 ((nI_eq (a := ((oCut y (xs (i + 1)) false (xs (i + 3))).1)) (b := 0) (by omega) (by omega)).mpr z)
          refine lv_goto (tgt := 1763) hx hb dL_law_457 (by decide) ?_
          exact W.widen (by omega) (by omega) (kk _ _ _ _ _ hI ⟨hY2, ⟨L9, N9, _, hM2⟩, fr_cut hfr (xs (i + 1)) false (xs (i + 3)), f1, hout2⟩ (lv_sub hl [2,3,4,5,6] rfl))
        · skip
          have c_442 : ((oCut y (xs (i + 1)) false (xs (i + 3))).1) = 0 := (nI_eq (a := ((oCut y (xs (i + 1)) false (xs (i + 3))).1)) (b := 0) (by omega) (by omega)).mp c_442
          refine lv_aload_n hx hb dL_law_445 rfl (lv_at hl 3 rfl) ?_
          refine lv_iconst (v := nI 0) hx hb dL_law_446 (by decide) ?_
          refine g_lald S hE hI (j := 0) (f := f1) hout2 rfl (by omega) (by decide) dL_law_447 ?_
          refine lv_iload hx hb dL_law_448 (lv_at hl 0 rfl) ?_
          refine lv_i2l hx hb dL_law_450 rfl ?_
          refine g_lcmpE hx hb ((hv1 c_442).trans (by rw [hx9v c_442])) dL_law_451 ?_
          refine lv_if_eq (tgt := 457) hx hb dL_law_452 (by decide) (fun c_452 => ?_) (fun c_452 => ?_)
          · skip
            have c_452 : 0 = 0 := (nI_eq (a := 0) (b := 0) (by omega) (by omega)).mp c_452
            refine lv_goto (tgt := 1763) hx hb dL_law_457 (by decide) ?_
            exact W.widen (by omega) (by omega) (kk _ _ _ _ _ hI ⟨hY2, ⟨L9, N9, _, hM2⟩, fr_cut hfr (xs (i + 1)) false (xs (i + 3)), f1, hout2⟩ (lv_sub hl [2,3,4,5,6] rfl))
          · skip
            have c_452 : 0 ≠ 0 := fun z => c_452 ((nI_eq (a := 0) (b := 0) (by omega) (by omega)).mpr z)
            exact absurd rfl c_452
      · skip
        have c_435 : ((oCut y (xs (i + 1)) false (xs (i + 3))).1) ≠ ((oCut y (xs (i + 1)) false (xs (i + 3))).1) := fun z => c_435 ((nI_eq (a := ((oCut y (xs (i + 1)) false (xs (i + 3))).1)) (b := ((oCut y (xs (i + 1)) false (xs (i + 3))).1)) (by omega) (by omega)).mpr z)
        exact absurd rfl c_435
    · skip
      exact absurd c_377 c_410
  · skip
    refine lv_iconst (v := nI 1) hx hb dL_law_380 (by decide) ?_
    refine lv_goto (tgt := 385) hx hb dL_law_381 (by decide) ?_
    refine lv_aload_n hx hb dL_law_385 rfl (lv_at hl 4 rfl) ?_
    refine lv_iload hx hb dL_law_386 (lv_at hl 0 rfl) ?_
    refine lv_iconst (v := nI 3) hx hb dL_law_388 (by decide) ?_
    refine t_iadd hx hb dL_law_389 (nI_add _ _) ?_
    refine g_sld S hI hX hbl hbA (j := i + 3) (by omega) (by omega) dL_law_390 ?_
    refine lv_aload_n hx hb dL_law_391 rfl (lv_at hl 1 rfl) ?_
    refine g_callSX (As := [.ref hy, .int (xs (i + 1)), .int (nI 1), .int (xs (i + 3)), .ref ho]) (rest := []) (n := 5) S hE hI hA (h_cut l K _ L1 L2 M hy ho f0 y (xs (i + 1)) true (xs (i + 3)) hlS hy0 hout) gL_law_L_cut rfl (by decide +kernel) ⟨Nat.le_of_ble_eq_true rfl, Nat.le_of_ble_eq_true rfl⟩ rfl hl.1 rfl (Nat.le_of_ble_eq_true rfl) dL_law_392 ⟨by show _ ≤ 601024; omega, by show _ ≤ 7293034; omega⟩ (fun E ce q9 Gx H1 locs1 hx9 => hx9.elim) (fun rv Gc_392 H locs hp hI => ?_)
    obtain ⟨rfl, hY1, ⟨f1, hout1, hv1⟩, ha1⟩ := hp
    have hM1 : MdC K L h0 th Gc_392 y N := hM.moved (fun t ht => ha1 t (by omega) (by omega))
    have hle := h_cut_le (y := y) (x := (xs (i + 1))) (dn := true) (px := (xs (i + 3)))
    refine W.eq (g2 := F0 m 395 ls [.int (nI ((oCut y (xs (i + 1)) true (xs (i + 3))).1))]) rfl ?_
    refine lv_istore (lv' := [(5, .int (nI ((oCut y (xs (i + 1)) true (xs (i + 3))).1))), (4, .int (nI i)), (3, .ref ho), (2, .ref h0), (1, .ref hy), (0, .ref b)]) hx hb dL_law_395 hl (by decide) rfl (fun ls hl => ?_)
    refine lv_aload_n hx hb dL_law_397 rfl (lv_at hl 3 rfl) ?_
    refine lv_aload_n hx hb dL_law_398 rfl (lv_at hl 5 rfl) ?_
    refine lv_iload hx hb dL_law_399 (lv_at hl 1 rfl) ?_
    refine lv_iconst (v := nI 1) hx hb dL_law_401 (by decide) ?_
    refine t_iadd hx hb dL_law_402 (nI_add _ _) ?_
    refine g_sld S hI hX hbl hbA (j := i + 1) (by omega) (by omega) dL_law_403 ?_
    refine lv_aload_n hx hb dL_law_404 rfl (lv_at hl 5 rfl) ?_
    refine lv_iload hx hb dL_law_405 (lv_at hl 1 rfl) ?_
    refine lv_iconst (v := nI 2) hx hb dL_law_407 (by decide) ?_
    refine t_iadd hx hb dL_law_408 (nI_add _ _) ?_
    refine g_sld S hI hX hbl hbA (j := i + 2) (by omega) (by omega) dL_law_409 ?_
    refine lv_if_eq (tgt := 417) hx hb dL_law_410 (by decide) (fun c_410 => ?_) (fun c_410 => ?_)
    · skip
      exact absurd c_410 c_377
    · skip
      refine lv_iconst (v := nI 1) hx hb dL_law_413 (by decide) ?_
      refine lv_goto (tgt := 418) hx hb dL_law_414 (by decide) ?_
      refine lv_aload_n hx hb dL_law_418 rfl (lv_at hl 5 rfl) ?_
      refine lv_iload hx hb dL_law_419 (lv_at hl 1 rfl) ?_
      refine lv_iconst (v := nI 3) hx hb dL_law_421 (by decide) ?_
      refine t_iadd hx hb dL_law_422 (nI_add _ _) ?_
      refine g_sld S hI hX hbl hbA (j := i + 3) (by omega) (by omega) dL_law_423 ?_
      refine g_callV (As := [.int (xs (i + 1)), .int (nI 1), .int (xs (i + 3))]) (rest := []) (b := h0) (n := 3) S hE hI hA (p_cut l K _ L h0 th y N (xs (i + 1)) true (xs (i + 3)) hM1) gL_law_X8_cut rfl (by decide +kernel) ⟨Nat.le_of_ble_eq_true rfl, Nat.le_of_ble_eq_true rfl⟩ (g_hro hE hI hM1.1 rfl) rfl hl.1 rfl (Nat.le_of_ble_eq_true rfl) dL_law_424 ⟨by show _ ≤ 601024; omega, by show _ ≤ 7293034; omega⟩ (fun E ce q9 Gx H1 locs1 hx9 => hx9.elim) (fun rv Gc_424 H locs hp hI => ?_)
      obtain ⟨L9, N9, x9, rfl, hx9v, hM2, ha2⟩ := hp
      have hY2 := hY1.moved (fun t ht => ha2 t (Or.inl ht))
      have hout2 : Gc_424 (20, 0, 0) = some (ho, .inl (K.2.1 1, 1, .inr (.inl f1))) := (ha2 _ (by decide)).trans hout1
      refine W.eq (g2 := F0 m 427 ls [.int x9]) rfl ?_
      refine lv_istore (lv' := [(6, .int x9), (5, .int (nI ((oCut y (xs (i + 1)) true (xs (i + 3))).1))), (4, .int (nI i)), (3, .ref ho), (2, .ref h0), (1, .ref hy), (0, .ref b)]) hx hb dL_law_427 hl (by decide) rfl (fun ls hl => ?_)
      refine lv_aload_n hx hb dL_law_429 rfl (lv_at hl 4 rfl) ?_
      refine g_callV (As := []) (rest := []) (b := h0) (n := 0) S hE hI hA (c_X8_thrown l K _ h0 (oCut y (xs (i + 1)) true (xs (i + 3))).1 (L9 30 0) hM2.1 hM2.2.2.1) gL_law_X8_thrown rfl (by decide +kernel) ⟨Nat.le_of_ble_eq_true rfl, Nat.le_of_ble_eq_true rfl⟩ (g_hro hE hI hM2.1 rfl) rfl hl.1 rfl (Nat.le_of_ble_eq_true rfl) dL_law_430 ⟨by show _ ≤ 601024; omega, by show _ ≤ 7293034; omega⟩ (fun E ce q9 Gx H1 locs1 hx9 => hx9.elim) (fun rv Gc_430 H locs hp hI => ?_)
      obtain ⟨rfl, hq9⟩ := hp
      rw [hq9] at hI
      refine W.eq (g2 := F0 m 433 ls [.int (nI ((oCut y (xs (i + 1)) true (xs (i + 3))).1))]) rfl ?_
      refine lv_iload hx hb dL_law_433 (lv_at hl 1 rfl) ?_
      refine lv_icmp_eq (tgt := 440) hx hb dL_law_435 (by decide) (fun c_435 => ?_) (fun c_435 => ?_)
      · skip
        have c_435 : ((oCut y (xs (i + 1)) true (xs (i + 3))).1) = ((oCut y (xs (i + 1)) true (xs (i + 3))).1) := (nI_eq (a := ((oCut y (xs (i + 1)) true (xs (i + 3))).1)) (b := ((oCut y (xs (i + 1)) true (xs (i + 3))).1)) (by omega) (by omega)).mp c_435
        refine lv_iload hx hb dL_law_440 (lv_at hl 1 rfl) ?_
        refine lv_if_ne (tgt := 457) hx hb dL_law_442 (by decide) (fun c_442 => ?_) (fun c_442 => ?_)
        · skip
          have c_442 : ((oCut y (xs (i + 1)) true (xs (i + 3))).1) ≠ 0 := fun z => c_442 ((nI_eq (a := ((oCut y (xs (i + 1)) true (xs (i + 3))).1)) (b := 0) (by omega) (by omega)).mpr z)
          refine lv_goto (tgt := 1763) hx hb dL_law_457 (by decide) ?_
          exact W.widen (by omega) (by omega) (kk _ _ _ _ _ hI ⟨hY2, ⟨L9, N9, _, hM2⟩, fr_cut hfr (xs (i + 1)) true (xs (i + 3)), f1, hout2⟩ (lv_sub hl [2,3,4,5,6] rfl))
        · skip
          have c_442 : ((oCut y (xs (i + 1)) true (xs (i + 3))).1) = 0 := (nI_eq (a := ((oCut y (xs (i + 1)) true (xs (i + 3))).1)) (b := 0) (by omega) (by omega)).mp c_442
          refine lv_aload_n hx hb dL_law_445 rfl (lv_at hl 3 rfl) ?_
          refine lv_iconst (v := nI 0) hx hb dL_law_446 (by decide) ?_
          refine g_lald S hE hI (j := 0) (f := f1) hout2 rfl (by omega) (by decide) dL_law_447 ?_
          refine lv_iload hx hb dL_law_448 (lv_at hl 0 rfl) ?_
          refine lv_i2l hx hb dL_law_450 rfl ?_
          refine g_lcmpE hx hb ((hv1 c_442).trans (by rw [hx9v c_442])) dL_law_451 ?_
          refine lv_if_eq (tgt := 457) hx hb dL_law_452 (by decide) (fun c_452 => ?_) (fun c_452 => ?_)
          · skip
            have c_452 : 0 = 0 := (nI_eq (a := 0) (b := 0) (by omega) (by omega)).mp c_452
            refine lv_goto (tgt := 1763) hx hb dL_law_457 (by decide) ?_
            exact W.widen (by omega) (by omega) (kk _ _ _ _ _ hI ⟨hY2, ⟨L9, N9, _, hM2⟩, fr_cut hfr (xs (i + 1)) true (xs (i + 3)), f1, hout2⟩ (lv_sub hl [2,3,4,5,6] rfl))
          · skip
            have c_452 : 0 ≠ 0 := fun z => c_452 ((nI_eq (a := 0) (b := 0) (by omega) (by omega)).mpr z)
            exact absurd rfl c_452
      · skip
        have c_435 : ((oCut y (xs (i + 1)) true (xs (i + 3))).1) ≠ ((oCut y (xs (i + 1)) true (xs (i + 3))).1) := fun z => c_435 ((nI_eq (a := ((oCut y (xs (i + 1)) true (xs (i + 3))).1)) (b := ((oCut y (xs (i + 1)) true (xs (i + 3))).1)) (by omega) (by omega)).mpr z)
        exact absurd rfl c_435
set_option maxHeartbeats 4000000 in
set_option maxRecDepth 100000 in
theorem k_toss (S : CallFix p m c cL_law 9 s #[Value.ref b] wsL_law RL) (hE : gE K A s s.heap) (hA : ∀ q, s.heap.size ≤ q → A q) (hX : va_X b Ln xs s s.heap) (hbl : b < s.heap.size) (hbA : ¬ A b) (hlS : l.stackTraces = false) (hLn : Ln ≤ 2560) (hI : gI K A s G H locs) (hLI : LI K L1 L2 M hy ho h0 G y) (hi : i + 5 ≤ Ln) (hl : lv_has ls 9 [(4, .int (nI i)), (3, .ref ho), (2, .ref h0), (1, .ref hy), (0, .ref b)]) (hcs : cells + 1040 ≤ 601024 ∧ slots + 12000 ≤ 7293034)
    (kk : ∀ (G1 : gW) (y1 : YV) (H1 : Heap) (locs1 : List Loc) (ls1 : Array Slot), gI K A s G1 H1 locs1 → LI K L1 L2 M hy ho h0 G1 y1 → lv_has ls1 9 [(4, .int (nI i)), (3, .ref ho), (2, .ref h0), (1, .ref hy), (0, .ref b)] → W p l e room_1 s m #[Value.ref b] below meth c H1 locs1 (cells + 1040) (slots + 12000) Q (F0 m 1763 ls1 [])) : W p l e room_1 s m #[Value.ref b] below meth c H locs cells slots Q (F0 m 460 ls []) := by
  have hx := S.1
  have hb := S.2.1
  have hml := S.2.2.1
  obtain ⟨hy0, ⟨L, N, th, hM⟩, hfr, f0, hout⟩ := hLI
  refine lv_aload_n hx hb dL_law_460 rfl (lv_at hl 3 rfl) ?_
  refine lv_aload_n hx hb dL_law_461 rfl (lv_at hl 4 rfl) ?_
  refine lv_iload hx hb dL_law_462 (lv_at hl 0 rfl) ?_
  refine lv_iconst (v := nI 1) hx hb dL_law_464 (by decide) ?_
  refine t_iadd hx hb dL_law_465 (nI_add _ _) ?_
  refine g_sld S hI hX hbl hbA (j := i + 1) (by omega) (by omega) dL_law_466 ?_
  refine lv_aload_n hx hb dL_law_467 rfl (lv_at hl 1 rfl) ?_
  refine g_callSX (As := [.ref hy, .int (xs (i + 1)), .ref ho]) (rest := []) (n := 3) S hE hI hA (h_toss l K _ L1 L2 M hy ho f0 y (xs (i + 1)) hlS hy0 hout) gL_law_L_toss rfl (by decide +kernel) ⟨Nat.le_of_ble_eq_true rfl, Nat.le_of_ble_eq_true rfl⟩ rfl hl.1 rfl (Nat.le_of_ble_eq_true rfl) dL_law_468 ⟨by show _ ≤ 601024; omega, by show _ ≤ 7293034; omega⟩ (fun E ce q9 Gx H1 locs1 hx9 => hx9.elim) (fun rv Gc_468 H locs hp hI => ?_)
  obtain ⟨rfl, hY1, ⟨f1, hout1, hv1⟩, ha1⟩ := hp
  have hM1 : MdC K L h0 th Gc_468 y N := hM.moved (fun t ht => ha1 t (by omega) (by omega))
  have hle := h_toss_le (y := y) (x := (xs (i + 1)))
  refine W.eq (g2 := F0 m 471 ls [.int (nI ((oToss y (xs (i + 1))).1))]) rfl ?_
  refine lv_istore (lv' := [(5, .int (nI ((oToss y (xs (i + 1))).1))), (4, .int (nI i)), (3, .ref ho), (2, .ref h0), (1, .ref hy), (0, .ref b)]) hx hb dL_law_471 hl (by decide) rfl (fun ls hl => ?_)
  refine lv_aload_n hx hb dL_law_473 rfl (lv_at hl 3 rfl) ?_
  refine lv_aload_n hx hb dL_law_474 rfl (lv_at hl 5 rfl) ?_
  refine lv_iload hx hb dL_law_475 (lv_at hl 1 rfl) ?_
  refine lv_iconst (v := nI 1) hx hb dL_law_477 (by decide) ?_
  refine t_iadd hx hb dL_law_478 (nI_add _ _) ?_
  refine g_sld S hI hX hbl hbA (j := i + 1) (by omega) (by omega) dL_law_479 ?_
  refine g_callV (As := [.int (xs (i + 1))]) (rest := []) (b := h0) (n := 1) S hE hI hA (p_toss l K _ L h0 th y N (xs (i + 1)) hM1) gL_law_X8_toss rfl (by decide +kernel) ⟨Nat.le_of_ble_eq_true rfl, Nat.le_of_ble_eq_true rfl⟩ (g_hro hE hI hM1.1 rfl) rfl hl.1 rfl (Nat.le_of_ble_eq_true rfl) dL_law_480 ⟨by show _ ≤ 601024; omega, by show _ ≤ 7293034; omega⟩ (fun E ce q9 Gx H1 locs1 hx9 => hx9.elim) (fun rv Gc_480 H locs hp hI => ?_)
  obtain ⟨L9, N9, x9, rfl, hx9v, hM2, ha2⟩ := hp
  have hY2 := hY1.moved (fun t ht => ha2 t (Or.inl ht))
  have hout2 : Gc_480 (20, 0, 0) = some (ho, .inl (K.2.1 1, 1, .inr (.inl f1))) := (ha2 _ (by decide)).trans hout1
  refine W.eq (g2 := F0 m 483 ls [.int x9]) rfl ?_
  refine lv_istore (lv' := [(6, .int x9), (5, .int (nI ((oToss y (xs (i + 1))).1))), (4, .int (nI i)), (3, .ref ho), (2, .ref h0), (1, .ref hy), (0, .ref b)]) hx hb dL_law_483 hl (by decide) rfl (fun ls hl => ?_)
  refine lv_aload_n hx hb dL_law_485 rfl (lv_at hl 4 rfl) ?_
  refine g_callV (As := []) (rest := []) (b := h0) (n := 0) S hE hI hA (c_X8_thrown l K _ h0 (oToss y (xs (i + 1))).1 (L9 30 0) hM2.1 hM2.2.2.1) gL_law_X8_thrown rfl (by decide +kernel) ⟨Nat.le_of_ble_eq_true rfl, Nat.le_of_ble_eq_true rfl⟩ (g_hro hE hI hM2.1 rfl) rfl hl.1 rfl (Nat.le_of_ble_eq_true rfl) dL_law_486 ⟨by show _ ≤ 601024; omega, by show _ ≤ 7293034; omega⟩ (fun E ce q9 Gx H1 locs1 hx9 => hx9.elim) (fun rv Gc_486 H locs hp hI => ?_)
  obtain ⟨rfl, hq9⟩ := hp
  rw [hq9] at hI
  refine W.eq (g2 := F0 m 489 ls [.int (nI ((oToss y (xs (i + 1))).1))]) rfl ?_
  refine lv_iload hx hb dL_law_489 (lv_at hl 1 rfl) ?_
  refine lv_icmp_eq (tgt := 496) hx hb dL_law_491 (by decide) (fun c_491 => ?_) (fun c_491 => ?_)
  · skip
    have c_491 : ((oToss y (xs (i + 1))).1) = ((oToss y (xs (i + 1))).1) := (nI_eq (a := ((oToss y (xs (i + 1))).1)) (b := ((oToss y (xs (i + 1))).1)) (by omega) (by omega)).mp c_491
    refine lv_iload hx hb dL_law_496 (lv_at hl 1 rfl) ?_
    refine lv_if_ne (tgt := 513) hx hb dL_law_498 (by decide) (fun c_498 => ?_) (fun c_498 => ?_)
    · skip
      have c_498 : ((oToss y (xs (i + 1))).1) ≠ 0 := fun z => c_498 ((nI_eq (a := ((oToss y (xs (i + 1))).1)) (b := 0) (by omega) (by omega)).mpr z)
      refine lv_goto (tgt := 1763) hx hb dL_law_513 (by decide) ?_
      exact W.widen (by omega) (by omega) (kk _ _ _ _ _ hI ⟨hY2, ⟨L9, N9, _, hM2⟩, fr_toss hfr (xs (i + 1)), f1, hout2⟩ (lv_sub hl [2,3,4,5,6] rfl))
    · skip
      have c_498 : ((oToss y (xs (i + 1))).1) = 0 := (nI_eq (a := ((oToss y (xs (i + 1))).1)) (b := 0) (by omega) (by omega)).mp c_498
      refine lv_aload_n hx hb dL_law_501 rfl (lv_at hl 3 rfl) ?_
      refine lv_iconst (v := nI 0) hx hb dL_law_502 (by decide) ?_
      refine g_lald S hE hI (j := 0) (f := f1) hout2 rfl (by omega) (by decide) dL_law_503 ?_
      refine lv_iload hx hb dL_law_504 (lv_at hl 0 rfl) ?_
      refine lv_i2l hx hb dL_law_506 rfl ?_
      refine g_lcmpE hx hb ((hv1 c_498).trans (by rw [hx9v c_498])) dL_law_507 ?_
      refine lv_if_eq (tgt := 513) hx hb dL_law_508 (by decide) (fun c_508 => ?_) (fun c_508 => ?_)
      · skip
        have c_508 : 0 = 0 := (nI_eq (a := 0) (b := 0) (by omega) (by omega)).mp c_508
        refine lv_goto (tgt := 1763) hx hb dL_law_513 (by decide) ?_
        exact W.widen (by omega) (by omega) (kk _ _ _ _ _ hI ⟨hY2, ⟨L9, N9, _, hM2⟩, fr_toss hfr (xs (i + 1)), f1, hout2⟩ (lv_sub hl [2,3,4,5,6] rfl))
      · skip
        have c_508 : 0 ≠ 0 := fun z => c_508 ((nI_eq (a := 0) (b := 0) (by omega) (by omega)).mpr z)
        exact absurd rfl c_508
  · skip
    have c_491 : ((oToss y (xs (i + 1))).1) ≠ ((oToss y (xs (i + 1))).1) := fun z => c_491 ((nI_eq (a := ((oToss y (xs (i + 1))).1)) (b := ((oToss y (xs (i + 1))).1)) (by omega) (by omega)).mpr z)
    exact absurd rfl c_491
set_option maxHeartbeats 4000000 in
set_option maxRecDepth 100000 in
theorem k_ofSlab (S : CallFix p m c cL_law 9 s #[Value.ref b] wsL_law RL) (hE : gE K A s s.heap) (hA : ∀ q, s.heap.size ≤ q → A q) (hX : va_X b Ln xs s s.heap) (hbl : b < s.heap.size) (hbA : ¬ A b) (hlS : l.stackTraces = false) (hLn : Ln ≤ 2560) (hI : gI K A s G H locs) (hLI : LI K L1 L2 M hy ho h0 G y) (hi : i + 5 ≤ Ln) (hl : lv_has ls 9 [(4, .int (nI i)), (3, .ref ho), (2, .ref h0), (1, .ref hy), (0, .ref b)]) (hcs : cells + 1040 ≤ 601024 ∧ slots + 12000 ≤ 7293034)
    (kk : ∀ (G1 : gW) (y1 : YV) (H1 : Heap) (locs1 : List Loc) (ls1 : Array Slot), gI K A s G1 H1 locs1 → LI K L1 L2 M hy ho h0 G1 y1 → lv_has ls1 9 [(4, .int (nI i)), (3, .ref ho), (2, .ref h0), (1, .ref hy), (0, .ref b)] → W p l e room_1 s m #[Value.ref b] below meth c H1 locs1 (cells + 1040) (slots + 12000) Q (F0 m 1763 ls1 [])) : W p l e room_1 s m #[Value.ref b] below meth c H locs cells slots Q (F0 m 516 ls []) := by
  have hx := S.1
  have hb := S.2.1
  have hml := S.2.2.1
  obtain ⟨hy0, ⟨L, N, th, hM⟩, hfr, f0, hout⟩ := hLI
  refine lv_aload_n hx hb dL_law_516 rfl (lv_at hl 3 rfl) ?_
  refine lv_aload_n hx hb dL_law_517 rfl (lv_at hl 4 rfl) ?_
  refine lv_iload hx hb dL_law_518 (lv_at hl 0 rfl) ?_
  refine lv_iconst (v := nI 1) hx hb dL_law_520 (by decide) ?_
  refine t_iadd hx hb dL_law_521 (nI_add _ _) ?_
  refine g_sld S hI hX hbl hbA (j := i + 1) (by omega) (by omega) dL_law_522 ?_
  refine lv_aload_n hx hb dL_law_523 rfl (lv_at hl 4 rfl) ?_
  refine lv_iload hx hb dL_law_524 (lv_at hl 0 rfl) ?_
  refine lv_iconst (v := nI 2) hx hb dL_law_526 (by decide) ?_
  refine t_iadd hx hb dL_law_527 (nI_add _ _) ?_
  refine g_sld S hI hX hbl hbA (j := i + 2) (by omega) (by omega) dL_law_528 ?_
  refine lv_aload_n hx hb dL_law_529 rfl (lv_at hl 1 rfl) ?_
  refine g_callSX (As := [.ref hy, .int (xs (i + 1)), .int (xs (i + 2)), .ref ho]) (rest := []) (n := 4) S hE hI hA (h_ofSlab l K _ L1 L2 M hy ho f0 y (xs (i + 1)) (xs (i + 2)) hlS hy0 hout) gL_law_L_ofSlab rfl (by decide +kernel) ⟨Nat.le_of_ble_eq_true rfl, Nat.le_of_ble_eq_true rfl⟩ rfl hl.1 rfl (Nat.le_of_ble_eq_true rfl) dL_law_530 ⟨by show _ ≤ 601024; omega, by show _ ≤ 7293034; omega⟩ (fun E ce q9 Gx H1 locs1 hx9 => hx9.elim) (fun rv Gc_530 H locs hp hI => ?_)
  obtain ⟨rfl, hY1, ⟨f1, hout1, hv1⟩, ha1⟩ := hp
  have hM1 : MdC K L h0 th Gc_530 y N := hM.moved (fun t ht => ha1 t (by omega) (by omega))
  have hle := h_ofSlab_le (y := y) (x := (xs (i + 1))) (w := (xs (i + 2)))
  refine W.eq (g2 := F0 m 533 ls [.int (nI ((oOfSlab y (xs (i + 1)) (xs (i + 2))).1))]) rfl ?_
  refine lv_istore (lv' := [(5, .int (nI ((oOfSlab y (xs (i + 1)) (xs (i + 2))).1))), (4, .int (nI i)), (3, .ref ho), (2, .ref h0), (1, .ref hy), (0, .ref b)]) hx hb dL_law_533 hl (by decide) rfl (fun ls hl => ?_)
  refine lv_aload_n hx hb dL_law_535 rfl (lv_at hl 3 rfl) ?_
  refine lv_aload_n hx hb dL_law_536 rfl (lv_at hl 5 rfl) ?_
  refine lv_iload hx hb dL_law_537 (lv_at hl 1 rfl) ?_
  refine lv_iconst (v := nI 1) hx hb dL_law_539 (by decide) ?_
  refine t_iadd hx hb dL_law_540 (nI_add _ _) ?_
  refine g_sld S hI hX hbl hbA (j := i + 1) (by omega) (by omega) dL_law_541 ?_
  refine lv_aload_n hx hb dL_law_542 rfl (lv_at hl 5 rfl) ?_
  refine lv_iload hx hb dL_law_543 (lv_at hl 1 rfl) ?_
  refine lv_iconst (v := nI 2) hx hb dL_law_545 (by decide) ?_
  refine t_iadd hx hb dL_law_546 (nI_add _ _) ?_
  refine g_sld S hI hX hbl hbA (j := i + 2) (by omega) (by omega) dL_law_547 ?_
  refine g_callV (As := [.int (xs (i + 1)), .int (xs (i + 2))]) (rest := []) (b := h0) (n := 2) S hE hI hA (p_ofSlab l K _ L h0 th y N (xs (i + 1)) (xs (i + 2)) hM1) gL_law_X8_ofSlab rfl (by decide +kernel) ⟨Nat.le_of_ble_eq_true rfl, Nat.le_of_ble_eq_true rfl⟩ (g_hro hE hI hM1.1 rfl) rfl hl.1 rfl (Nat.le_of_ble_eq_true rfl) dL_law_548 ⟨by show _ ≤ 601024; omega, by show _ ≤ 7293034; omega⟩ (fun E ce q9 Gx H1 locs1 hx9 => hx9.elim) (fun rv Gc_548 H locs hp hI => ?_)
  obtain ⟨L9, N9, x9, rfl, hx9v, hM2, ha2⟩ := hp
  have hY2 := hY1.moved (fun t ht => ha2 t (Or.inl ht))
  have hout2 : Gc_548 (20, 0, 0) = some (ho, .inl (K.2.1 1, 1, .inr (.inl f1))) := (ha2 _ (by decide)).trans hout1
  refine W.eq (g2 := F0 m 551 ls [.int x9]) rfl ?_
  refine lv_istore (lv' := [(6, .int x9), (5, .int (nI ((oOfSlab y (xs (i + 1)) (xs (i + 2))).1))), (4, .int (nI i)), (3, .ref ho), (2, .ref h0), (1, .ref hy), (0, .ref b)]) hx hb dL_law_551 hl (by decide) rfl (fun ls hl => ?_)
  refine lv_aload_n hx hb dL_law_553 rfl (lv_at hl 4 rfl) ?_
  refine g_callV (As := []) (rest := []) (b := h0) (n := 0) S hE hI hA (c_X8_thrown l K _ h0 (oOfSlab y (xs (i + 1)) (xs (i + 2))).1 (L9 30 0) hM2.1 hM2.2.2.1) gL_law_X8_thrown rfl (by decide +kernel) ⟨Nat.le_of_ble_eq_true rfl, Nat.le_of_ble_eq_true rfl⟩ (g_hro hE hI hM2.1 rfl) rfl hl.1 rfl (Nat.le_of_ble_eq_true rfl) dL_law_554 ⟨by show _ ≤ 601024; omega, by show _ ≤ 7293034; omega⟩ (fun E ce q9 Gx H1 locs1 hx9 => hx9.elim) (fun rv Gc_554 H locs hp hI => ?_)
  obtain ⟨rfl, hq9⟩ := hp
  rw [hq9] at hI
  refine W.eq (g2 := F0 m 557 ls [.int (nI ((oOfSlab y (xs (i + 1)) (xs (i + 2))).1))]) rfl ?_
  refine lv_iload hx hb dL_law_557 (lv_at hl 1 rfl) ?_
  refine lv_icmp_eq (tgt := 564) hx hb dL_law_559 (by decide) (fun c_559 => ?_) (fun c_559 => ?_)
  · skip
    have c_559 : ((oOfSlab y (xs (i + 1)) (xs (i + 2))).1) = ((oOfSlab y (xs (i + 1)) (xs (i + 2))).1) := (nI_eq (a := ((oOfSlab y (xs (i + 1)) (xs (i + 2))).1)) (b := ((oOfSlab y (xs (i + 1)) (xs (i + 2))).1)) (by omega) (by omega)).mp c_559
    refine lv_iload hx hb dL_law_564 (lv_at hl 1 rfl) ?_
    refine lv_if_ne (tgt := 581) hx hb dL_law_566 (by decide) (fun c_566 => ?_) (fun c_566 => ?_)
    · skip
      have c_566 : ((oOfSlab y (xs (i + 1)) (xs (i + 2))).1) ≠ 0 := fun z => c_566 ((nI_eq (a := ((oOfSlab y (xs (i + 1)) (xs (i + 2))).1)) (b := 0) (by omega) (by omega)).mpr z)
      refine lv_goto (tgt := 1763) hx hb dL_law_581 (by decide) ?_
      exact W.widen (by omega) (by omega) (kk _ _ _ _ _ hI ⟨hY2, ⟨L9, N9, _, hM2⟩, fr_ofSlab hfr (xs (i + 1)) (xs (i + 2)), f1, hout2⟩ (lv_sub hl [2,3,4,5,6] rfl))
    · skip
      have c_566 : ((oOfSlab y (xs (i + 1)) (xs (i + 2))).1) = 0 := (nI_eq (a := ((oOfSlab y (xs (i + 1)) (xs (i + 2))).1)) (b := 0) (by omega) (by omega)).mp c_566
      refine lv_aload_n hx hb dL_law_569 rfl (lv_at hl 3 rfl) ?_
      refine lv_iconst (v := nI 0) hx hb dL_law_570 (by decide) ?_
      refine g_lald S hE hI (j := 0) (f := f1) hout2 rfl (by omega) (by decide) dL_law_571 ?_
      refine lv_iload hx hb dL_law_572 (lv_at hl 0 rfl) ?_
      refine lv_i2l hx hb dL_law_574 rfl ?_
      refine g_lcmpE hx hb ((hv1 c_566).trans (by rw [hx9v c_566])) dL_law_575 ?_
      refine lv_if_eq (tgt := 581) hx hb dL_law_576 (by decide) (fun c_576 => ?_) (fun c_576 => ?_)
      · skip
        have c_576 : 0 = 0 := (nI_eq (a := 0) (b := 0) (by omega) (by omega)).mp c_576
        refine lv_goto (tgt := 1763) hx hb dL_law_581 (by decide) ?_
        exact W.widen (by omega) (by omega) (kk _ _ _ _ _ hI ⟨hY2, ⟨L9, N9, _, hM2⟩, fr_ofSlab hfr (xs (i + 1)) (xs (i + 2)), f1, hout2⟩ (lv_sub hl [2,3,4,5,6] rfl))
      · skip
        have c_576 : 0 ≠ 0 := fun z => c_576 ((nI_eq (a := 0) (b := 0) (by omega) (by omega)).mpr z)
        exact absurd rfl c_576
  · skip
    have c_559 : ((oOfSlab y (xs (i + 1)) (xs (i + 2))).1) ≠ ((oOfSlab y (xs (i + 1)) (xs (i + 2))).1) := fun z => c_559 ((nI_eq (a := ((oOfSlab y (xs (i + 1)) (xs (i + 2))).1)) (b := ((oOfSlab y (xs (i + 1)) (xs (i + 2))).1)) (by omega) (by omega)).mpr z)
    exact absurd rfl c_559
set_option maxHeartbeats 4000000 in
set_option maxRecDepth 100000 in
theorem k_flawsAt (S : CallFix p m c cL_law 9 s #[Value.ref b] wsL_law RL) (hE : gE K A s s.heap) (hA : ∀ q, s.heap.size ≤ q → A q) (hX : va_X b Ln xs s s.heap) (hbl : b < s.heap.size) (hbA : ¬ A b) (hlS : l.stackTraces = false) (hLn : Ln ≤ 2560) (hI : gI K A s G H locs) (hLI : LI K L1 L2 M hy ho h0 G y) (hi : i + 5 ≤ Ln) (hl : lv_has ls 9 [(4, .int (nI i)), (3, .ref ho), (2, .ref h0), (1, .ref hy), (0, .ref b)]) (hcs : cells + 1040 ≤ 601024 ∧ slots + 12000 ≤ 7293034)
    (kk : ∀ (G1 : gW) (y1 : YV) (H1 : Heap) (locs1 : List Loc) (ls1 : Array Slot), gI K A s G1 H1 locs1 → LI K L1 L2 M hy ho h0 G1 y1 → lv_has ls1 9 [(4, .int (nI i)), (3, .ref ho), (2, .ref h0), (1, .ref hy), (0, .ref b)] → W p l e room_1 s m #[Value.ref b] below meth c H1 locs1 (cells + 1040) (slots + 12000) Q (F0 m 1763 ls1 [])) : W p l e room_1 s m #[Value.ref b] below meth c H locs cells slots Q (F0 m 584 ls []) := by
  have hx := S.1
  have hb := S.2.1
  have hml := S.2.2.1
  obtain ⟨hy0, ⟨L, N, th, hM⟩, hfr, f0, hout⟩ := hLI
  refine lv_aload_n hx hb dL_law_584 rfl (lv_at hl 3 rfl) ?_
  refine lv_aload_n hx hb dL_law_585 rfl (lv_at hl 4 rfl) ?_
  refine lv_iload hx hb dL_law_586 (lv_at hl 0 rfl) ?_
  refine lv_iconst (v := nI 1) hx hb dL_law_588 (by decide) ?_
  refine t_iadd hx hb dL_law_589 (nI_add _ _) ?_
  refine g_sld S hI hX hbl hbA (j := i + 1) (by omega) (by omega) dL_law_590 ?_
  refine lv_aload_n hx hb dL_law_591 rfl (lv_at hl 4 rfl) ?_
  refine lv_iload hx hb dL_law_592 (lv_at hl 0 rfl) ?_
  refine lv_iconst (v := nI 2) hx hb dL_law_594 (by decide) ?_
  refine t_iadd hx hb dL_law_595 (nI_add _ _) ?_
  refine g_sld S hI hX hbl hbA (j := i + 2) (by omega) (by omega) dL_law_596 ?_
  refine lv_aload_n hx hb dL_law_597 rfl (lv_at hl 4 rfl) ?_
  refine lv_iload hx hb dL_law_598 (lv_at hl 0 rfl) ?_
  refine lv_iconst (v := nI 3) hx hb dL_law_600 (by decide) ?_
  refine t_iadd hx hb dL_law_601 (nI_add _ _) ?_
  refine g_sld S hI hX hbl hbA (j := i + 3) (by omega) (by omega) dL_law_602 ?_
  refine lv_aload_n hx hb dL_law_603 rfl (lv_at hl 1 rfl) ?_
  refine g_callSX (As := [.ref hy, .int (xs (i + 1)), .int (xs (i + 2)), .int (xs (i + 3)), .ref ho]) (rest := []) (n := 5) S hE hI hA (h_flawsAt l K _ L1 L2 M hy ho f0 y (xs (i + 1)) (xs (i + 2)) (xs (i + 3)) hlS hy0 hout) gL_law_L_flawsAt rfl (by decide +kernel) ⟨Nat.le_of_ble_eq_true rfl, Nat.le_of_ble_eq_true rfl⟩ rfl hl.1 rfl (Nat.le_of_ble_eq_true rfl) dL_law_604 ⟨by show _ ≤ 601024; omega, by show _ ≤ 7293034; omega⟩ (fun E ce q9 Gx H1 locs1 hx9 => hx9.elim) (fun rv Gc_604 H locs hp hI => ?_)
  obtain ⟨rfl, hY1, ⟨f1, hout1, hv1⟩, ha1⟩ := hp
  have hM1 : MdC K L h0 th Gc_604 y N := hM.moved (fun t ht => ha1 t (by omega) (by omega))
  have hle := h_flawsAt_le (y := y) (x := (xs (i + 1))) (px := (xs (i + 2))) (py := (xs (i + 3)))
  refine W.eq (g2 := F0 m 607 ls [.int (nI ((oFlawsAt y (xs (i + 1)) (xs (i + 2)) (xs (i + 3))).1))]) rfl ?_
  refine lv_istore (lv' := [(5, .int (nI ((oFlawsAt y (xs (i + 1)) (xs (i + 2)) (xs (i + 3))).1))), (4, .int (nI i)), (3, .ref ho), (2, .ref h0), (1, .ref hy), (0, .ref b)]) hx hb dL_law_607 hl (by decide) rfl (fun ls hl => ?_)
  refine lv_aload_n hx hb dL_law_609 rfl (lv_at hl 3 rfl) ?_
  refine lv_aload_n hx hb dL_law_610 rfl (lv_at hl 5 rfl) ?_
  refine lv_iload hx hb dL_law_611 (lv_at hl 1 rfl) ?_
  refine lv_iconst (v := nI 1) hx hb dL_law_613 (by decide) ?_
  refine t_iadd hx hb dL_law_614 (nI_add _ _) ?_
  refine g_sld S hI hX hbl hbA (j := i + 1) (by omega) (by omega) dL_law_615 ?_
  refine lv_aload_n hx hb dL_law_616 rfl (lv_at hl 5 rfl) ?_
  refine lv_iload hx hb dL_law_617 (lv_at hl 1 rfl) ?_
  refine lv_iconst (v := nI 2) hx hb dL_law_619 (by decide) ?_
  refine t_iadd hx hb dL_law_620 (nI_add _ _) ?_
  refine g_sld S hI hX hbl hbA (j := i + 2) (by omega) (by omega) dL_law_621 ?_
  refine lv_aload_n hx hb dL_law_622 rfl (lv_at hl 5 rfl) ?_
  refine lv_iload hx hb dL_law_623 (lv_at hl 1 rfl) ?_
  refine lv_iconst (v := nI 3) hx hb dL_law_625 (by decide) ?_
  refine t_iadd hx hb dL_law_626 (nI_add _ _) ?_
  refine g_sld S hI hX hbl hbA (j := i + 3) (by omega) (by omega) dL_law_627 ?_
  refine g_callV (As := [.int (xs (i + 1)), .int (xs (i + 2)), .int (xs (i + 3))]) (rest := []) (b := h0) (n := 3) S hE hI hA (p_flawsAt l K _ L h0 th y N (xs (i + 1)) (xs (i + 2)) (xs (i + 3)) hM1) gL_law_X8_flawsAt rfl (by decide +kernel) ⟨Nat.le_of_ble_eq_true rfl, Nat.le_of_ble_eq_true rfl⟩ (g_hro hE hI hM1.1 rfl) rfl hl.1 rfl (Nat.le_of_ble_eq_true rfl) dL_law_628 ⟨by show _ ≤ 601024; omega, by show _ ≤ 7293034; omega⟩ (fun E ce q9 Gx H1 locs1 hx9 => hx9.elim) (fun rv Gc_628 H locs hp hI => ?_)
  obtain ⟨L9, N9, x9, rfl, hx9v, hM2, ha2⟩ := hp
  have hY2 := hY1.moved (fun t ht => ha2 t (Or.inl ht))
  have hout2 : Gc_628 (20, 0, 0) = some (ho, .inl (K.2.1 1, 1, .inr (.inl f1))) := (ha2 _ (by decide)).trans hout1
  refine W.eq (g2 := F0 m 631 ls [.int x9]) rfl ?_
  refine lv_istore (lv' := [(6, .int x9), (5, .int (nI ((oFlawsAt y (xs (i + 1)) (xs (i + 2)) (xs (i + 3))).1))), (4, .int (nI i)), (3, .ref ho), (2, .ref h0), (1, .ref hy), (0, .ref b)]) hx hb dL_law_631 hl (by decide) rfl (fun ls hl => ?_)
  refine lv_aload_n hx hb dL_law_633 rfl (lv_at hl 4 rfl) ?_
  refine g_callV (As := []) (rest := []) (b := h0) (n := 0) S hE hI hA (c_X8_thrown l K _ h0 (oFlawsAt y (xs (i + 1)) (xs (i + 2)) (xs (i + 3))).1 (L9 30 0) hM2.1 hM2.2.2.1) gL_law_X8_thrown rfl (by decide +kernel) ⟨Nat.le_of_ble_eq_true rfl, Nat.le_of_ble_eq_true rfl⟩ (g_hro hE hI hM2.1 rfl) rfl hl.1 rfl (Nat.le_of_ble_eq_true rfl) dL_law_634 ⟨by show _ ≤ 601024; omega, by show _ ≤ 7293034; omega⟩ (fun E ce q9 Gx H1 locs1 hx9 => hx9.elim) (fun rv Gc_634 H locs hp hI => ?_)
  obtain ⟨rfl, hq9⟩ := hp
  rw [hq9] at hI
  refine W.eq (g2 := F0 m 637 ls [.int (nI ((oFlawsAt y (xs (i + 1)) (xs (i + 2)) (xs (i + 3))).1))]) rfl ?_
  refine lv_iload hx hb dL_law_637 (lv_at hl 1 rfl) ?_
  refine lv_icmp_eq (tgt := 644) hx hb dL_law_639 (by decide) (fun c_639 => ?_) (fun c_639 => ?_)
  · skip
    have c_639 : ((oFlawsAt y (xs (i + 1)) (xs (i + 2)) (xs (i + 3))).1) = ((oFlawsAt y (xs (i + 1)) (xs (i + 2)) (xs (i + 3))).1) := (nI_eq (a := ((oFlawsAt y (xs (i + 1)) (xs (i + 2)) (xs (i + 3))).1)) (b := ((oFlawsAt y (xs (i + 1)) (xs (i + 2)) (xs (i + 3))).1)) (by omega) (by omega)).mp c_639
    refine lv_iload hx hb dL_law_644 (lv_at hl 1 rfl) ?_
    refine lv_if_ne (tgt := 661) hx hb dL_law_646 (by decide) (fun c_646 => ?_) (fun c_646 => ?_)
    · skip
      have c_646 : ((oFlawsAt y (xs (i + 1)) (xs (i + 2)) (xs (i + 3))).1) ≠ 0 := fun z => c_646 ((nI_eq (a := ((oFlawsAt y (xs (i + 1)) (xs (i + 2)) (xs (i + 3))).1)) (b := 0) (by omega) (by omega)).mpr z)
      refine lv_goto (tgt := 1763) hx hb dL_law_661 (by decide) ?_
      exact W.widen (by omega) (by omega) (kk _ _ _ _ _ hI ⟨hY2, ⟨L9, N9, _, hM2⟩, fr_flawsAt hfr (xs (i + 1)) (xs (i + 2)) (xs (i + 3)), f1, hout2⟩ (lv_sub hl [2,3,4,5,6] rfl))
    · skip
      have c_646 : ((oFlawsAt y (xs (i + 1)) (xs (i + 2)) (xs (i + 3))).1) = 0 := (nI_eq (a := ((oFlawsAt y (xs (i + 1)) (xs (i + 2)) (xs (i + 3))).1)) (b := 0) (by omega) (by omega)).mp c_646
      refine lv_aload_n hx hb dL_law_649 rfl (lv_at hl 3 rfl) ?_
      refine lv_iconst (v := nI 0) hx hb dL_law_650 (by decide) ?_
      refine g_lald S hE hI (j := 0) (f := f1) hout2 rfl (by omega) (by decide) dL_law_651 ?_
      refine lv_iload hx hb dL_law_652 (lv_at hl 0 rfl) ?_
      refine lv_i2l hx hb dL_law_654 rfl ?_
      refine g_lcmpE hx hb ((hv1 c_646).trans (by rw [hx9v c_646])) dL_law_655 ?_
      refine lv_if_eq (tgt := 661) hx hb dL_law_656 (by decide) (fun c_656 => ?_) (fun c_656 => ?_)
      · skip
        have c_656 : 0 = 0 := (nI_eq (a := 0) (b := 0) (by omega) (by omega)).mp c_656
        refine lv_goto (tgt := 1763) hx hb dL_law_661 (by decide) ?_
        exact W.widen (by omega) (by omega) (kk _ _ _ _ _ hI ⟨hY2, ⟨L9, N9, _, hM2⟩, fr_flawsAt hfr (xs (i + 1)) (xs (i + 2)) (xs (i + 3)), f1, hout2⟩ (lv_sub hl [2,3,4,5,6] rfl))
      · skip
        have c_656 : 0 ≠ 0 := fun z => c_656 ((nI_eq (a := 0) (b := 0) (by omega) (by omega)).mpr z)
        exact absurd rfl c_656
  · skip
    have c_639 : ((oFlawsAt y (xs (i + 1)) (xs (i + 2)) (xs (i + 3))).1) ≠ ((oFlawsAt y (xs (i + 1)) (xs (i + 2)) (xs (i + 3))).1) := fun z => c_639 ((nI_eq (a := ((oFlawsAt y (xs (i + 1)) (xs (i + 2)) (xs (i + 3))).1)) (b := ((oFlawsAt y (xs (i + 1)) (xs (i + 2)) (xs (i + 3))).1)) (by omega) (by omega)).mpr z)
    exact absurd rfl c_639
set_option maxHeartbeats 4000000 in
set_option maxRecDepth 100000 in
theorem k_root (S : CallFix p m c cL_law 9 s #[Value.ref b] wsL_law RL) (hE : gE K A s s.heap) (hA : ∀ q, s.heap.size ≤ q → A q) (hX : va_X b Ln xs s s.heap) (hbl : b < s.heap.size) (hbA : ¬ A b) (hlS : l.stackTraces = false) (hLn : Ln ≤ 2560) (hI : gI K A s G H locs) (hLI : LI K L1 L2 M hy ho h0 G y) (hi : i + 5 ≤ Ln) (hl : lv_has ls 9 [(4, .int (nI i)), (3, .ref ho), (2, .ref h0), (1, .ref hy), (0, .ref b)]) (hcs : cells + 1040 ≤ 601024 ∧ slots + 12000 ≤ 7293034)
    (kk : ∀ (G1 : gW) (y1 : YV) (H1 : Heap) (locs1 : List Loc) (ls1 : Array Slot), gI K A s G1 H1 locs1 → LI K L1 L2 M hy ho h0 G1 y1 → lv_has ls1 9 [(4, .int (nI i)), (3, .ref ho), (2, .ref h0), (1, .ref hy), (0, .ref b)] → W p l e room_1 s m #[Value.ref b] below meth c H1 locs1 (cells + 1040) (slots + 12000) Q (F0 m 1763 ls1 [])) : W p l e room_1 s m #[Value.ref b] below meth c H locs cells slots Q (F0 m 664 ls []) := by
  have hx := S.1
  have hb := S.2.1
  have hml := S.2.2.1
  obtain ⟨hy0, ⟨L, N, th, hM⟩, hfr, f0, hout⟩ := hLI
  refine lv_aload_n hx hb dL_law_664 rfl (lv_at hl 3 rfl) ?_
  refine lv_aload_n hx hb dL_law_665 rfl (lv_at hl 4 rfl) ?_
  refine lv_iload hx hb dL_law_666 (lv_at hl 0 rfl) ?_
  refine lv_iconst (v := nI 1) hx hb dL_law_668 (by decide) ?_
  refine t_iadd hx hb dL_law_669 (nI_add _ _) ?_
  refine g_sld S hI hX hbl hbA (j := i + 1) (by omega) (by omega) dL_law_670 ?_
  refine lv_aload_n hx hb dL_law_671 rfl (lv_at hl 1 rfl) ?_
  refine g_callSX (As := [.ref hy, .int (xs (i + 1)), .ref ho]) (rest := []) (n := 3) S hE hI hA (h_root l K _ L1 L2 M hy ho f0 y (xs (i + 1)) hlS hy0 hout hfr) gL_law_L_root rfl (by decide +kernel) ⟨Nat.le_of_ble_eq_true rfl, Nat.le_of_ble_eq_true rfl⟩ rfl hl.1 rfl (Nat.le_of_ble_eq_true rfl) dL_law_672 ⟨by show _ ≤ 601024; omega, by show _ ≤ 7293034; omega⟩ (fun E ce q9 Gx H1 locs1 hx9 => hx9.elim) (fun rv Gc_672 H locs hp hI => ?_)
  obtain ⟨rfl, hY1, ⟨f1, hout1, hv1⟩, ha1⟩ := hp
  have hM1 : MdC K L h0 th Gc_672 y N := hM.moved (fun t ht => ha1 t (by omega) (by omega))
  have hle := h_root_le (y := y) (x := (xs (i + 1)))
  refine W.eq (g2 := F0 m 675 ls [.int (nI ((oRoot y (xs (i + 1))).1))]) rfl ?_
  refine lv_istore (lv' := [(5, .int (nI ((oRoot y (xs (i + 1))).1))), (4, .int (nI i)), (3, .ref ho), (2, .ref h0), (1, .ref hy), (0, .ref b)]) hx hb dL_law_675 hl (by decide) rfl (fun ls hl => ?_)
  refine lv_aload_n hx hb dL_law_677 rfl (lv_at hl 3 rfl) ?_
  refine lv_aload_n hx hb dL_law_678 rfl (lv_at hl 5 rfl) ?_
  refine lv_iload hx hb dL_law_679 (lv_at hl 1 rfl) ?_
  refine lv_iconst (v := nI 1) hx hb dL_law_681 (by decide) ?_
  refine t_iadd hx hb dL_law_682 (nI_add _ _) ?_
  refine g_sld S hI hX hbl hbA (j := i + 1) (by omega) (by omega) dL_law_683 ?_
  refine g_callV (As := [.int (xs (i + 1))]) (rest := []) (b := h0) (n := 1) S hE hI hA (p_root l K _ L h0 th y N (xs (i + 1)) hM1 hfr) gL_law_X8_root rfl (by decide +kernel) ⟨Nat.le_of_ble_eq_true rfl, Nat.le_of_ble_eq_true rfl⟩ (g_hro hE hI hM1.1 rfl) rfl hl.1 rfl (Nat.le_of_ble_eq_true rfl) dL_law_684 ⟨by show _ ≤ 601024; omega, by show _ ≤ 7293034; omega⟩ (fun E ce q9 Gx H1 locs1 hx9 => hx9.elim) (fun rv Gc_684 H locs hp hI => ?_)
  obtain ⟨L9, N9, x9, rfl, hx9v, hM2, ha2⟩ := hp
  have hY2 := hY1.moved (fun t ht => ha2 t (Or.inl ht))
  have hout2 : Gc_684 (20, 0, 0) = some (ho, .inl (K.2.1 1, 1, .inr (.inl f1))) := (ha2 _ (by decide)).trans hout1
  refine W.eq (g2 := F0 m 687 ls [.int x9]) rfl ?_
  refine lv_istore (lv' := [(6, .int x9), (5, .int (nI ((oRoot y (xs (i + 1))).1))), (4, .int (nI i)), (3, .ref ho), (2, .ref h0), (1, .ref hy), (0, .ref b)]) hx hb dL_law_687 hl (by decide) rfl (fun ls hl => ?_)
  refine lv_aload_n hx hb dL_law_689 rfl (lv_at hl 4 rfl) ?_
  refine g_callV (As := []) (rest := []) (b := h0) (n := 0) S hE hI hA (c_X8_thrown l K _ h0 (oRoot y (xs (i + 1))).1 (L9 30 0) hM2.1 hM2.2.2.1) gL_law_X8_thrown rfl (by decide +kernel) ⟨Nat.le_of_ble_eq_true rfl, Nat.le_of_ble_eq_true rfl⟩ (g_hro hE hI hM2.1 rfl) rfl hl.1 rfl (Nat.le_of_ble_eq_true rfl) dL_law_690 ⟨by show _ ≤ 601024; omega, by show _ ≤ 7293034; omega⟩ (fun E ce q9 Gx H1 locs1 hx9 => hx9.elim) (fun rv Gc_690 H locs hp hI => ?_)
  obtain ⟨rfl, hq9⟩ := hp
  rw [hq9] at hI
  refine W.eq (g2 := F0 m 693 ls [.int (nI ((oRoot y (xs (i + 1))).1))]) rfl ?_
  refine lv_iload hx hb dL_law_693 (lv_at hl 1 rfl) ?_
  refine lv_icmp_eq (tgt := 700) hx hb dL_law_695 (by decide) (fun c_695 => ?_) (fun c_695 => ?_)
  · skip
    have c_695 : ((oRoot y (xs (i + 1))).1) = ((oRoot y (xs (i + 1))).1) := (nI_eq (a := ((oRoot y (xs (i + 1))).1)) (b := ((oRoot y (xs (i + 1))).1)) (by omega) (by omega)).mp c_695
    refine lv_iload hx hb dL_law_700 (lv_at hl 1 rfl) ?_
    refine lv_if_ne (tgt := 717) hx hb dL_law_702 (by decide) (fun c_702 => ?_) (fun c_702 => ?_)
    · skip
      have c_702 : ((oRoot y (xs (i + 1))).1) ≠ 0 := fun z => c_702 ((nI_eq (a := ((oRoot y (xs (i + 1))).1)) (b := 0) (by omega) (by omega)).mpr z)
      refine lv_goto (tgt := 1763) hx hb dL_law_717 (by decide) ?_
      exact W.widen (by omega) (by omega) (kk _ _ _ _ _ hI ⟨hY2, ⟨L9, N9, _, hM2⟩, fr_root hfr (xs (i + 1)), f1, hout2⟩ (lv_sub hl [2,3,4,5,6] rfl))
    · skip
      have c_702 : ((oRoot y (xs (i + 1))).1) = 0 := (nI_eq (a := ((oRoot y (xs (i + 1))).1)) (b := 0) (by omega) (by omega)).mp c_702
      refine lv_aload_n hx hb dL_law_705 rfl (lv_at hl 3 rfl) ?_
      refine lv_iconst (v := nI 0) hx hb dL_law_706 (by decide) ?_
      refine g_lald S hE hI (j := 0) (f := f1) hout2 rfl (by omega) (by decide) dL_law_707 ?_
      refine lv_iload hx hb dL_law_708 (lv_at hl 0 rfl) ?_
      refine lv_i2l hx hb dL_law_710 rfl ?_
      refine g_lcmpE hx hb ((hv1 c_702).trans (by rw [hx9v c_702])) dL_law_711 ?_
      refine lv_if_eq (tgt := 717) hx hb dL_law_712 (by decide) (fun c_712 => ?_) (fun c_712 => ?_)
      · skip
        have c_712 : 0 = 0 := (nI_eq (a := 0) (b := 0) (by omega) (by omega)).mp c_712
        refine lv_goto (tgt := 1763) hx hb dL_law_717 (by decide) ?_
        exact W.widen (by omega) (by omega) (kk _ _ _ _ _ hI ⟨hY2, ⟨L9, N9, _, hM2⟩, fr_root hfr (xs (i + 1)), f1, hout2⟩ (lv_sub hl [2,3,4,5,6] rfl))
      · skip
        have c_712 : 0 ≠ 0 := fun z => c_712 ((nI_eq (a := 0) (b := 0) (by omega) (by omega)).mpr z)
        exact absurd rfl c_712
  · skip
    have c_695 : ((oRoot y (xs (i + 1))).1) ≠ ((oRoot y (xs (i + 1))).1) := fun z => c_695 ((nI_eq (a := ((oRoot y (xs (i + 1))).1)) (b := ((oRoot y (xs (i + 1))).1)) (by omega) (by omega)).mpr z)
    exact absurd rfl c_695
set_option maxHeartbeats 4000000 in
set_option maxRecDepth 100000 in
theorem k_kind (S : CallFix p m c cL_law 9 s #[Value.ref b] wsL_law RL) (hE : gE K A s s.heap) (hA : ∀ q, s.heap.size ≤ q → A q) (hX : va_X b Ln xs s s.heap) (hbl : b < s.heap.size) (hbA : ¬ A b) (hlS : l.stackTraces = false) (hLn : Ln ≤ 2560) (hI : gI K A s G H locs) (hLI : LI K L1 L2 M hy ho h0 G y) (hi : i + 5 ≤ Ln) (hl : lv_has ls 9 [(4, .int (nI i)), (3, .ref ho), (2, .ref h0), (1, .ref hy), (0, .ref b)]) (hcs : cells + 1040 ≤ 601024 ∧ slots + 12000 ≤ 7293034)
    (kk : ∀ (G1 : gW) (y1 : YV) (H1 : Heap) (locs1 : List Loc) (ls1 : Array Slot), gI K A s G1 H1 locs1 → LI K L1 L2 M hy ho h0 G1 y1 → lv_has ls1 9 [(4, .int (nI i)), (3, .ref ho), (2, .ref h0), (1, .ref hy), (0, .ref b)] → W p l e room_1 s m #[Value.ref b] below meth c H1 locs1 (cells + 1040) (slots + 12000) Q (F0 m 1763 ls1 [])) : W p l e room_1 s m #[Value.ref b] below meth c H locs cells slots Q (F0 m 720 ls []) := by
  have hx := S.1
  have hb := S.2.1
  have hml := S.2.2.1
  obtain ⟨hy0, ⟨L, N, th, hM⟩, hfr, f0, hout⟩ := hLI
  refine lv_aload_n hx hb dL_law_720 rfl (lv_at hl 3 rfl) ?_
  refine lv_aload_n hx hb dL_law_721 rfl (lv_at hl 4 rfl) ?_
  refine lv_iload hx hb dL_law_722 (lv_at hl 0 rfl) ?_
  refine lv_iconst (v := nI 1) hx hb dL_law_724 (by decide) ?_
  refine t_iadd hx hb dL_law_725 (nI_add _ _) ?_
  refine g_sld S hI hX hbl hbA (j := i + 1) (by omega) (by omega) dL_law_726 ?_
  refine lv_aload_n hx hb dL_law_727 rfl (lv_at hl 4 rfl) ?_
  refine lv_iload hx hb dL_law_728 (lv_at hl 0 rfl) ?_
  refine lv_iconst (v := nI 2) hx hb dL_law_730 (by decide) ?_
  refine t_iadd hx hb dL_law_731 (nI_add _ _) ?_
  refine g_sld S hI hX hbl hbA (j := i + 2) (by omega) (by omega) dL_law_732 ?_
  refine lv_aload_n hx hb dL_law_733 rfl (lv_at hl 4 rfl) ?_
  refine lv_iload hx hb dL_law_734 (lv_at hl 0 rfl) ?_
  refine lv_iconst (v := nI 3) hx hb dL_law_736 (by decide) ?_
  refine t_iadd hx hb dL_law_737 (nI_add _ _) ?_
  refine g_sld S hI hX hbl hbA (j := i + 3) (by omega) (by omega) dL_law_738 ?_
  refine lv_aload_n hx hb dL_law_739 rfl (lv_at hl 1 rfl) ?_
  refine g_callSX (As := [.ref hy, .int (xs (i + 1)), .int (xs (i + 2)), .int (xs (i + 3)), .ref ho]) (rest := []) (n := 5) S hE hI hA (h_kind l K _ L1 L2 M hy ho f0 y (xs (i + 1)) (xs (i + 2)) (xs (i + 3)) hlS hy0 hout) gL_law_L_kind rfl (by decide +kernel) ⟨Nat.le_of_ble_eq_true rfl, Nat.le_of_ble_eq_true rfl⟩ rfl hl.1 rfl (Nat.le_of_ble_eq_true rfl) dL_law_740 ⟨by show _ ≤ 601024; omega, by show _ ≤ 7293034; omega⟩ (fun E ce q9 Gx H1 locs1 hx9 => hx9.elim) (fun rv Gc_740 H locs hp hI => ?_)
  obtain ⟨rfl, hY1, ⟨f1, hout1, hv1⟩, ha1⟩ := hp
  have hM1 : MdC K L h0 th Gc_740 y N := hM.moved (fun t ht => ha1 t (by omega) (by omega))
  have hle := h_kind_le (y := y) (a := (xs (i + 1))) (b := (xs (i + 2))) (q := (xs (i + 3)))
  refine W.eq (g2 := F0 m 743 ls [.int (nI ((oKind y (xs (i + 1)) (xs (i + 2)) (xs (i + 3))).1))]) rfl ?_
  refine lv_istore (lv' := [(5, .int (nI ((oKind y (xs (i + 1)) (xs (i + 2)) (xs (i + 3))).1))), (4, .int (nI i)), (3, .ref ho), (2, .ref h0), (1, .ref hy), (0, .ref b)]) hx hb dL_law_743 hl (by decide) rfl (fun ls hl => ?_)
  refine lv_aload_n hx hb dL_law_745 rfl (lv_at hl 3 rfl) ?_
  refine lv_aload_n hx hb dL_law_746 rfl (lv_at hl 5 rfl) ?_
  refine lv_iload hx hb dL_law_747 (lv_at hl 1 rfl) ?_
  refine lv_iconst (v := nI 1) hx hb dL_law_749 (by decide) ?_
  refine t_iadd hx hb dL_law_750 (nI_add _ _) ?_
  refine g_sld S hI hX hbl hbA (j := i + 1) (by omega) (by omega) dL_law_751 ?_
  refine lv_aload_n hx hb dL_law_752 rfl (lv_at hl 5 rfl) ?_
  refine lv_iload hx hb dL_law_753 (lv_at hl 1 rfl) ?_
  refine lv_iconst (v := nI 2) hx hb dL_law_755 (by decide) ?_
  refine t_iadd hx hb dL_law_756 (nI_add _ _) ?_
  refine g_sld S hI hX hbl hbA (j := i + 2) (by omega) (by omega) dL_law_757 ?_
  refine lv_aload_n hx hb dL_law_758 rfl (lv_at hl 5 rfl) ?_
  refine lv_iload hx hb dL_law_759 (lv_at hl 1 rfl) ?_
  refine lv_iconst (v := nI 3) hx hb dL_law_761 (by decide) ?_
  refine t_iadd hx hb dL_law_762 (nI_add _ _) ?_
  refine g_sld S hI hX hbl hbA (j := i + 3) (by omega) (by omega) dL_law_763 ?_
  refine g_callV (As := [.int (xs (i + 1)), .int (xs (i + 2)), .int (xs (i + 3))]) (rest := []) (b := h0) (n := 3) S hE hI hA (p_kind l K _ L h0 th y N (xs (i + 1)) (xs (i + 2)) (xs (i + 3)) hM1) gL_law_X8_kind rfl (by decide +kernel) ⟨Nat.le_of_ble_eq_true rfl, Nat.le_of_ble_eq_true rfl⟩ (g_hro hE hI hM1.1 rfl) rfl hl.1 rfl (Nat.le_of_ble_eq_true rfl) dL_law_764 ⟨by show _ ≤ 601024; omega, by show _ ≤ 7293034; omega⟩ (fun E ce q9 Gx H1 locs1 hx9 => hx9.elim) (fun rv Gc_764 H locs hp hI => ?_)
  obtain ⟨L9, N9, x9, rfl, hx9v, hM2, ha2⟩ := hp
  have hY2 := hY1.moved (fun t ht => ha2 t (Or.inl ht))
  have hout2 : Gc_764 (20, 0, 0) = some (ho, .inl (K.2.1 1, 1, .inr (.inl f1))) := (ha2 _ (by decide)).trans hout1
  refine W.eq (g2 := F0 m 767 ls [.int x9]) rfl ?_
  refine lv_istore (lv' := [(6, .int x9), (5, .int (nI ((oKind y (xs (i + 1)) (xs (i + 2)) (xs (i + 3))).1))), (4, .int (nI i)), (3, .ref ho), (2, .ref h0), (1, .ref hy), (0, .ref b)]) hx hb dL_law_767 hl (by decide) rfl (fun ls hl => ?_)
  refine lv_aload_n hx hb dL_law_769 rfl (lv_at hl 4 rfl) ?_
  refine g_callV (As := []) (rest := []) (b := h0) (n := 0) S hE hI hA (c_X8_thrown l K _ h0 (oKind y (xs (i + 1)) (xs (i + 2)) (xs (i + 3))).1 (L9 30 0) hM2.1 hM2.2.2.1) gL_law_X8_thrown rfl (by decide +kernel) ⟨Nat.le_of_ble_eq_true rfl, Nat.le_of_ble_eq_true rfl⟩ (g_hro hE hI hM2.1 rfl) rfl hl.1 rfl (Nat.le_of_ble_eq_true rfl) dL_law_770 ⟨by show _ ≤ 601024; omega, by show _ ≤ 7293034; omega⟩ (fun E ce q9 Gx H1 locs1 hx9 => hx9.elim) (fun rv Gc_770 H locs hp hI => ?_)
  obtain ⟨rfl, hq9⟩ := hp
  rw [hq9] at hI
  refine W.eq (g2 := F0 m 773 ls [.int (nI ((oKind y (xs (i + 1)) (xs (i + 2)) (xs (i + 3))).1))]) rfl ?_
  refine lv_iload hx hb dL_law_773 (lv_at hl 1 rfl) ?_
  refine lv_icmp_eq (tgt := 780) hx hb dL_law_775 (by decide) (fun c_775 => ?_) (fun c_775 => ?_)
  · skip
    have c_775 : ((oKind y (xs (i + 1)) (xs (i + 2)) (xs (i + 3))).1) = ((oKind y (xs (i + 1)) (xs (i + 2)) (xs (i + 3))).1) := (nI_eq (a := ((oKind y (xs (i + 1)) (xs (i + 2)) (xs (i + 3))).1)) (b := ((oKind y (xs (i + 1)) (xs (i + 2)) (xs (i + 3))).1)) (by omega) (by omega)).mp c_775
    refine lv_iload hx hb dL_law_780 (lv_at hl 1 rfl) ?_
    refine lv_if_ne (tgt := 797) hx hb dL_law_782 (by decide) (fun c_782 => ?_) (fun c_782 => ?_)
    · skip
      have c_782 : ((oKind y (xs (i + 1)) (xs (i + 2)) (xs (i + 3))).1) ≠ 0 := fun z => c_782 ((nI_eq (a := ((oKind y (xs (i + 1)) (xs (i + 2)) (xs (i + 3))).1)) (b := 0) (by omega) (by omega)).mpr z)
      refine lv_goto (tgt := 1763) hx hb dL_law_797 (by decide) ?_
      exact W.widen (by omega) (by omega) (kk _ _ _ _ _ hI ⟨hY2, ⟨L9, N9, _, hM2⟩, fr_kind hfr (xs (i + 1)) (xs (i + 2)) (xs (i + 3)), f1, hout2⟩ (lv_sub hl [2,3,4,5,6] rfl))
    · skip
      have c_782 : ((oKind y (xs (i + 1)) (xs (i + 2)) (xs (i + 3))).1) = 0 := (nI_eq (a := ((oKind y (xs (i + 1)) (xs (i + 2)) (xs (i + 3))).1)) (b := 0) (by omega) (by omega)).mp c_782
      refine lv_aload_n hx hb dL_law_785 rfl (lv_at hl 3 rfl) ?_
      refine lv_iconst (v := nI 0) hx hb dL_law_786 (by decide) ?_
      refine g_lald S hE hI (j := 0) (f := f1) hout2 rfl (by omega) (by decide) dL_law_787 ?_
      refine lv_iload hx hb dL_law_788 (lv_at hl 0 rfl) ?_
      refine lv_i2l hx hb dL_law_790 rfl ?_
      refine g_lcmpE hx hb ((hv1 c_782).trans (by rw [hx9v c_782])) dL_law_791 ?_
      refine lv_if_eq (tgt := 797) hx hb dL_law_792 (by decide) (fun c_792 => ?_) (fun c_792 => ?_)
      · skip
        have c_792 : 0 = 0 := (nI_eq (a := 0) (b := 0) (by omega) (by omega)).mp c_792
        refine lv_goto (tgt := 1763) hx hb dL_law_797 (by decide) ?_
        exact W.widen (by omega) (by omega) (kk _ _ _ _ _ hI ⟨hY2, ⟨L9, N9, _, hM2⟩, fr_kind hfr (xs (i + 1)) (xs (i + 2)) (xs (i + 3)), f1, hout2⟩ (lv_sub hl [2,3,4,5,6] rfl))
      · skip
        have c_792 : 0 ≠ 0 := fun z => c_792 ((nI_eq (a := 0) (b := 0) (by omega) (by omega)).mpr z)
        exact absurd rfl c_792
  · skip
    have c_775 : ((oKind y (xs (i + 1)) (xs (i + 2)) (xs (i + 3))).1) ≠ ((oKind y (xs (i + 1)) (xs (i + 2)) (xs (i + 3))).1) := fun z => c_775 ((nI_eq (a := ((oKind y (xs (i + 1)) (xs (i + 2)) (xs (i + 3))).1)) (b := ((oKind y (xs (i + 1)) (xs (i + 2)) (xs (i + 3))).1)) (by omega) (by omega)).mpr z)
    exact absurd rfl c_775
set_option maxHeartbeats 4000000 in
set_option maxRecDepth 100000 in
theorem k_let (S : CallFix p m c cL_law 9 s #[Value.ref b] wsL_law RL) (hE : gE K A s s.heap) (hA : ∀ q, s.heap.size ≤ q → A q) (hX : va_X b Ln xs s s.heap) (hbl : b < s.heap.size) (hbA : ¬ A b) (hlS : l.stackTraces = false) (hLn : Ln ≤ 2560) (hI : gI K A s G H locs) (hLI : LI K L1 L2 M hy ho h0 G y) (hi : i + 5 ≤ Ln) (hl : lv_has ls 9 [(4, .int (nI i)), (3, .ref ho), (2, .ref h0), (1, .ref hy), (0, .ref b)]) (hcs : cells + 1040 ≤ 601024 ∧ slots + 12000 ≤ 7293034)
    (kk : ∀ (G1 : gW) (y1 : YV) (H1 : Heap) (locs1 : List Loc) (ls1 : Array Slot), gI K A s G1 H1 locs1 → LI K L1 L2 M hy ho h0 G1 y1 → lv_has ls1 9 [(4, .int (nI i)), (3, .ref ho), (2, .ref h0), (1, .ref hy), (0, .ref b)] → W p l e room_1 s m #[Value.ref b] below meth c H1 locs1 (cells + 1040) (slots + 12000) Q (F0 m 1763 ls1 [])) : W p l e room_1 s m #[Value.ref b] below meth c H locs cells slots Q (F0 m 800 ls []) := by
  have hx := S.1
  have hb := S.2.1
  have hml := S.2.2.1
  obtain ⟨hy0, ⟨L, N, th, hM⟩, hfr, f0, hout⟩ := hLI
  refine lv_aload_n hx hb dL_law_800 rfl (lv_at hl 3 rfl) ?_
  refine lv_aload_n hx hb dL_law_801 rfl (lv_at hl 4 rfl) ?_
  refine lv_iload hx hb dL_law_802 (lv_at hl 0 rfl) ?_
  refine lv_iconst (v := nI 1) hx hb dL_law_804 (by decide) ?_
  refine t_iadd hx hb dL_law_805 (nI_add _ _) ?_
  refine g_sld S hI hX hbl hbA (j := i + 1) (by omega) (by omega) dL_law_806 ?_
  refine lv_aload_n hx hb dL_law_807 rfl (lv_at hl 4 rfl) ?_
  refine lv_iload hx hb dL_law_808 (lv_at hl 0 rfl) ?_
  refine lv_iconst (v := nI 2) hx hb dL_law_810 (by decide) ?_
  refine t_iadd hx hb dL_law_811 (nI_add _ _) ?_
  refine g_sld S hI hX hbl hbA (j := i + 2) (by omega) (by omega) dL_law_812 ?_
  refine lv_aload_n hx hb dL_law_813 rfl (lv_at hl 4 rfl) ?_
  refine lv_iload hx hb dL_law_814 (lv_at hl 0 rfl) ?_
  refine lv_iconst (v := nI 3) hx hb dL_law_816 (by decide) ?_
  refine t_iadd hx hb dL_law_817 (nI_add _ _) ?_
  refine g_sld S hI hX hbl hbA (j := i + 3) (by omega) (by omega) dL_law_818 ?_
  refine lv_aload_n hx hb dL_law_819 rfl (lv_at hl 1 rfl) ?_
  refine g_callSX (As := [.ref hy, .int (xs (i + 1)), .int (xs (i + 2)), .int (xs (i + 3)), .ref ho]) (rest := []) (n := 5) S hE hI hA (h_let l K _ L1 L2 M hy ho f0 y (xs (i + 1)) (xs (i + 2)) (xs (i + 3)) hlS hy0 hout) gL_law_L_let rfl (by decide +kernel) ⟨Nat.le_of_ble_eq_true rfl, Nat.le_of_ble_eq_true rfl⟩ rfl hl.1 rfl (Nat.le_of_ble_eq_true rfl) dL_law_820 ⟨by show _ ≤ 601024; omega, by show _ ≤ 7293034; omega⟩ (fun E ce q9 Gx H1 locs1 hx9 => hx9.elim) (fun rv Gc_820 H locs hp hI => ?_)
  obtain ⟨rfl, hY1, ⟨f1, hout1, hv1⟩, ha1⟩ := hp
  have hM1 : MdC K L h0 th Gc_820 y N := hM.moved (fun t ht => ha1 t (by omega) (by omega))
  have hle := h_let_le (y := y) (x := (xs (i + 1))) (w := (xs (i + 2))) (q := (xs (i + 3)))
  refine W.eq (g2 := F0 m 823 ls [.int (nI ((oLet y (xs (i + 1)) (xs (i + 2)) (xs (i + 3))).1))]) rfl ?_
  refine lv_istore (lv' := [(5, .int (nI ((oLet y (xs (i + 1)) (xs (i + 2)) (xs (i + 3))).1))), (4, .int (nI i)), (3, .ref ho), (2, .ref h0), (1, .ref hy), (0, .ref b)]) hx hb dL_law_823 hl (by decide) rfl (fun ls hl => ?_)
  refine lv_aload_n hx hb dL_law_825 rfl (lv_at hl 3 rfl) ?_
  refine lv_aload_n hx hb dL_law_826 rfl (lv_at hl 5 rfl) ?_
  refine lv_iload hx hb dL_law_827 (lv_at hl 1 rfl) ?_
  refine lv_iconst (v := nI 1) hx hb dL_law_829 (by decide) ?_
  refine t_iadd hx hb dL_law_830 (nI_add _ _) ?_
  refine g_sld S hI hX hbl hbA (j := i + 1) (by omega) (by omega) dL_law_831 ?_
  refine lv_aload_n hx hb dL_law_832 rfl (lv_at hl 5 rfl) ?_
  refine lv_iload hx hb dL_law_833 (lv_at hl 1 rfl) ?_
  refine lv_iconst (v := nI 2) hx hb dL_law_835 (by decide) ?_
  refine t_iadd hx hb dL_law_836 (nI_add _ _) ?_
  refine g_sld S hI hX hbl hbA (j := i + 2) (by omega) (by omega) dL_law_837 ?_
  refine lv_aload_n hx hb dL_law_838 rfl (lv_at hl 5 rfl) ?_
  refine lv_iload hx hb dL_law_839 (lv_at hl 1 rfl) ?_
  refine lv_iconst (v := nI 3) hx hb dL_law_841 (by decide) ?_
  refine t_iadd hx hb dL_law_842 (nI_add _ _) ?_
  refine g_sld S hI hX hbl hbA (j := i + 3) (by omega) (by omega) dL_law_843 ?_
  refine g_callV (As := [.int (xs (i + 1)), .int (xs (i + 2)), .int (xs (i + 3))]) (rest := []) (b := h0) (n := 3) S hE hI hA (p_let l K _ L h0 th y N (xs (i + 1)) (xs (i + 2)) (xs (i + 3)) hM1) gL_law_X8_let rfl (by decide +kernel) ⟨Nat.le_of_ble_eq_true rfl, Nat.le_of_ble_eq_true rfl⟩ (g_hro hE hI hM1.1 rfl) rfl hl.1 rfl (Nat.le_of_ble_eq_true rfl) dL_law_844 ⟨by show _ ≤ 601024; omega, by show _ ≤ 7293034; omega⟩ (fun E ce q9 Gx H1 locs1 hx9 => hx9.elim) (fun rv Gc_844 H locs hp hI => ?_)
  obtain ⟨L9, N9, x9, rfl, hx9v, hM2, ha2⟩ := hp
  have hY2 := hY1.moved (fun t ht => ha2 t (Or.inl ht))
  have hout2 : Gc_844 (20, 0, 0) = some (ho, .inl (K.2.1 1, 1, .inr (.inl f1))) := (ha2 _ (by decide)).trans hout1
  refine W.eq (g2 := F0 m 847 ls [.int x9]) rfl ?_
  refine lv_istore (lv' := [(6, .int x9), (5, .int (nI ((oLet y (xs (i + 1)) (xs (i + 2)) (xs (i + 3))).1))), (4, .int (nI i)), (3, .ref ho), (2, .ref h0), (1, .ref hy), (0, .ref b)]) hx hb dL_law_847 hl (by decide) rfl (fun ls hl => ?_)
  refine lv_aload_n hx hb dL_law_849 rfl (lv_at hl 4 rfl) ?_
  refine g_callV (As := []) (rest := []) (b := h0) (n := 0) S hE hI hA (c_X8_thrown l K _ h0 (oLet y (xs (i + 1)) (xs (i + 2)) (xs (i + 3))).1 (L9 30 0) hM2.1 hM2.2.2.1) gL_law_X8_thrown rfl (by decide +kernel) ⟨Nat.le_of_ble_eq_true rfl, Nat.le_of_ble_eq_true rfl⟩ (g_hro hE hI hM2.1 rfl) rfl hl.1 rfl (Nat.le_of_ble_eq_true rfl) dL_law_850 ⟨by show _ ≤ 601024; omega, by show _ ≤ 7293034; omega⟩ (fun E ce q9 Gx H1 locs1 hx9 => hx9.elim) (fun rv Gc_850 H locs hp hI => ?_)
  obtain ⟨rfl, hq9⟩ := hp
  rw [hq9] at hI
  refine W.eq (g2 := F0 m 853 ls [.int (nI ((oLet y (xs (i + 1)) (xs (i + 2)) (xs (i + 3))).1))]) rfl ?_
  refine lv_iload hx hb dL_law_853 (lv_at hl 1 rfl) ?_
  refine lv_icmp_eq (tgt := 860) hx hb dL_law_855 (by decide) (fun c_855 => ?_) (fun c_855 => ?_)
  · skip
    have c_855 : ((oLet y (xs (i + 1)) (xs (i + 2)) (xs (i + 3))).1) = ((oLet y (xs (i + 1)) (xs (i + 2)) (xs (i + 3))).1) := (nI_eq (a := ((oLet y (xs (i + 1)) (xs (i + 2)) (xs (i + 3))).1)) (b := ((oLet y (xs (i + 1)) (xs (i + 2)) (xs (i + 3))).1)) (by omega) (by omega)).mp c_855
    refine lv_iload hx hb dL_law_860 (lv_at hl 1 rfl) ?_
    refine lv_if_ne (tgt := 877) hx hb dL_law_862 (by decide) (fun c_862 => ?_) (fun c_862 => ?_)
    · skip
      have c_862 : ((oLet y (xs (i + 1)) (xs (i + 2)) (xs (i + 3))).1) ≠ 0 := fun z => c_862 ((nI_eq (a := ((oLet y (xs (i + 1)) (xs (i + 2)) (xs (i + 3))).1)) (b := 0) (by omega) (by omega)).mpr z)
      refine lv_goto (tgt := 1763) hx hb dL_law_877 (by decide) ?_
      exact W.widen (by omega) (by omega) (kk _ _ _ _ _ hI ⟨hY2, ⟨L9, N9, _, hM2⟩, fr_let hfr (xs (i + 1)) (xs (i + 2)) (xs (i + 3)), f1, hout2⟩ (lv_sub hl [2,3,4,5,6] rfl))
    · skip
      have c_862 : ((oLet y (xs (i + 1)) (xs (i + 2)) (xs (i + 3))).1) = 0 := (nI_eq (a := ((oLet y (xs (i + 1)) (xs (i + 2)) (xs (i + 3))).1)) (b := 0) (by omega) (by omega)).mp c_862
      refine lv_aload_n hx hb dL_law_865 rfl (lv_at hl 3 rfl) ?_
      refine lv_iconst (v := nI 0) hx hb dL_law_866 (by decide) ?_
      refine g_lald S hE hI (j := 0) (f := f1) hout2 rfl (by omega) (by decide) dL_law_867 ?_
      refine lv_iload hx hb dL_law_868 (lv_at hl 0 rfl) ?_
      refine lv_i2l hx hb dL_law_870 rfl ?_
      refine g_lcmpE hx hb ((hv1 c_862).trans (by rw [hx9v c_862])) dL_law_871 ?_
      refine lv_if_eq (tgt := 877) hx hb dL_law_872 (by decide) (fun c_872 => ?_) (fun c_872 => ?_)
      · skip
        have c_872 : 0 = 0 := (nI_eq (a := 0) (b := 0) (by omega) (by omega)).mp c_872
        refine lv_goto (tgt := 1763) hx hb dL_law_877 (by decide) ?_
        exact W.widen (by omega) (by omega) (kk _ _ _ _ _ hI ⟨hY2, ⟨L9, N9, _, hM2⟩, fr_let hfr (xs (i + 1)) (xs (i + 2)) (xs (i + 3)), f1, hout2⟩ (lv_sub hl [2,3,4,5,6] rfl))
      · skip
        have c_872 : 0 ≠ 0 := fun z => c_872 ((nI_eq (a := 0) (b := 0) (by omega) (by omega)).mpr z)
        exact absurd rfl c_872
  · skip
    have c_855 : ((oLet y (xs (i + 1)) (xs (i + 2)) (xs (i + 3))).1) ≠ ((oLet y (xs (i + 1)) (xs (i + 2)) (xs (i + 3))).1) := fun z => c_855 ((nI_eq (a := ((oLet y (xs (i + 1)) (xs (i + 2)) (xs (i + 3))).1)) (b := ((oLet y (xs (i + 1)) (xs (i + 2)) (xs (i + 3))).1)) (by omega) (by omega)).mpr z)
    exact absurd rfl c_855
set_option maxHeartbeats 4000000 in
set_option maxRecDepth 100000 in
theorem k_order (S : CallFix p m c cL_law 9 s #[Value.ref b] wsL_law RL) (hE : gE K A s s.heap) (hA : ∀ q, s.heap.size ≤ q → A q) (hX : va_X b Ln xs s s.heap) (hbl : b < s.heap.size) (hbA : ¬ A b) (hlS : l.stackTraces = false) (hLn : Ln ≤ 2560) (hI : gI K A s G H locs) (hLI : LI K L1 L2 M hy ho h0 G y) (hi : i + 5 ≤ Ln) (hl : lv_has ls 9 [(4, .int (nI i)), (3, .ref ho), (2, .ref h0), (1, .ref hy), (0, .ref b)]) (hcs : cells + 1040 ≤ 601024 ∧ slots + 12000 ≤ 7293034)
    (kk : ∀ (G1 : gW) (y1 : YV) (H1 : Heap) (locs1 : List Loc) (ls1 : Array Slot), gI K A s G1 H1 locs1 → LI K L1 L2 M hy ho h0 G1 y1 → lv_has ls1 9 [(4, .int (nI i)), (3, .ref ho), (2, .ref h0), (1, .ref hy), (0, .ref b)] → W p l e room_1 s m #[Value.ref b] below meth c H1 locs1 (cells + 1040) (slots + 12000) Q (F0 m 1763 ls1 [])) : W p l e room_1 s m #[Value.ref b] below meth c H locs cells slots Q (F0 m 880 ls []) := by
  have hx := S.1
  have hb := S.2.1
  have hml := S.2.2.1
  obtain ⟨hy0, ⟨L, N, th, hM⟩, hfr, f0, hout⟩ := hLI
  refine lv_aload_n hx hb dL_law_880 rfl (lv_at hl 3 rfl) ?_
  refine lv_aload_n hx hb dL_law_881 rfl (lv_at hl 4 rfl) ?_
  refine lv_iload hx hb dL_law_882 (lv_at hl 0 rfl) ?_
  refine lv_iconst (v := nI 1) hx hb dL_law_884 (by decide) ?_
  refine t_iadd hx hb dL_law_885 (nI_add _ _) ?_
  refine g_sld S hI hX hbl hbA (j := i + 1) (by omega) (by omega) dL_law_886 ?_
  refine lv_aload_n hx hb dL_law_887 rfl (lv_at hl 4 rfl) ?_
  refine lv_iload hx hb dL_law_888 (lv_at hl 0 rfl) ?_
  refine lv_iconst (v := nI 2) hx hb dL_law_890 (by decide) ?_
  refine t_iadd hx hb dL_law_891 (nI_add _ _) ?_
  refine g_sld S hI hX hbl hbA (j := i + 2) (by omega) (by omega) dL_law_892 ?_
  refine lv_aload_n hx hb dL_law_893 rfl (lv_at hl 1 rfl) ?_
  refine g_callSX (As := [.ref hy, .int (xs (i + 1)), .int (xs (i + 2)), .ref ho]) (rest := []) (n := 4) S hE hI hA (h_order l K _ L1 L2 M hy ho f0 y (xs (i + 1)) (xs (i + 2)) hlS hy0 hout) gL_law_L_order rfl (by decide +kernel) ⟨Nat.le_of_ble_eq_true rfl, Nat.le_of_ble_eq_true rfl⟩ rfl hl.1 rfl (Nat.le_of_ble_eq_true rfl) dL_law_894 ⟨by show _ ≤ 601024; omega, by show _ ≤ 7293034; omega⟩ (fun E ce q9 Gx H1 locs1 hx9 => hx9.elim) (fun rv Gc_894 H locs hp hI => ?_)
  obtain ⟨rfl, hY1, ⟨f1, hout1, hv1⟩, ha1⟩ := hp
  have hM1 : MdC K L h0 th Gc_894 y N := hM.moved (fun t ht => ha1 t (by omega) (by omega))
  have hle := h_order_le (y := y) (x := (xs (i + 1))) (q := (xs (i + 2)))
  refine W.eq (g2 := F0 m 897 ls [.int (nI ((oOrder y (xs (i + 1)) (xs (i + 2))).1))]) rfl ?_
  refine lv_istore (lv' := [(5, .int (nI ((oOrder y (xs (i + 1)) (xs (i + 2))).1))), (4, .int (nI i)), (3, .ref ho), (2, .ref h0), (1, .ref hy), (0, .ref b)]) hx hb dL_law_897 hl (by decide) rfl (fun ls hl => ?_)
  refine lv_aload_n hx hb dL_law_899 rfl (lv_at hl 3 rfl) ?_
  refine lv_aload_n hx hb dL_law_900 rfl (lv_at hl 5 rfl) ?_
  refine lv_iload hx hb dL_law_901 (lv_at hl 1 rfl) ?_
  refine lv_iconst (v := nI 1) hx hb dL_law_903 (by decide) ?_
  refine t_iadd hx hb dL_law_904 (nI_add _ _) ?_
  refine g_sld S hI hX hbl hbA (j := i + 1) (by omega) (by omega) dL_law_905 ?_
  refine lv_aload_n hx hb dL_law_906 rfl (lv_at hl 5 rfl) ?_
  refine lv_iload hx hb dL_law_907 (lv_at hl 1 rfl) ?_
  refine lv_iconst (v := nI 2) hx hb dL_law_909 (by decide) ?_
  refine t_iadd hx hb dL_law_910 (nI_add _ _) ?_
  refine g_sld S hI hX hbl hbA (j := i + 2) (by omega) (by omega) dL_law_911 ?_
  refine g_callV (As := [.int (xs (i + 1)), .int (xs (i + 2))]) (rest := []) (b := h0) (n := 2) S hE hI hA (p_order l K _ L h0 th y N (xs (i + 1)) (xs (i + 2)) hM1) gL_law_X8_order rfl (by decide +kernel) ⟨Nat.le_of_ble_eq_true rfl, Nat.le_of_ble_eq_true rfl⟩ (g_hro hE hI hM1.1 rfl) rfl hl.1 rfl (Nat.le_of_ble_eq_true rfl) dL_law_912 ⟨by show _ ≤ 601024; omega, by show _ ≤ 7293034; omega⟩ (fun E ce q9 Gx H1 locs1 hx9 => hx9.elim) (fun rv Gc_912 H locs hp hI => ?_)
  obtain ⟨L9, N9, x9, rfl, hx9v, hM2, ha2⟩ := hp
  have hY2 := hY1.moved (fun t ht => ha2 t (Or.inl ht))
  have hout2 : Gc_912 (20, 0, 0) = some (ho, .inl (K.2.1 1, 1, .inr (.inl f1))) := (ha2 _ (by decide)).trans hout1
  refine W.eq (g2 := F0 m 915 ls [.int x9]) rfl ?_
  refine lv_istore (lv' := [(6, .int x9), (5, .int (nI ((oOrder y (xs (i + 1)) (xs (i + 2))).1))), (4, .int (nI i)), (3, .ref ho), (2, .ref h0), (1, .ref hy), (0, .ref b)]) hx hb dL_law_915 hl (by decide) rfl (fun ls hl => ?_)
  refine lv_aload_n hx hb dL_law_917 rfl (lv_at hl 4 rfl) ?_
  refine g_callV (As := []) (rest := []) (b := h0) (n := 0) S hE hI hA (c_X8_thrown l K _ h0 (oOrder y (xs (i + 1)) (xs (i + 2))).1 (L9 30 0) hM2.1 hM2.2.2.1) gL_law_X8_thrown rfl (by decide +kernel) ⟨Nat.le_of_ble_eq_true rfl, Nat.le_of_ble_eq_true rfl⟩ (g_hro hE hI hM2.1 rfl) rfl hl.1 rfl (Nat.le_of_ble_eq_true rfl) dL_law_918 ⟨by show _ ≤ 601024; omega, by show _ ≤ 7293034; omega⟩ (fun E ce q9 Gx H1 locs1 hx9 => hx9.elim) (fun rv Gc_918 H locs hp hI => ?_)
  obtain ⟨rfl, hq9⟩ := hp
  rw [hq9] at hI
  refine W.eq (g2 := F0 m 921 ls [.int (nI ((oOrder y (xs (i + 1)) (xs (i + 2))).1))]) rfl ?_
  refine lv_iload hx hb dL_law_921 (lv_at hl 1 rfl) ?_
  refine lv_icmp_eq (tgt := 928) hx hb dL_law_923 (by decide) (fun c_923 => ?_) (fun c_923 => ?_)
  · skip
    have c_923 : ((oOrder y (xs (i + 1)) (xs (i + 2))).1) = ((oOrder y (xs (i + 1)) (xs (i + 2))).1) := (nI_eq (a := ((oOrder y (xs (i + 1)) (xs (i + 2))).1)) (b := ((oOrder y (xs (i + 1)) (xs (i + 2))).1)) (by omega) (by omega)).mp c_923
    refine lv_iload hx hb dL_law_928 (lv_at hl 1 rfl) ?_
    refine lv_if_ne (tgt := 945) hx hb dL_law_930 (by decide) (fun c_930 => ?_) (fun c_930 => ?_)
    · skip
      have c_930 : ((oOrder y (xs (i + 1)) (xs (i + 2))).1) ≠ 0 := fun z => c_930 ((nI_eq (a := ((oOrder y (xs (i + 1)) (xs (i + 2))).1)) (b := 0) (by omega) (by omega)).mpr z)
      refine lv_goto (tgt := 1763) hx hb dL_law_945 (by decide) ?_
      exact W.widen (by omega) (by omega) (kk _ _ _ _ _ hI ⟨hY2, ⟨L9, N9, _, hM2⟩, fr_order hfr (xs (i + 1)) (xs (i + 2)), f1, hout2⟩ (lv_sub hl [2,3,4,5,6] rfl))
    · skip
      have c_930 : ((oOrder y (xs (i + 1)) (xs (i + 2))).1) = 0 := (nI_eq (a := ((oOrder y (xs (i + 1)) (xs (i + 2))).1)) (b := 0) (by omega) (by omega)).mp c_930
      refine lv_aload_n hx hb dL_law_933 rfl (lv_at hl 3 rfl) ?_
      refine lv_iconst (v := nI 0) hx hb dL_law_934 (by decide) ?_
      refine g_lald S hE hI (j := 0) (f := f1) hout2 rfl (by omega) (by decide) dL_law_935 ?_
      refine lv_iload hx hb dL_law_936 (lv_at hl 0 rfl) ?_
      refine lv_i2l hx hb dL_law_938 rfl ?_
      refine g_lcmpE hx hb ((hv1 c_930).trans (by rw [hx9v c_930])) dL_law_939 ?_
      refine lv_if_eq (tgt := 945) hx hb dL_law_940 (by decide) (fun c_940 => ?_) (fun c_940 => ?_)
      · skip
        have c_940 : 0 = 0 := (nI_eq (a := 0) (b := 0) (by omega) (by omega)).mp c_940
        refine lv_goto (tgt := 1763) hx hb dL_law_945 (by decide) ?_
        exact W.widen (by omega) (by omega) (kk _ _ _ _ _ hI ⟨hY2, ⟨L9, N9, _, hM2⟩, fr_order hfr (xs (i + 1)) (xs (i + 2)), f1, hout2⟩ (lv_sub hl [2,3,4,5,6] rfl))
      · skip
        have c_940 : 0 ≠ 0 := fun z => c_940 ((nI_eq (a := 0) (b := 0) (by omega) (by omega)).mpr z)
        exact absurd rfl c_940
  · skip
    have c_923 : ((oOrder y (xs (i + 1)) (xs (i + 2))).1) ≠ ((oOrder y (xs (i + 1)) (xs (i + 2))).1) := fun z => c_923 ((nI_eq (a := ((oOrder y (xs (i + 1)) (xs (i + 2))).1)) (b := ((oOrder y (xs (i + 1)) (xs (i + 2))).1)) (by omega) (by omega)).mpr z)
    exact absurd rfl c_923
set_option maxHeartbeats 4000000 in
set_option maxRecDepth 100000 in
theorem k_ofKind (S : CallFix p m c cL_law 9 s #[Value.ref b] wsL_law RL) (hE : gE K A s s.heap) (hA : ∀ q, s.heap.size ≤ q → A q) (hX : va_X b Ln xs s s.heap) (hbl : b < s.heap.size) (hbA : ¬ A b) (hlS : l.stackTraces = false) (hLn : Ln ≤ 2560) (hI : gI K A s G H locs) (hLI : LI K L1 L2 M hy ho h0 G y) (hi : i + 5 ≤ Ln) (hl : lv_has ls 9 [(4, .int (nI i)), (3, .ref ho), (2, .ref h0), (1, .ref hy), (0, .ref b)]) (hcs : cells + 1040 ≤ 601024 ∧ slots + 12000 ≤ 7293034)
    (kk : ∀ (G1 : gW) (y1 : YV) (H1 : Heap) (locs1 : List Loc) (ls1 : Array Slot), gI K A s G1 H1 locs1 → LI K L1 L2 M hy ho h0 G1 y1 → lv_has ls1 9 [(4, .int (nI i)), (3, .ref ho), (2, .ref h0), (1, .ref hy), (0, .ref b)] → W p l e room_1 s m #[Value.ref b] below meth c H1 locs1 (cells + 1040) (slots + 12000) Q (F0 m 1763 ls1 [])) : W p l e room_1 s m #[Value.ref b] below meth c H locs cells slots Q (F0 m 948 ls []) := by
  have hx := S.1
  have hb := S.2.1
  have hml := S.2.2.1
  obtain ⟨hy0, ⟨L, N, th, hM⟩, hfr, f0, hout⟩ := hLI
  refine lv_aload_n hx hb dL_law_948 rfl (lv_at hl 3 rfl) ?_
  refine lv_aload_n hx hb dL_law_949 rfl (lv_at hl 4 rfl) ?_
  refine lv_iload hx hb dL_law_950 (lv_at hl 0 rfl) ?_
  refine lv_iconst (v := nI 1) hx hb dL_law_952 (by decide) ?_
  refine t_iadd hx hb dL_law_953 (nI_add _ _) ?_
  refine g_sld S hI hX hbl hbA (j := i + 1) (by omega) (by omega) dL_law_954 ?_
  refine lv_aload_n hx hb dL_law_955 rfl (lv_at hl 4 rfl) ?_
  refine lv_iload hx hb dL_law_956 (lv_at hl 0 rfl) ?_
  refine lv_iconst (v := nI 2) hx hb dL_law_958 (by decide) ?_
  refine t_iadd hx hb dL_law_959 (nI_add _ _) ?_
  refine g_sld S hI hX hbl hbA (j := i + 2) (by omega) (by omega) dL_law_960 ?_
  refine lv_aload_n hx hb dL_law_961 rfl (lv_at hl 1 rfl) ?_
  refine g_callSX (As := [.ref hy, .int (xs (i + 1)), .int (xs (i + 2)), .ref ho]) (rest := []) (n := 4) S hE hI hA (h_ofKind l K _ L1 L2 M hy ho f0 y (xs (i + 1)) (xs (i + 2)) hlS hy0 hout) gL_law_L_ofKind rfl (by decide +kernel) ⟨Nat.le_of_ble_eq_true rfl, Nat.le_of_ble_eq_true rfl⟩ rfl hl.1 rfl (Nat.le_of_ble_eq_true rfl) dL_law_962 ⟨by show _ ≤ 601024; omega, by show _ ≤ 7293034; omega⟩ (fun E ce q9 Gx H1 locs1 hx9 => hx9.elim) (fun rv Gc_962 H locs hp hI => ?_)
  obtain ⟨rfl, hY1, ⟨f1, hout1, hv1⟩, ha1⟩ := hp
  have hM1 : MdC K L h0 th Gc_962 y N := hM.moved (fun t ht => ha1 t (by omega) (by omega))
  have hle := h_ofKind_le (y := y) (x := (xs (i + 1))) (w := (xs (i + 2)))
  refine W.eq (g2 := F0 m 965 ls [.int (nI ((oOfKind y (xs (i + 1)) (xs (i + 2))).1))]) rfl ?_
  refine lv_istore (lv' := [(5, .int (nI ((oOfKind y (xs (i + 1)) (xs (i + 2))).1))), (4, .int (nI i)), (3, .ref ho), (2, .ref h0), (1, .ref hy), (0, .ref b)]) hx hb dL_law_965 hl (by decide) rfl (fun ls hl => ?_)
  refine lv_aload_n hx hb dL_law_967 rfl (lv_at hl 3 rfl) ?_
  refine lv_aload_n hx hb dL_law_968 rfl (lv_at hl 5 rfl) ?_
  refine lv_iload hx hb dL_law_969 (lv_at hl 1 rfl) ?_
  refine lv_iconst (v := nI 1) hx hb dL_law_971 (by decide) ?_
  refine t_iadd hx hb dL_law_972 (nI_add _ _) ?_
  refine g_sld S hI hX hbl hbA (j := i + 1) (by omega) (by omega) dL_law_973 ?_
  refine lv_aload_n hx hb dL_law_974 rfl (lv_at hl 5 rfl) ?_
  refine lv_iload hx hb dL_law_975 (lv_at hl 1 rfl) ?_
  refine lv_iconst (v := nI 2) hx hb dL_law_977 (by decide) ?_
  refine t_iadd hx hb dL_law_978 (nI_add _ _) ?_
  refine g_sld S hI hX hbl hbA (j := i + 2) (by omega) (by omega) dL_law_979 ?_
  refine g_callV (As := [.int (xs (i + 1)), .int (xs (i + 2))]) (rest := []) (b := h0) (n := 2) S hE hI hA (p_ofKind l K _ L h0 th y N (xs (i + 1)) (xs (i + 2)) hM1) gL_law_X8_ofKind rfl (by decide +kernel) ⟨Nat.le_of_ble_eq_true rfl, Nat.le_of_ble_eq_true rfl⟩ (g_hro hE hI hM1.1 rfl) rfl hl.1 rfl (Nat.le_of_ble_eq_true rfl) dL_law_980 ⟨by show _ ≤ 601024; omega, by show _ ≤ 7293034; omega⟩ (fun E ce q9 Gx H1 locs1 hx9 => hx9.elim) (fun rv Gc_980 H locs hp hI => ?_)
  obtain ⟨L9, N9, x9, rfl, hx9v, hM2, ha2⟩ := hp
  have hY2 := hY1.moved (fun t ht => ha2 t (Or.inl ht))
  have hout2 : Gc_980 (20, 0, 0) = some (ho, .inl (K.2.1 1, 1, .inr (.inl f1))) := (ha2 _ (by decide)).trans hout1
  refine W.eq (g2 := F0 m 983 ls [.int x9]) rfl ?_
  refine lv_istore (lv' := [(6, .int x9), (5, .int (nI ((oOfKind y (xs (i + 1)) (xs (i + 2))).1))), (4, .int (nI i)), (3, .ref ho), (2, .ref h0), (1, .ref hy), (0, .ref b)]) hx hb dL_law_983 hl (by decide) rfl (fun ls hl => ?_)
  refine lv_aload_n hx hb dL_law_985 rfl (lv_at hl 4 rfl) ?_
  refine g_callV (As := []) (rest := []) (b := h0) (n := 0) S hE hI hA (c_X8_thrown l K _ h0 (oOfKind y (xs (i + 1)) (xs (i + 2))).1 (L9 30 0) hM2.1 hM2.2.2.1) gL_law_X8_thrown rfl (by decide +kernel) ⟨Nat.le_of_ble_eq_true rfl, Nat.le_of_ble_eq_true rfl⟩ (g_hro hE hI hM2.1 rfl) rfl hl.1 rfl (Nat.le_of_ble_eq_true rfl) dL_law_986 ⟨by show _ ≤ 601024; omega, by show _ ≤ 7293034; omega⟩ (fun E ce q9 Gx H1 locs1 hx9 => hx9.elim) (fun rv Gc_986 H locs hp hI => ?_)
  obtain ⟨rfl, hq9⟩ := hp
  rw [hq9] at hI
  refine W.eq (g2 := F0 m 989 ls [.int (nI ((oOfKind y (xs (i + 1)) (xs (i + 2))).1))]) rfl ?_
  refine lv_iload hx hb dL_law_989 (lv_at hl 1 rfl) ?_
  refine lv_icmp_eq (tgt := 996) hx hb dL_law_991 (by decide) (fun c_991 => ?_) (fun c_991 => ?_)
  · skip
    have c_991 : ((oOfKind y (xs (i + 1)) (xs (i + 2))).1) = ((oOfKind y (xs (i + 1)) (xs (i + 2))).1) := (nI_eq (a := ((oOfKind y (xs (i + 1)) (xs (i + 2))).1)) (b := ((oOfKind y (xs (i + 1)) (xs (i + 2))).1)) (by omega) (by omega)).mp c_991
    refine lv_iload hx hb dL_law_996 (lv_at hl 1 rfl) ?_
    refine lv_if_ne (tgt := 1013) hx hb dL_law_998 (by decide) (fun c_998 => ?_) (fun c_998 => ?_)
    · skip
      have c_998 : ((oOfKind y (xs (i + 1)) (xs (i + 2))).1) ≠ 0 := fun z => c_998 ((nI_eq (a := ((oOfKind y (xs (i + 1)) (xs (i + 2))).1)) (b := 0) (by omega) (by omega)).mpr z)
      refine lv_goto (tgt := 1763) hx hb dL_law_1013 (by decide) ?_
      exact W.widen (by omega) (by omega) (kk _ _ _ _ _ hI ⟨hY2, ⟨L9, N9, _, hM2⟩, fr_ofKind hfr (xs (i + 1)) (xs (i + 2)), f1, hout2⟩ (lv_sub hl [2,3,4,5,6] rfl))
    · skip
      have c_998 : ((oOfKind y (xs (i + 1)) (xs (i + 2))).1) = 0 := (nI_eq (a := ((oOfKind y (xs (i + 1)) (xs (i + 2))).1)) (b := 0) (by omega) (by omega)).mp c_998
      refine lv_aload_n hx hb dL_law_1001 rfl (lv_at hl 3 rfl) ?_
      refine lv_iconst (v := nI 0) hx hb dL_law_1002 (by decide) ?_
      refine g_lald S hE hI (j := 0) (f := f1) hout2 rfl (by omega) (by decide) dL_law_1003 ?_
      refine lv_iload hx hb dL_law_1004 (lv_at hl 0 rfl) ?_
      refine lv_i2l hx hb dL_law_1006 rfl ?_
      refine g_lcmpE hx hb ((hv1 c_998).trans (by rw [hx9v c_998])) dL_law_1007 ?_
      refine lv_if_eq (tgt := 1013) hx hb dL_law_1008 (by decide) (fun c_1008 => ?_) (fun c_1008 => ?_)
      · skip
        have c_1008 : 0 = 0 := (nI_eq (a := 0) (b := 0) (by omega) (by omega)).mp c_1008
        refine lv_goto (tgt := 1763) hx hb dL_law_1013 (by decide) ?_
        exact W.widen (by omega) (by omega) (kk _ _ _ _ _ hI ⟨hY2, ⟨L9, N9, _, hM2⟩, fr_ofKind hfr (xs (i + 1)) (xs (i + 2)), f1, hout2⟩ (lv_sub hl [2,3,4,5,6] rfl))
      · skip
        have c_1008 : 0 ≠ 0 := fun z => c_1008 ((nI_eq (a := 0) (b := 0) (by omega) (by omega)).mpr z)
        exact absurd rfl c_1008
  · skip
    have c_991 : ((oOfKind y (xs (i + 1)) (xs (i + 2))).1) ≠ ((oOfKind y (xs (i + 1)) (xs (i + 2))).1) := fun z => c_991 ((nI_eq (a := ((oOfKind y (xs (i + 1)) (xs (i + 2))).1)) (b := ((oOfKind y (xs (i + 1)) (xs (i + 2))).1)) (by omega) (by omega)).mpr z)
    exact absurd rfl c_991
set_option maxHeartbeats 4000000 in
set_option maxRecDepth 100000 in
theorem k_fits (S : CallFix p m c cL_law 9 s #[Value.ref b] wsL_law RL) (hE : gE K A s s.heap) (hA : ∀ q, s.heap.size ≤ q → A q) (hX : va_X b Ln xs s s.heap) (hbl : b < s.heap.size) (hbA : ¬ A b) (hlS : l.stackTraces = false) (hLn : Ln ≤ 2560) (hI : gI K A s G H locs) (hLI : LI K L1 L2 M hy ho h0 G y) (hi : i + 5 ≤ Ln) (hl : lv_has ls 9 [(4, .int (nI i)), (3, .ref ho), (2, .ref h0), (1, .ref hy), (0, .ref b)]) (hcs : cells + 1040 ≤ 601024 ∧ slots + 12000 ≤ 7293034)
    (kk : ∀ (G1 : gW) (y1 : YV) (H1 : Heap) (locs1 : List Loc) (ls1 : Array Slot), gI K A s G1 H1 locs1 → LI K L1 L2 M hy ho h0 G1 y1 → lv_has ls1 9 [(4, .int (nI i)), (3, .ref ho), (2, .ref h0), (1, .ref hy), (0, .ref b)] → W p l e room_1 s m #[Value.ref b] below meth c H1 locs1 (cells + 1040) (slots + 12000) Q (F0 m 1763 ls1 [])) : W p l e room_1 s m #[Value.ref b] below meth c H locs cells slots Q (F0 m 1016 ls []) := by
  have hx := S.1
  have hb := S.2.1
  have hml := S.2.2.1
  obtain ⟨hy0, ⟨L, N, th, hM⟩, hfr, f0, hout⟩ := hLI
  refine lv_aload_n hx hb dL_law_1016 rfl (lv_at hl 3 rfl) ?_
  refine lv_aload_n hx hb dL_law_1017 rfl (lv_at hl 4 rfl) ?_
  refine lv_iload hx hb dL_law_1018 (lv_at hl 0 rfl) ?_
  refine lv_iconst (v := nI 1) hx hb dL_law_1020 (by decide) ?_
  refine t_iadd hx hb dL_law_1021 (nI_add _ _) ?_
  refine g_sld S hI hX hbl hbA (j := i + 1) (by omega) (by omega) dL_law_1022 ?_
  refine lv_aload_n hx hb dL_law_1023 rfl (lv_at hl 4 rfl) ?_
  refine lv_iload hx hb dL_law_1024 (lv_at hl 0 rfl) ?_
  refine lv_iconst (v := nI 2) hx hb dL_law_1026 (by decide) ?_
  refine t_iadd hx hb dL_law_1027 (nI_add _ _) ?_
  refine g_sld S hI hX hbl hbA (j := i + 2) (by omega) (by omega) dL_law_1028 ?_
  refine lv_aload_n hx hb dL_law_1029 rfl (lv_at hl 1 rfl) ?_
  refine g_callSX (As := [.ref hy, .int (xs (i + 1)), .int (xs (i + 2)), .ref ho]) (rest := []) (n := 4) S hE hI hA (h_fits l K _ L1 L2 M hy ho f0 y (xs (i + 1)) (xs (i + 2)) hlS hy0 hout) gL_law_L_fits rfl (by decide +kernel) ⟨Nat.le_of_ble_eq_true rfl, Nat.le_of_ble_eq_true rfl⟩ rfl hl.1 rfl (Nat.le_of_ble_eq_true rfl) dL_law_1030 ⟨by show _ ≤ 601024; omega, by show _ ≤ 7293034; omega⟩ (fun E ce q9 Gx H1 locs1 hx9 => hx9.elim) (fun rv Gc_1030 H locs hp hI => ?_)
  obtain ⟨rfl, hY1, ⟨f1, hout1, hv1⟩, ha1⟩ := hp
  have hM1 : MdC K L h0 th Gc_1030 y N := hM.moved (fun t ht => ha1 t (by omega) (by omega))
  have hle := h_fits_le (y := y) (x := (xs (i + 1))) (k := (xs (i + 2)))
  refine W.eq (g2 := F0 m 1033 ls [.int (nI ((oFits y (xs (i + 1)) (xs (i + 2))).1))]) rfl ?_
  refine lv_istore (lv' := [(5, .int (nI ((oFits y (xs (i + 1)) (xs (i + 2))).1))), (4, .int (nI i)), (3, .ref ho), (2, .ref h0), (1, .ref hy), (0, .ref b)]) hx hb dL_law_1033 hl (by decide) rfl (fun ls hl => ?_)
  refine lv_aload_n hx hb dL_law_1035 rfl (lv_at hl 3 rfl) ?_
  refine lv_aload_n hx hb dL_law_1036 rfl (lv_at hl 5 rfl) ?_
  refine lv_iload hx hb dL_law_1037 (lv_at hl 1 rfl) ?_
  refine lv_iconst (v := nI 1) hx hb dL_law_1039 (by decide) ?_
  refine t_iadd hx hb dL_law_1040 (nI_add _ _) ?_
  refine g_sld S hI hX hbl hbA (j := i + 1) (by omega) (by omega) dL_law_1041 ?_
  refine lv_aload_n hx hb dL_law_1042 rfl (lv_at hl 5 rfl) ?_
  refine lv_iload hx hb dL_law_1043 (lv_at hl 1 rfl) ?_
  refine lv_iconst (v := nI 2) hx hb dL_law_1045 (by decide) ?_
  refine t_iadd hx hb dL_law_1046 (nI_add _ _) ?_
  refine g_sld S hI hX hbl hbA (j := i + 2) (by omega) (by omega) dL_law_1047 ?_
  refine g_callV (As := [.int (xs (i + 1)), .int (xs (i + 2))]) (rest := []) (b := h0) (n := 2) S hE hI hA (p_fits l K _ L h0 th y N (xs (i + 1)) (xs (i + 2)) hM1) gL_law_X8_fits rfl (by decide +kernel) ⟨Nat.le_of_ble_eq_true rfl, Nat.le_of_ble_eq_true rfl⟩ (g_hro hE hI hM1.1 rfl) rfl hl.1 rfl (Nat.le_of_ble_eq_true rfl) dL_law_1048 ⟨by show _ ≤ 601024; omega, by show _ ≤ 7293034; omega⟩ (fun E ce q9 Gx H1 locs1 hx9 => hx9.elim) (fun rv Gc_1048 H locs hp hI => ?_)
  obtain ⟨L9, N9, x9, rfl, hx9v, hM2, ha2⟩ := hp
  have hY2 := hY1.moved (fun t ht => ha2 t (Or.inl ht))
  have hout2 : Gc_1048 (20, 0, 0) = some (ho, .inl (K.2.1 1, 1, .inr (.inl f1))) := (ha2 _ (by decide)).trans hout1
  refine W.eq (g2 := F0 m 1051 ls [.int x9]) rfl ?_
  refine lv_istore (lv' := [(6, .int x9), (5, .int (nI ((oFits y (xs (i + 1)) (xs (i + 2))).1))), (4, .int (nI i)), (3, .ref ho), (2, .ref h0), (1, .ref hy), (0, .ref b)]) hx hb dL_law_1051 hl (by decide) rfl (fun ls hl => ?_)
  refine lv_aload_n hx hb dL_law_1053 rfl (lv_at hl 4 rfl) ?_
  refine g_callV (As := []) (rest := []) (b := h0) (n := 0) S hE hI hA (c_X8_thrown l K _ h0 (oFits y (xs (i + 1)) (xs (i + 2))).1 (L9 30 0) hM2.1 hM2.2.2.1) gL_law_X8_thrown rfl (by decide +kernel) ⟨Nat.le_of_ble_eq_true rfl, Nat.le_of_ble_eq_true rfl⟩ (g_hro hE hI hM2.1 rfl) rfl hl.1 rfl (Nat.le_of_ble_eq_true rfl) dL_law_1054 ⟨by show _ ≤ 601024; omega, by show _ ≤ 7293034; omega⟩ (fun E ce q9 Gx H1 locs1 hx9 => hx9.elim) (fun rv Gc_1054 H locs hp hI => ?_)
  obtain ⟨rfl, hq9⟩ := hp
  rw [hq9] at hI
  refine W.eq (g2 := F0 m 1057 ls [.int (nI ((oFits y (xs (i + 1)) (xs (i + 2))).1))]) rfl ?_
  refine lv_iload hx hb dL_law_1057 (lv_at hl 1 rfl) ?_
  refine lv_icmp_eq (tgt := 1064) hx hb dL_law_1059 (by decide) (fun c_1059 => ?_) (fun c_1059 => ?_)
  · skip
    have c_1059 : ((oFits y (xs (i + 1)) (xs (i + 2))).1) = ((oFits y (xs (i + 1)) (xs (i + 2))).1) := (nI_eq (a := ((oFits y (xs (i + 1)) (xs (i + 2))).1)) (b := ((oFits y (xs (i + 1)) (xs (i + 2))).1)) (by omega) (by omega)).mp c_1059
    refine lv_iload hx hb dL_law_1064 (lv_at hl 1 rfl) ?_
    refine lv_if_ne (tgt := 1081) hx hb dL_law_1066 (by decide) (fun c_1066 => ?_) (fun c_1066 => ?_)
    · skip
      have c_1066 : ((oFits y (xs (i + 1)) (xs (i + 2))).1) ≠ 0 := fun z => c_1066 ((nI_eq (a := ((oFits y (xs (i + 1)) (xs (i + 2))).1)) (b := 0) (by omega) (by omega)).mpr z)
      refine lv_goto (tgt := 1763) hx hb dL_law_1081 (by decide) ?_
      exact W.widen (by omega) (by omega) (kk _ _ _ _ _ hI ⟨hY2, ⟨L9, N9, _, hM2⟩, fr_fits hfr (xs (i + 1)) (xs (i + 2)), f1, hout2⟩ (lv_sub hl [2,3,4,5,6] rfl))
    · skip
      have c_1066 : ((oFits y (xs (i + 1)) (xs (i + 2))).1) = 0 := (nI_eq (a := ((oFits y (xs (i + 1)) (xs (i + 2))).1)) (b := 0) (by omega) (by omega)).mp c_1066
      refine lv_aload_n hx hb dL_law_1069 rfl (lv_at hl 3 rfl) ?_
      refine lv_iconst (v := nI 0) hx hb dL_law_1070 (by decide) ?_
      refine g_lald S hE hI (j := 0) (f := f1) hout2 rfl (by omega) (by decide) dL_law_1071 ?_
      refine lv_iload hx hb dL_law_1072 (lv_at hl 0 rfl) ?_
      refine lv_i2l hx hb dL_law_1074 rfl ?_
      refine g_lcmpE hx hb ((hv1 c_1066).trans (by rw [hx9v c_1066])) dL_law_1075 ?_
      refine lv_if_eq (tgt := 1081) hx hb dL_law_1076 (by decide) (fun c_1076 => ?_) (fun c_1076 => ?_)
      · skip
        have c_1076 : 0 = 0 := (nI_eq (a := 0) (b := 0) (by omega) (by omega)).mp c_1076
        refine lv_goto (tgt := 1763) hx hb dL_law_1081 (by decide) ?_
        exact W.widen (by omega) (by omega) (kk _ _ _ _ _ hI ⟨hY2, ⟨L9, N9, _, hM2⟩, fr_fits hfr (xs (i + 1)) (xs (i + 2)), f1, hout2⟩ (lv_sub hl [2,3,4,5,6] rfl))
      · skip
        have c_1076 : 0 ≠ 0 := fun z => c_1076 ((nI_eq (a := 0) (b := 0) (by omega) (by omega)).mpr z)
        exact absurd rfl c_1076
  · skip
    have c_1059 : ((oFits y (xs (i + 1)) (xs (i + 2))).1) ≠ ((oFits y (xs (i + 1)) (xs (i + 2))).1) := fun z => c_1059 ((nI_eq (a := ((oFits y (xs (i + 1)) (xs (i + 2))).1)) (b := ((oFits y (xs (i + 1)) (xs (i + 2))).1)) (by omega) (by omega)).mpr z)
    exact absurd rfl c_1059
set_option maxHeartbeats 4000000 in
set_option maxRecDepth 100000 in
theorem k_take (S : CallFix p m c cL_law 9 s #[Value.ref b] wsL_law RL) (hE : gE K A s s.heap) (hA : ∀ q, s.heap.size ≤ q → A q) (hX : va_X b Ln xs s s.heap) (hbl : b < s.heap.size) (hbA : ¬ A b) (hlS : l.stackTraces = false) (hLn : Ln ≤ 2560) (hI : gI K A s G H locs) (hLI : LI K L1 L2 M hy ho h0 G y) (hi : i + 5 ≤ Ln) (hl : lv_has ls 9 [(4, .int (nI i)), (3, .ref ho), (2, .ref h0), (1, .ref hy), (0, .ref b)]) (hcs : cells + 1040 ≤ 601024 ∧ slots + 12000 ≤ 7293034)
    (kk : ∀ (G1 : gW) (y1 : YV) (H1 : Heap) (locs1 : List Loc) (ls1 : Array Slot), gI K A s G1 H1 locs1 → LI K L1 L2 M hy ho h0 G1 y1 → lv_has ls1 9 [(4, .int (nI i)), (3, .ref ho), (2, .ref h0), (1, .ref hy), (0, .ref b)] → W p l e room_1 s m #[Value.ref b] below meth c H1 locs1 (cells + 1040) (slots + 12000) Q (F0 m 1763 ls1 [])) : W p l e room_1 s m #[Value.ref b] below meth c H locs cells slots Q (F0 m 1084 ls []) := by
  have hx := S.1
  have hb := S.2.1
  have hml := S.2.2.1
  obtain ⟨hy0, ⟨L, N, th, hM⟩, hfr, f0, hout⟩ := hLI
  refine lv_aload_n hx hb dL_law_1084 rfl (lv_at hl 3 rfl) ?_
  refine lv_aload_n hx hb dL_law_1085 rfl (lv_at hl 4 rfl) ?_
  refine lv_iload hx hb dL_law_1086 (lv_at hl 0 rfl) ?_
  refine lv_iconst (v := nI 1) hx hb dL_law_1088 (by decide) ?_
  refine t_iadd hx hb dL_law_1089 (nI_add _ _) ?_
  refine g_sld S hI hX hbl hbA (j := i + 1) (by omega) (by omega) dL_law_1090 ?_
  refine lv_aload_n hx hb dL_law_1091 rfl (lv_at hl 4 rfl) ?_
  refine lv_iload hx hb dL_law_1092 (lv_at hl 0 rfl) ?_
  refine lv_iconst (v := nI 2) hx hb dL_law_1094 (by decide) ?_
  refine t_iadd hx hb dL_law_1095 (nI_add _ _) ?_
  refine g_sld S hI hX hbl hbA (j := i + 2) (by omega) (by omega) dL_law_1096 ?_
  refine lv_aload_n hx hb dL_law_1097 rfl (lv_at hl 1 rfl) ?_
  refine g_callSX (As := [.ref hy, .int (xs (i + 1)), .int (xs (i + 2)), .ref ho]) (rest := []) (n := 4) S hE hI hA (h_take l K _ L1 L2 M hy ho f0 y (xs (i + 1)) (xs (i + 2)) hlS hy0 hout) gL_law_L_take rfl (by decide +kernel) ⟨Nat.le_of_ble_eq_true rfl, Nat.le_of_ble_eq_true rfl⟩ rfl hl.1 rfl (Nat.le_of_ble_eq_true rfl) dL_law_1098 ⟨by show _ ≤ 601024; omega, by show _ ≤ 7293034; omega⟩ (fun E ce q9 Gx H1 locs1 hx9 => hx9.elim) (fun rv Gc_1098 H locs hp hI => ?_)
  obtain ⟨rfl, hY1, ⟨f1, hout1, hv1⟩, ha1⟩ := hp
  have hM1 : MdC K L h0 th Gc_1098 y N := hM.moved (fun t ht => ha1 t (by omega) (by omega))
  have hle := h_take_le (y := y) (x := (xs (i + 1))) (k := (xs (i + 2)))
  refine W.eq (g2 := F0 m 1101 ls [.int (nI ((oTake y (xs (i + 1)) (xs (i + 2))).1))]) rfl ?_
  refine lv_istore (lv' := [(5, .int (nI ((oTake y (xs (i + 1)) (xs (i + 2))).1))), (4, .int (nI i)), (3, .ref ho), (2, .ref h0), (1, .ref hy), (0, .ref b)]) hx hb dL_law_1101 hl (by decide) rfl (fun ls hl => ?_)
  refine lv_aload_n hx hb dL_law_1103 rfl (lv_at hl 3 rfl) ?_
  refine lv_aload_n hx hb dL_law_1104 rfl (lv_at hl 5 rfl) ?_
  refine lv_iload hx hb dL_law_1105 (lv_at hl 1 rfl) ?_
  refine lv_iconst (v := nI 1) hx hb dL_law_1107 (by decide) ?_
  refine t_iadd hx hb dL_law_1108 (nI_add _ _) ?_
  refine g_sld S hI hX hbl hbA (j := i + 1) (by omega) (by omega) dL_law_1109 ?_
  refine lv_aload_n hx hb dL_law_1110 rfl (lv_at hl 5 rfl) ?_
  refine lv_iload hx hb dL_law_1111 (lv_at hl 1 rfl) ?_
  refine lv_iconst (v := nI 2) hx hb dL_law_1113 (by decide) ?_
  refine t_iadd hx hb dL_law_1114 (nI_add _ _) ?_
  refine g_sld S hI hX hbl hbA (j := i + 2) (by omega) (by omega) dL_law_1115 ?_
  refine g_callV (As := [.int (xs (i + 1)), .int (xs (i + 2))]) (rest := []) (b := h0) (n := 2) S hE hI hA (p_take l K _ L h0 th y N (xs (i + 1)) (xs (i + 2)) hM1) gL_law_X8_take rfl (by decide +kernel) ⟨Nat.le_of_ble_eq_true rfl, Nat.le_of_ble_eq_true rfl⟩ (g_hro hE hI hM1.1 rfl) rfl hl.1 rfl (Nat.le_of_ble_eq_true rfl) dL_law_1116 ⟨by show _ ≤ 601024; omega, by show _ ≤ 7293034; omega⟩ (fun E ce q9 Gx H1 locs1 hx9 => hx9.elim) (fun rv Gc_1116 H locs hp hI => ?_)
  obtain ⟨L9, N9, x9, rfl, hx9v, hM2, ha2⟩ := hp
  have hY2 := hY1.moved (fun t ht => ha2 t (Or.inl ht))
  have hout2 : Gc_1116 (20, 0, 0) = some (ho, .inl (K.2.1 1, 1, .inr (.inl f1))) := (ha2 _ (by decide)).trans hout1
  refine W.eq (g2 := F0 m 1119 ls [.int x9]) rfl ?_
  refine lv_istore (lv' := [(6, .int x9), (5, .int (nI ((oTake y (xs (i + 1)) (xs (i + 2))).1))), (4, .int (nI i)), (3, .ref ho), (2, .ref h0), (1, .ref hy), (0, .ref b)]) hx hb dL_law_1119 hl (by decide) rfl (fun ls hl => ?_)
  refine lv_aload_n hx hb dL_law_1121 rfl (lv_at hl 4 rfl) ?_
  refine g_callV (As := []) (rest := []) (b := h0) (n := 0) S hE hI hA (c_X8_thrown l K _ h0 (oTake y (xs (i + 1)) (xs (i + 2))).1 (L9 30 0) hM2.1 hM2.2.2.1) gL_law_X8_thrown rfl (by decide +kernel) ⟨Nat.le_of_ble_eq_true rfl, Nat.le_of_ble_eq_true rfl⟩ (g_hro hE hI hM2.1 rfl) rfl hl.1 rfl (Nat.le_of_ble_eq_true rfl) dL_law_1122 ⟨by show _ ≤ 601024; omega, by show _ ≤ 7293034; omega⟩ (fun E ce q9 Gx H1 locs1 hx9 => hx9.elim) (fun rv Gc_1122 H locs hp hI => ?_)
  obtain ⟨rfl, hq9⟩ := hp
  rw [hq9] at hI
  refine W.eq (g2 := F0 m 1125 ls [.int (nI ((oTake y (xs (i + 1)) (xs (i + 2))).1))]) rfl ?_
  refine lv_iload hx hb dL_law_1125 (lv_at hl 1 rfl) ?_
  refine lv_icmp_eq (tgt := 1132) hx hb dL_law_1127 (by decide) (fun c_1127 => ?_) (fun c_1127 => ?_)
  · skip
    have c_1127 : ((oTake y (xs (i + 1)) (xs (i + 2))).1) = ((oTake y (xs (i + 1)) (xs (i + 2))).1) := (nI_eq (a := ((oTake y (xs (i + 1)) (xs (i + 2))).1)) (b := ((oTake y (xs (i + 1)) (xs (i + 2))).1)) (by omega) (by omega)).mp c_1127
    refine lv_iload hx hb dL_law_1132 (lv_at hl 1 rfl) ?_
    refine lv_if_ne (tgt := 1149) hx hb dL_law_1134 (by decide) (fun c_1134 => ?_) (fun c_1134 => ?_)
    · skip
      have c_1134 : ((oTake y (xs (i + 1)) (xs (i + 2))).1) ≠ 0 := fun z => c_1134 ((nI_eq (a := ((oTake y (xs (i + 1)) (xs (i + 2))).1)) (b := 0) (by omega) (by omega)).mpr z)
      refine lv_goto (tgt := 1763) hx hb dL_law_1149 (by decide) ?_
      exact W.widen (by omega) (by omega) (kk _ _ _ _ _ hI ⟨hY2, ⟨L9, N9, _, hM2⟩, fr_take hfr (xs (i + 1)) (xs (i + 2)), f1, hout2⟩ (lv_sub hl [2,3,4,5,6] rfl))
    · skip
      have c_1134 : ((oTake y (xs (i + 1)) (xs (i + 2))).1) = 0 := (nI_eq (a := ((oTake y (xs (i + 1)) (xs (i + 2))).1)) (b := 0) (by omega) (by omega)).mp c_1134
      refine lv_aload_n hx hb dL_law_1137 rfl (lv_at hl 3 rfl) ?_
      refine lv_iconst (v := nI 0) hx hb dL_law_1138 (by decide) ?_
      refine g_lald S hE hI (j := 0) (f := f1) hout2 rfl (by omega) (by decide) dL_law_1139 ?_
      refine lv_iload hx hb dL_law_1140 (lv_at hl 0 rfl) ?_
      refine lv_i2l hx hb dL_law_1142 rfl ?_
      refine g_lcmpE hx hb ((hv1 c_1134).trans (by rw [hx9v c_1134])) dL_law_1143 ?_
      refine lv_if_eq (tgt := 1149) hx hb dL_law_1144 (by decide) (fun c_1144 => ?_) (fun c_1144 => ?_)
      · skip
        have c_1144 : 0 = 0 := (nI_eq (a := 0) (b := 0) (by omega) (by omega)).mp c_1144
        refine lv_goto (tgt := 1763) hx hb dL_law_1149 (by decide) ?_
        exact W.widen (by omega) (by omega) (kk _ _ _ _ _ hI ⟨hY2, ⟨L9, N9, _, hM2⟩, fr_take hfr (xs (i + 1)) (xs (i + 2)), f1, hout2⟩ (lv_sub hl [2,3,4,5,6] rfl))
      · skip
        have c_1144 : 0 ≠ 0 := fun z => c_1144 ((nI_eq (a := 0) (b := 0) (by omega) (by omega)).mpr z)
        exact absurd rfl c_1144
  · skip
    have c_1127 : ((oTake y (xs (i + 1)) (xs (i + 2))).1) ≠ ((oTake y (xs (i + 1)) (xs (i + 2))).1) := fun z => c_1127 ((nI_eq (a := ((oTake y (xs (i + 1)) (xs (i + 2))).1)) (b := ((oTake y (xs (i + 1)) (xs (i + 2))).1)) (by omega) (by omega)).mpr z)
    exact absurd rfl c_1127
set_option maxHeartbeats 4000000 in
set_option maxRecDepth 100000 in
theorem k_plan (S : CallFix p m c cL_law 9 s #[Value.ref b] wsL_law RL) (hE : gE K A s s.heap) (hA : ∀ q, s.heap.size ≤ q → A q) (hX : va_X b Ln xs s s.heap) (hbl : b < s.heap.size) (hbA : ¬ A b) (hlS : l.stackTraces = false) (hLn : Ln ≤ 2560) (hI : gI K A s G H locs) (hLI : LI K L1 L2 M hy ho h0 G y) (hi : i + 5 ≤ Ln) (hl : lv_has ls 9 [(4, .int (nI i)), (3, .ref ho), (2, .ref h0), (1, .ref hy), (0, .ref b)]) (hcs : cells + 1040 ≤ 601024 ∧ slots + 12000 ≤ 7293034)
    (kk : ∀ (G1 : gW) (y1 : YV) (H1 : Heap) (locs1 : List Loc) (ls1 : Array Slot), gI K A s G1 H1 locs1 → LI K L1 L2 M hy ho h0 G1 y1 → lv_has ls1 9 [(4, .int (nI i)), (3, .ref ho), (2, .ref h0), (1, .ref hy), (0, .ref b)] → W p l e room_1 s m #[Value.ref b] below meth c H1 locs1 (cells + 1040) (slots + 12000) Q (F0 m 1763 ls1 [])) : W p l e room_1 s m #[Value.ref b] below meth c H locs cells slots Q (F0 m 1152 ls []) := by
  have hx := S.1
  have hb := S.2.1
  have hml := S.2.2.1
  obtain ⟨hy0, ⟨L, N, th, hM⟩, hfr, f0, hout⟩ := hLI
  refine lv_aload_n hx hb dL_law_1152 rfl (lv_at hl 3 rfl) ?_
  refine lv_aload_n hx hb dL_law_1153 rfl (lv_at hl 4 rfl) ?_
  refine lv_iload hx hb dL_law_1154 (lv_at hl 0 rfl) ?_
  refine lv_iconst (v := nI 1) hx hb dL_law_1156 (by decide) ?_
  refine t_iadd hx hb dL_law_1157 (nI_add _ _) ?_
  refine g_sld S hI hX hbl hbA (j := i + 1) (by omega) (by omega) dL_law_1158 ?_
  refine lv_aload_n hx hb dL_law_1159 rfl (lv_at hl 1 rfl) ?_
  refine g_callSX (As := [.ref hy, .int (xs (i + 1)), .ref ho]) (rest := []) (n := 3) S hE hI hA (h_plan l K _ L1 L2 M hy ho f0 y (xs (i + 1)) hlS hy0 hout) gL_law_L_plan rfl (by decide +kernel) ⟨Nat.le_of_ble_eq_true rfl, Nat.le_of_ble_eq_true rfl⟩ rfl hl.1 rfl (Nat.le_of_ble_eq_true rfl) dL_law_1160 ⟨by show _ ≤ 601024; omega, by show _ ≤ 7293034; omega⟩ (fun E ce q9 Gx H1 locs1 hx9 => hx9.elim) (fun rv Gc_1160 H locs hp hI => ?_)
  obtain ⟨rfl, hY1, ⟨f1, hout1, hv1⟩, ha1⟩ := hp
  have hM1 : MdC K L h0 th Gc_1160 y N := hM.moved (fun t ht => ha1 t (by omega) (by omega))
  have hle := h_plan_le (y := y) (x := (xs (i + 1)))
  refine W.eq (g2 := F0 m 1163 ls [.int (nI ((oPlan y (xs (i + 1))).1))]) rfl ?_
  refine lv_istore (lv' := [(5, .int (nI ((oPlan y (xs (i + 1))).1))), (4, .int (nI i)), (3, .ref ho), (2, .ref h0), (1, .ref hy), (0, .ref b)]) hx hb dL_law_1163 hl (by decide) rfl (fun ls hl => ?_)
  refine lv_aload_n hx hb dL_law_1165 rfl (lv_at hl 3 rfl) ?_
  refine lv_aload_n hx hb dL_law_1166 rfl (lv_at hl 5 rfl) ?_
  refine lv_iload hx hb dL_law_1167 (lv_at hl 1 rfl) ?_
  refine lv_iconst (v := nI 1) hx hb dL_law_1169 (by decide) ?_
  refine t_iadd hx hb dL_law_1170 (nI_add _ _) ?_
  refine g_sld S hI hX hbl hbA (j := i + 1) (by omega) (by omega) dL_law_1171 ?_
  refine g_callV (As := [.int (xs (i + 1))]) (rest := []) (b := h0) (n := 1) S hE hI hA (p_plan l K _ L h0 th y N (xs (i + 1)) hM1) gL_law_X8_plan rfl (by decide +kernel) ⟨Nat.le_of_ble_eq_true rfl, Nat.le_of_ble_eq_true rfl⟩ (g_hro hE hI hM1.1 rfl) rfl hl.1 rfl (Nat.le_of_ble_eq_true rfl) dL_law_1172 ⟨by show _ ≤ 601024; omega, by show _ ≤ 7293034; omega⟩ (fun E ce q9 Gx H1 locs1 hx9 => hx9.elim) (fun rv Gc_1172 H locs hp hI => ?_)
  obtain ⟨L9, N9, x9, rfl, hx9v, hM2, ha2⟩ := hp
  have hY2 := hY1.moved (fun t ht => ha2 t (Or.inl ht))
  have hout2 : Gc_1172 (20, 0, 0) = some (ho, .inl (K.2.1 1, 1, .inr (.inl f1))) := (ha2 _ (by decide)).trans hout1
  refine W.eq (g2 := F0 m 1175 ls [.int x9]) rfl ?_
  refine lv_istore (lv' := [(6, .int x9), (5, .int (nI ((oPlan y (xs (i + 1))).1))), (4, .int (nI i)), (3, .ref ho), (2, .ref h0), (1, .ref hy), (0, .ref b)]) hx hb dL_law_1175 hl (by decide) rfl (fun ls hl => ?_)
  refine lv_aload_n hx hb dL_law_1177 rfl (lv_at hl 4 rfl) ?_
  refine g_callV (As := []) (rest := []) (b := h0) (n := 0) S hE hI hA (c_X8_thrown l K _ h0 (oPlan y (xs (i + 1))).1 (L9 30 0) hM2.1 hM2.2.2.1) gL_law_X8_thrown rfl (by decide +kernel) ⟨Nat.le_of_ble_eq_true rfl, Nat.le_of_ble_eq_true rfl⟩ (g_hro hE hI hM2.1 rfl) rfl hl.1 rfl (Nat.le_of_ble_eq_true rfl) dL_law_1178 ⟨by show _ ≤ 601024; omega, by show _ ≤ 7293034; omega⟩ (fun E ce q9 Gx H1 locs1 hx9 => hx9.elim) (fun rv Gc_1178 H locs hp hI => ?_)
  obtain ⟨rfl, hq9⟩ := hp
  rw [hq9] at hI
  refine W.eq (g2 := F0 m 1181 ls [.int (nI ((oPlan y (xs (i + 1))).1))]) rfl ?_
  refine lv_iload hx hb dL_law_1181 (lv_at hl 1 rfl) ?_
  refine lv_icmp_eq (tgt := 1188) hx hb dL_law_1183 (by decide) (fun c_1183 => ?_) (fun c_1183 => ?_)
  · skip
    have c_1183 : ((oPlan y (xs (i + 1))).1) = ((oPlan y (xs (i + 1))).1) := (nI_eq (a := ((oPlan y (xs (i + 1))).1)) (b := ((oPlan y (xs (i + 1))).1)) (by omega) (by omega)).mp c_1183
    refine lv_iload hx hb dL_law_1188 (lv_at hl 1 rfl) ?_
    refine lv_if_ne (tgt := 1205) hx hb dL_law_1190 (by decide) (fun c_1190 => ?_) (fun c_1190 => ?_)
    · skip
      have c_1190 : ((oPlan y (xs (i + 1))).1) ≠ 0 := fun z => c_1190 ((nI_eq (a := ((oPlan y (xs (i + 1))).1)) (b := 0) (by omega) (by omega)).mpr z)
      refine lv_goto (tgt := 1763) hx hb dL_law_1205 (by decide) ?_
      exact W.widen (by omega) (by omega) (kk _ _ _ _ _ hI ⟨hY2, ⟨L9, N9, _, hM2⟩, fr_plan hfr (xs (i + 1)), f1, hout2⟩ (lv_sub hl [2,3,4,5,6] rfl))
    · skip
      have c_1190 : ((oPlan y (xs (i + 1))).1) = 0 := (nI_eq (a := ((oPlan y (xs (i + 1))).1)) (b := 0) (by omega) (by omega)).mp c_1190
      refine lv_aload_n hx hb dL_law_1193 rfl (lv_at hl 3 rfl) ?_
      refine lv_iconst (v := nI 0) hx hb dL_law_1194 (by decide) ?_
      refine g_lald S hE hI (j := 0) (f := f1) hout2 rfl (by omega) (by decide) dL_law_1195 ?_
      refine lv_iload hx hb dL_law_1196 (lv_at hl 0 rfl) ?_
      refine lv_i2l hx hb dL_law_1198 rfl ?_
      refine g_lcmpE hx hb ((hv1 c_1190).trans (by rw [hx9v c_1190])) dL_law_1199 ?_
      refine lv_if_eq (tgt := 1205) hx hb dL_law_1200 (by decide) (fun c_1200 => ?_) (fun c_1200 => ?_)
      · skip
        have c_1200 : 0 = 0 := (nI_eq (a := 0) (b := 0) (by omega) (by omega)).mp c_1200
        refine lv_goto (tgt := 1763) hx hb dL_law_1205 (by decide) ?_
        exact W.widen (by omega) (by omega) (kk _ _ _ _ _ hI ⟨hY2, ⟨L9, N9, _, hM2⟩, fr_plan hfr (xs (i + 1)), f1, hout2⟩ (lv_sub hl [2,3,4,5,6] rfl))
      · skip
        have c_1200 : 0 ≠ 0 := fun z => c_1200 ((nI_eq (a := 0) (b := 0) (by omega) (by omega)).mpr z)
        exact absurd rfl c_1200
  · skip
    have c_1183 : ((oPlan y (xs (i + 1))).1) ≠ ((oPlan y (xs (i + 1))).1) := fun z => c_1183 ((nI_eq (a := ((oPlan y (xs (i + 1))).1)) (b := ((oPlan y (xs (i + 1))).1)) (by omega) (by omega)).mpr z)
    exact absurd rfl c_1183
set_option maxHeartbeats 4000000 in
set_option maxRecDepth 100000 in
theorem k_many (S : CallFix p m c cL_law 9 s #[Value.ref b] wsL_law RL) (hE : gE K A s s.heap) (hA : ∀ q, s.heap.size ≤ q → A q) (hX : va_X b Ln xs s s.heap) (hbl : b < s.heap.size) (hbA : ¬ A b) (hlS : l.stackTraces = false) (hLn : Ln ≤ 2560) (hI : gI K A s G H locs) (hLI : LI K L1 L2 M hy ho h0 G y) (hi : i + 5 ≤ Ln) (hl : lv_has ls 9 [(4, .int (nI i)), (3, .ref ho), (2, .ref h0), (1, .ref hy), (0, .ref b)]) (hcs : cells + 1040 ≤ 601024 ∧ slots + 12000 ≤ 7293034)
    (kk : ∀ (G1 : gW) (y1 : YV) (H1 : Heap) (locs1 : List Loc) (ls1 : Array Slot), gI K A s G1 H1 locs1 → LI K L1 L2 M hy ho h0 G1 y1 → lv_has ls1 9 [(4, .int (nI i)), (3, .ref ho), (2, .ref h0), (1, .ref hy), (0, .ref b)] → W p l e room_1 s m #[Value.ref b] below meth c H1 locs1 (cells + 1040) (slots + 12000) Q (F0 m 1763 ls1 [])) : W p l e room_1 s m #[Value.ref b] below meth c H locs cells slots Q (F0 m 1208 ls []) := by
  have hx := S.1
  have hb := S.2.1
  have hml := S.2.2.1
  obtain ⟨hy0, ⟨L, N, th, hM⟩, hfr, f0, hout⟩ := hLI
  refine lv_aload_n hx hb dL_law_1208 rfl (lv_at hl 3 rfl) ?_
  refine lv_aload_n hx hb dL_law_1209 rfl (lv_at hl 4 rfl) ?_
  refine lv_iload hx hb dL_law_1210 (lv_at hl 0 rfl) ?_
  refine lv_iconst (v := nI 1) hx hb dL_law_1212 (by decide) ?_
  refine t_iadd hx hb dL_law_1213 (nI_add _ _) ?_
  refine g_sld S hI hX hbl hbA (j := i + 1) (by omega) (by omega) dL_law_1214 ?_
  refine lv_aload_n hx hb dL_law_1215 rfl (lv_at hl 1 rfl) ?_
  refine g_callSX (As := [.ref hy, .int (xs (i + 1)), .ref ho]) (rest := []) (n := 3) S hE hI hA (h_many l K _ L1 L2 M hy ho f0 y (xs (i + 1)) hlS hy0 hout) gL_law_L_many rfl (by decide +kernel) ⟨Nat.le_of_ble_eq_true rfl, Nat.le_of_ble_eq_true rfl⟩ rfl hl.1 rfl (Nat.le_of_ble_eq_true rfl) dL_law_1216 ⟨by show _ ≤ 601024; omega, by show _ ≤ 7293034; omega⟩ (fun E ce q9 Gx H1 locs1 hx9 => hx9.elim) (fun rv Gc_1216 H locs hp hI => ?_)
  obtain ⟨rfl, hY1, ⟨f1, hout1, hv1⟩, ha1⟩ := hp
  have hM1 : MdC K L h0 th Gc_1216 y N := hM.moved (fun t ht => ha1 t (by omega) (by omega))
  have hle := h_many_le (y := y) (w := (xs (i + 1)))
  refine W.eq (g2 := F0 m 1219 ls [.int (nI ((oMany y (xs (i + 1))).1))]) rfl ?_
  refine lv_istore (lv' := [(5, .int (nI ((oMany y (xs (i + 1))).1))), (4, .int (nI i)), (3, .ref ho), (2, .ref h0), (1, .ref hy), (0, .ref b)]) hx hb dL_law_1219 hl (by decide) rfl (fun ls hl => ?_)
  refine lv_aload_n hx hb dL_law_1221 rfl (lv_at hl 3 rfl) ?_
  refine lv_aload_n hx hb dL_law_1222 rfl (lv_at hl 5 rfl) ?_
  refine lv_iload hx hb dL_law_1223 (lv_at hl 1 rfl) ?_
  refine lv_iconst (v := nI 1) hx hb dL_law_1225 (by decide) ?_
  refine t_iadd hx hb dL_law_1226 (nI_add _ _) ?_
  refine g_sld S hI hX hbl hbA (j := i + 1) (by omega) (by omega) dL_law_1227 ?_
  refine g_callV (As := [.int (xs (i + 1))]) (rest := []) (b := h0) (n := 1) S hE hI hA (p_many l K _ L h0 th y N (xs (i + 1)) hM1) gL_law_X8_many rfl (by decide +kernel) ⟨Nat.le_of_ble_eq_true rfl, Nat.le_of_ble_eq_true rfl⟩ (g_hro hE hI hM1.1 rfl) rfl hl.1 rfl (Nat.le_of_ble_eq_true rfl) dL_law_1228 ⟨by show _ ≤ 601024; omega, by show _ ≤ 7293034; omega⟩ (fun E ce q9 Gx H1 locs1 hx9 => hx9.elim) (fun rv Gc_1228 H locs hp hI => ?_)
  obtain ⟨L9, N9, x9, rfl, hx9v, hM2, ha2⟩ := hp
  have hY2 := hY1.moved (fun t ht => ha2 t (Or.inl ht))
  have hout2 : Gc_1228 (20, 0, 0) = some (ho, .inl (K.2.1 1, 1, .inr (.inl f1))) := (ha2 _ (by decide)).trans hout1
  refine W.eq (g2 := F0 m 1231 ls [.int x9]) rfl ?_
  refine lv_istore (lv' := [(6, .int x9), (5, .int (nI ((oMany y (xs (i + 1))).1))), (4, .int (nI i)), (3, .ref ho), (2, .ref h0), (1, .ref hy), (0, .ref b)]) hx hb dL_law_1231 hl (by decide) rfl (fun ls hl => ?_)
  refine lv_aload_n hx hb dL_law_1233 rfl (lv_at hl 4 rfl) ?_
  refine g_callV (As := []) (rest := []) (b := h0) (n := 0) S hE hI hA (c_X8_thrown l K _ h0 (oMany y (xs (i + 1))).1 (L9 30 0) hM2.1 hM2.2.2.1) gL_law_X8_thrown rfl (by decide +kernel) ⟨Nat.le_of_ble_eq_true rfl, Nat.le_of_ble_eq_true rfl⟩ (g_hro hE hI hM2.1 rfl) rfl hl.1 rfl (Nat.le_of_ble_eq_true rfl) dL_law_1234 ⟨by show _ ≤ 601024; omega, by show _ ≤ 7293034; omega⟩ (fun E ce q9 Gx H1 locs1 hx9 => hx9.elim) (fun rv Gc_1234 H locs hp hI => ?_)
  obtain ⟨rfl, hq9⟩ := hp
  rw [hq9] at hI
  refine W.eq (g2 := F0 m 1237 ls [.int (nI ((oMany y (xs (i + 1))).1))]) rfl ?_
  refine lv_iload hx hb dL_law_1237 (lv_at hl 1 rfl) ?_
  refine lv_icmp_eq (tgt := 1244) hx hb dL_law_1239 (by decide) (fun c_1239 => ?_) (fun c_1239 => ?_)
  · skip
    have c_1239 : ((oMany y (xs (i + 1))).1) = ((oMany y (xs (i + 1))).1) := (nI_eq (a := ((oMany y (xs (i + 1))).1)) (b := ((oMany y (xs (i + 1))).1)) (by omega) (by omega)).mp c_1239
    refine lv_iload hx hb dL_law_1244 (lv_at hl 1 rfl) ?_
    refine lv_if_ne (tgt := 1261) hx hb dL_law_1246 (by decide) (fun c_1246 => ?_) (fun c_1246 => ?_)
    · skip
      have c_1246 : ((oMany y (xs (i + 1))).1) ≠ 0 := fun z => c_1246 ((nI_eq (a := ((oMany y (xs (i + 1))).1)) (b := 0) (by omega) (by omega)).mpr z)
      refine lv_goto (tgt := 1763) hx hb dL_law_1261 (by decide) ?_
      exact W.widen (by omega) (by omega) (kk _ _ _ _ _ hI ⟨hY2, ⟨L9, N9, _, hM2⟩, fr_many hfr (xs (i + 1)), f1, hout2⟩ (lv_sub hl [2,3,4,5,6] rfl))
    · skip
      have c_1246 : ((oMany y (xs (i + 1))).1) = 0 := (nI_eq (a := ((oMany y (xs (i + 1))).1)) (b := 0) (by omega) (by omega)).mp c_1246
      refine lv_aload_n hx hb dL_law_1249 rfl (lv_at hl 3 rfl) ?_
      refine lv_iconst (v := nI 0) hx hb dL_law_1250 (by decide) ?_
      refine g_lald S hE hI (j := 0) (f := f1) hout2 rfl (by omega) (by decide) dL_law_1251 ?_
      refine lv_iload hx hb dL_law_1252 (lv_at hl 0 rfl) ?_
      refine lv_i2l hx hb dL_law_1254 rfl ?_
      refine g_lcmpE hx hb ((hv1 c_1246).trans (by rw [hx9v c_1246])) dL_law_1255 ?_
      refine lv_if_eq (tgt := 1261) hx hb dL_law_1256 (by decide) (fun c_1256 => ?_) (fun c_1256 => ?_)
      · skip
        have c_1256 : 0 = 0 := (nI_eq (a := 0) (b := 0) (by omega) (by omega)).mp c_1256
        refine lv_goto (tgt := 1763) hx hb dL_law_1261 (by decide) ?_
        exact W.widen (by omega) (by omega) (kk _ _ _ _ _ hI ⟨hY2, ⟨L9, N9, _, hM2⟩, fr_many hfr (xs (i + 1)), f1, hout2⟩ (lv_sub hl [2,3,4,5,6] rfl))
      · skip
        have c_1256 : 0 ≠ 0 := fun z => c_1256 ((nI_eq (a := 0) (b := 0) (by omega) (by omega)).mpr z)
        exact absurd rfl c_1256
  · skip
    have c_1239 : ((oMany y (xs (i + 1))).1) ≠ ((oMany y (xs (i + 1))).1) := fun z => c_1239 ((nI_eq (a := ((oMany y (xs (i + 1))).1)) (b := ((oMany y (xs (i + 1))).1)) (by omega) (by omega)).mpr z)
    exact absurd rfl c_1239
set_option maxHeartbeats 4000000 in
set_option maxRecDepth 100000 in
theorem k_worth (S : CallFix p m c cL_law 9 s #[Value.ref b] wsL_law RL) (hE : gE K A s s.heap) (hA : ∀ q, s.heap.size ≤ q → A q) (hX : va_X b Ln xs s s.heap) (hbl : b < s.heap.size) (hbA : ¬ A b) (hlS : l.stackTraces = false) (hLn : Ln ≤ 2560) (hI : gI K A s G H locs) (hLI : LI K L1 L2 M hy ho h0 G y) (hi : i + 5 ≤ Ln) (hl : lv_has ls 9 [(4, .int (nI i)), (3, .ref ho), (2, .ref h0), (1, .ref hy), (0, .ref b)]) (hcs : cells + 1040 ≤ 601024 ∧ slots + 12000 ≤ 7293034)
    (kk : ∀ (G1 : gW) (y1 : YV) (H1 : Heap) (locs1 : List Loc) (ls1 : Array Slot), gI K A s G1 H1 locs1 → LI K L1 L2 M hy ho h0 G1 y1 → lv_has ls1 9 [(4, .int (nI i)), (3, .ref ho), (2, .ref h0), (1, .ref hy), (0, .ref b)] → W p l e room_1 s m #[Value.ref b] below meth c H1 locs1 (cells + 1040) (slots + 12000) Q (F0 m 1763 ls1 [])) : W p l e room_1 s m #[Value.ref b] below meth c H locs cells slots Q (F0 m 1305 ls []) := by
  have hx := S.1
  have hb := S.2.1
  have hml := S.2.2.1
  obtain ⟨hy0, ⟨L, N, th, hM⟩, hfr, f0, hout⟩ := hLI
  refine lv_aload_n hx hb dL_law_1305 rfl (lv_at hl 3 rfl) ?_
  refine lv_aload_n hx hb dL_law_1306 rfl (lv_at hl 4 rfl) ?_
  refine lv_iload hx hb dL_law_1307 (lv_at hl 0 rfl) ?_
  refine lv_iconst (v := nI 1) hx hb dL_law_1309 (by decide) ?_
  refine t_iadd hx hb dL_law_1310 (nI_add _ _) ?_
  refine g_sld S hI hX hbl hbA (j := i + 1) (by omega) (by omega) dL_law_1311 ?_
  refine lv_aload_n hx hb dL_law_1312 rfl (lv_at hl 4 rfl) ?_
  refine lv_iload hx hb dL_law_1313 (lv_at hl 0 rfl) ?_
  refine lv_iconst (v := nI 2) hx hb dL_law_1315 (by decide) ?_
  refine t_iadd hx hb dL_law_1316 (nI_add _ _) ?_
  refine g_sld S hI hX hbl hbA (j := i + 2) (by omega) (by omega) dL_law_1317 ?_
  refine lv_aload_n hx hb dL_law_1318 rfl (lv_at hl 4 rfl) ?_
  refine lv_iload hx hb dL_law_1319 (lv_at hl 0 rfl) ?_
  refine lv_iconst (v := nI 3) hx hb dL_law_1321 (by decide) ?_
  refine t_iadd hx hb dL_law_1322 (nI_add _ _) ?_
  refine g_sld S hI hX hbl hbA (j := i + 3) (by omega) (by omega) dL_law_1323 ?_
  refine lv_aload_n hx hb dL_law_1324 rfl (lv_at hl 1 rfl) ?_
  refine g_callSX (As := [.ref hy, .int (xs (i + 1)), .int (xs (i + 2)), .int (xs (i + 3)), .ref ho]) (rest := []) (n := 5) S hE hI hA (h_worth l K _ L1 L2 M hy ho f0 y (xs (i + 1)) (xs (i + 2)) (xs (i + 3)) hlS hy0 hout) gL_law_L_worth rfl (by decide +kernel) ⟨Nat.le_of_ble_eq_true rfl, Nat.le_of_ble_eq_true rfl⟩ rfl hl.1 rfl (Nat.le_of_ble_eq_true rfl) dL_law_1325 ⟨by show _ ≤ 601024; omega, by show _ ≤ 7293034; omega⟩ (fun E ce q9 Gx H1 locs1 hx9 => hx9.elim) (fun rv Gc_1325 H locs hp hI => ?_)
  obtain ⟨rfl, hY1, ⟨f1, hout1, hv1⟩, ha1⟩ := hp
  have hM1 : MdC K L h0 th Gc_1325 y N := hM.moved (fun t ht => ha1 t (by omega) (by omega))
  have hle := h_worth_le (y := y) (w := (xs (i + 1))) (h := (xs (i + 2))) (g := (xs (i + 3)))
  refine W.eq (g2 := F0 m 1328 ls [.int (nI ((oWorth y (xs (i + 1)) (xs (i + 2)) (xs (i + 3))).1))]) rfl ?_
  refine lv_istore (lv' := [(5, .int (nI ((oWorth y (xs (i + 1)) (xs (i + 2)) (xs (i + 3))).1))), (4, .int (nI i)), (3, .ref ho), (2, .ref h0), (1, .ref hy), (0, .ref b)]) hx hb dL_law_1328 hl (by decide) rfl (fun ls hl => ?_)
  refine lv_aload_n hx hb dL_law_1330 rfl (lv_at hl 3 rfl) ?_
  refine lv_aload_n hx hb dL_law_1331 rfl (lv_at hl 5 rfl) ?_
  refine lv_iload hx hb dL_law_1332 (lv_at hl 1 rfl) ?_
  refine lv_iconst (v := nI 1) hx hb dL_law_1334 (by decide) ?_
  refine t_iadd hx hb dL_law_1335 (nI_add _ _) ?_
  refine g_sld S hI hX hbl hbA (j := i + 1) (by omega) (by omega) dL_law_1336 ?_
  refine lv_aload_n hx hb dL_law_1337 rfl (lv_at hl 5 rfl) ?_
  refine lv_iload hx hb dL_law_1338 (lv_at hl 1 rfl) ?_
  refine lv_iconst (v := nI 2) hx hb dL_law_1340 (by decide) ?_
  refine t_iadd hx hb dL_law_1341 (nI_add _ _) ?_
  refine g_sld S hI hX hbl hbA (j := i + 2) (by omega) (by omega) dL_law_1342 ?_
  refine lv_aload_n hx hb dL_law_1343 rfl (lv_at hl 5 rfl) ?_
  refine lv_iload hx hb dL_law_1344 (lv_at hl 1 rfl) ?_
  refine lv_iconst (v := nI 3) hx hb dL_law_1346 (by decide) ?_
  refine t_iadd hx hb dL_law_1347 (nI_add _ _) ?_
  refine g_sld S hI hX hbl hbA (j := i + 3) (by omega) (by omega) dL_law_1348 ?_
  refine g_callV (As := [.int (xs (i + 1)), .int (xs (i + 2)), .int (xs (i + 3))]) (rest := []) (b := h0) (n := 3) S hE hI hA (p_worth l K _ L h0 th y N (xs (i + 1)) (xs (i + 2)) (xs (i + 3)) hM1) gL_law_X8_worth rfl (by decide +kernel) ⟨Nat.le_of_ble_eq_true rfl, Nat.le_of_ble_eq_true rfl⟩ (g_hro hE hI hM1.1 rfl) rfl hl.1 rfl (Nat.le_of_ble_eq_true rfl) dL_law_1349 ⟨by show _ ≤ 601024; omega, by show _ ≤ 7293034; omega⟩ (fun E ce q9 Gx H1 locs1 hx9 => hx9.elim) (fun rv Gc_1349 H locs hp hI => ?_)
  obtain ⟨L9, N9, x9, rfl, hx9v, hM2, ha2⟩ := hp
  have hY2 := hY1.moved (fun t ht => ha2 t (Or.inl ht))
  have hout2 : Gc_1349 (20, 0, 0) = some (ho, .inl (K.2.1 1, 1, .inr (.inl f1))) := (ha2 _ (by decide)).trans hout1
  refine W.eq (g2 := F0 m 1352 ls [.int x9]) rfl ?_
  refine lv_istore (lv' := [(6, .int x9), (5, .int (nI ((oWorth y (xs (i + 1)) (xs (i + 2)) (xs (i + 3))).1))), (4, .int (nI i)), (3, .ref ho), (2, .ref h0), (1, .ref hy), (0, .ref b)]) hx hb dL_law_1352 hl (by decide) rfl (fun ls hl => ?_)
  refine lv_aload_n hx hb dL_law_1354 rfl (lv_at hl 4 rfl) ?_
  refine g_callV (As := []) (rest := []) (b := h0) (n := 0) S hE hI hA (c_X8_thrown l K _ h0 (oWorth y (xs (i + 1)) (xs (i + 2)) (xs (i + 3))).1 (L9 30 0) hM2.1 hM2.2.2.1) gL_law_X8_thrown rfl (by decide +kernel) ⟨Nat.le_of_ble_eq_true rfl, Nat.le_of_ble_eq_true rfl⟩ (g_hro hE hI hM2.1 rfl) rfl hl.1 rfl (Nat.le_of_ble_eq_true rfl) dL_law_1355 ⟨by show _ ≤ 601024; omega, by show _ ≤ 7293034; omega⟩ (fun E ce q9 Gx H1 locs1 hx9 => hx9.elim) (fun rv Gc_1355 H locs hp hI => ?_)
  obtain ⟨rfl, hq9⟩ := hp
  rw [hq9] at hI
  refine W.eq (g2 := F0 m 1358 ls [.int (nI ((oWorth y (xs (i + 1)) (xs (i + 2)) (xs (i + 3))).1))]) rfl ?_
  refine lv_iload hx hb dL_law_1358 (lv_at hl 1 rfl) ?_
  refine lv_icmp_eq (tgt := 1365) hx hb dL_law_1360 (by decide) (fun c_1360 => ?_) (fun c_1360 => ?_)
  · skip
    have c_1360 : ((oWorth y (xs (i + 1)) (xs (i + 2)) (xs (i + 3))).1) = ((oWorth y (xs (i + 1)) (xs (i + 2)) (xs (i + 3))).1) := (nI_eq (a := ((oWorth y (xs (i + 1)) (xs (i + 2)) (xs (i + 3))).1)) (b := ((oWorth y (xs (i + 1)) (xs (i + 2)) (xs (i + 3))).1)) (by omega) (by omega)).mp c_1360
    refine lv_iload hx hb dL_law_1365 (lv_at hl 1 rfl) ?_
    refine lv_if_ne (tgt := 1382) hx hb dL_law_1367 (by decide) (fun c_1367 => ?_) (fun c_1367 => ?_)
    · skip
      have c_1367 : ((oWorth y (xs (i + 1)) (xs (i + 2)) (xs (i + 3))).1) ≠ 0 := fun z => c_1367 ((nI_eq (a := ((oWorth y (xs (i + 1)) (xs (i + 2)) (xs (i + 3))).1)) (b := 0) (by omega) (by omega)).mpr z)
      refine lv_goto (tgt := 1763) hx hb dL_law_1382 (by decide) ?_
      exact W.widen (by omega) (by omega) (kk _ _ _ _ _ hI ⟨hY2, ⟨L9, N9, _, hM2⟩, fr_worth hfr (xs (i + 1)) (xs (i + 2)) (xs (i + 3)), f1, hout2⟩ (lv_sub hl [2,3,4,5,6] rfl))
    · skip
      have c_1367 : ((oWorth y (xs (i + 1)) (xs (i + 2)) (xs (i + 3))).1) = 0 := (nI_eq (a := ((oWorth y (xs (i + 1)) (xs (i + 2)) (xs (i + 3))).1)) (b := 0) (by omega) (by omega)).mp c_1367
      refine lv_aload_n hx hb dL_law_1370 rfl (lv_at hl 3 rfl) ?_
      refine lv_iconst (v := nI 0) hx hb dL_law_1371 (by decide) ?_
      refine g_lald S hE hI (j := 0) (f := f1) hout2 rfl (by omega) (by decide) dL_law_1372 ?_
      refine lv_iload hx hb dL_law_1373 (lv_at hl 0 rfl) ?_
      refine lv_i2l hx hb dL_law_1375 rfl ?_
      refine g_lcmpE hx hb ((hv1 c_1367).trans (by rw [hx9v c_1367])) dL_law_1376 ?_
      refine lv_if_eq (tgt := 1382) hx hb dL_law_1377 (by decide) (fun c_1377 => ?_) (fun c_1377 => ?_)
      · skip
        have c_1377 : 0 = 0 := (nI_eq (a := 0) (b := 0) (by omega) (by omega)).mp c_1377
        refine lv_goto (tgt := 1763) hx hb dL_law_1382 (by decide) ?_
        exact W.widen (by omega) (by omega) (kk _ _ _ _ _ hI ⟨hY2, ⟨L9, N9, _, hM2⟩, fr_worth hfr (xs (i + 1)) (xs (i + 2)) (xs (i + 3)), f1, hout2⟩ (lv_sub hl [2,3,4,5,6] rfl))
      · skip
        have c_1377 : 0 ≠ 0 := fun z => c_1377 ((nI_eq (a := 0) (b := 0) (by omega) (by omega)).mpr z)
        exact absurd rfl c_1377
  · skip
    have c_1360 : ((oWorth y (xs (i + 1)) (xs (i + 2)) (xs (i + 3))).1) ≠ ((oWorth y (xs (i + 1)) (xs (i + 2)) (xs (i + 3))).1) := fun z => c_1360 ((nI_eq (a := ((oWorth y (xs (i + 1)) (xs (i + 2)) (xs (i + 3))).1)) (b := ((oWorth y (xs (i + 1)) (xs (i + 2)) (xs (i + 3))).1)) (by omega) (by omega)).mpr z)
    exact absurd rfl c_1360
set_option maxHeartbeats 4000000 in
set_option maxRecDepth 100000 in
theorem k_bestCut (S : CallFix p m c cL_law 9 s #[Value.ref b] wsL_law RL) (hE : gE K A s s.heap) (hA : ∀ q, s.heap.size ≤ q → A q) (hX : va_X b Ln xs s s.heap) (hbl : b < s.heap.size) (hbA : ¬ A b) (hlS : l.stackTraces = false) (hLn : Ln ≤ 2560) (hI : gI K A s G H locs) (hLI : LI K L1 L2 M hy ho h0 G y) (hi : i + 5 ≤ Ln) (hl : lv_has ls 9 [(4, .int (nI i)), (3, .ref ho), (2, .ref h0), (1, .ref hy), (0, .ref b)]) (hcs : cells + 1040 ≤ 601024 ∧ slots + 12000 ≤ 7293034)
    (kk : ∀ (G1 : gW) (y1 : YV) (H1 : Heap) (locs1 : List Loc) (ls1 : Array Slot), gI K A s G1 H1 locs1 → LI K L1 L2 M hy ho h0 G1 y1 → lv_has ls1 9 [(4, .int (nI i)), (3, .ref ho), (2, .ref h0), (1, .ref hy), (0, .ref b)] → W p l e room_1 s m #[Value.ref b] below meth c H1 locs1 (cells + 1040) (slots + 12000) Q (F0 m 1763 ls1 [])) : W p l e room_1 s m #[Value.ref b] below meth c H locs cells slots Q (F0 m 1385 ls []) := by
  have hx := S.1
  have hb := S.2.1
  have hml := S.2.2.1
  obtain ⟨hy0, ⟨L, N, th, hM⟩, hfr, f0, hout⟩ := hLI
  refine lv_aload_n hx hb dL_law_1385 rfl (lv_at hl 3 rfl) ?_
  refine lv_aload_n hx hb dL_law_1386 rfl (lv_at hl 4 rfl) ?_
  refine lv_iload hx hb dL_law_1387 (lv_at hl 0 rfl) ?_
  refine lv_iconst (v := nI 1) hx hb dL_law_1389 (by decide) ?_
  refine t_iadd hx hb dL_law_1390 (nI_add _ _) ?_
  refine g_sld S hI hX hbl hbA (j := i + 1) (by omega) (by omega) dL_law_1391 ?_
  refine lv_aload_n hx hb dL_law_1392 rfl (lv_at hl 4 rfl) ?_
  refine lv_iload hx hb dL_law_1393 (lv_at hl 0 rfl) ?_
  refine lv_iconst (v := nI 2) hx hb dL_law_1395 (by decide) ?_
  refine t_iadd hx hb dL_law_1396 (nI_add _ _) ?_
  refine g_sld S hI hX hbl hbA (j := i + 2) (by omega) (by omega) dL_law_1397 ?_
  refine lv_aload_n hx hb dL_law_1398 rfl (lv_at hl 4 rfl) ?_
  refine lv_iload hx hb dL_law_1399 (lv_at hl 0 rfl) ?_
  refine lv_iconst (v := nI 3) hx hb dL_law_1401 (by decide) ?_
  refine t_iadd hx hb dL_law_1402 (nI_add _ _) ?_
  refine g_sld S hI hX hbl hbA (j := i + 3) (by omega) (by omega) dL_law_1403 ?_
  refine lv_aload_n hx hb dL_law_1404 rfl (lv_at hl 1 rfl) ?_
  refine g_callSX (As := [.ref hy, .int (xs (i + 1)), .int (xs (i + 2)), .int (xs (i + 3)), .ref ho]) (rest := []) (n := 5) S hE hI hA (h_bestCut l K _ L1 L2 M hy ho f0 y (xs (i + 1)) (xs (i + 2)) (xs (i + 3)) hlS hy0 hout) gL_law_L_bestCut rfl (by decide +kernel) ⟨Nat.le_of_ble_eq_true rfl, Nat.le_of_ble_eq_true rfl⟩ rfl hl.1 rfl (Nat.le_of_ble_eq_true rfl) dL_law_1405 ⟨by show _ ≤ 601024; omega, by show _ ≤ 7293034; omega⟩ (fun E ce q9 Gx H1 locs1 hx9 => hx9.elim) (fun rv Gc_1405 H locs hp hI => ?_)
  obtain ⟨rfl, hY1, ⟨f1, hout1, hv1⟩, ha1⟩ := hp
  have hM1 : MdC K L h0 th Gc_1405 y N := hM.moved (fun t ht => ha1 t (by omega) (by omega))
  have hle := h_bestCut_le (y := y) (w := (xs (i + 1))) (h := (xs (i + 2))) (g := (xs (i + 3)))
  refine W.eq (g2 := F0 m 1408 ls [.int (nI ((oBest y (xs (i + 1)) (xs (i + 2)) (xs (i + 3))).1))]) rfl ?_
  refine lv_istore (lv' := [(5, .int (nI ((oBest y (xs (i + 1)) (xs (i + 2)) (xs (i + 3))).1))), (4, .int (nI i)), (3, .ref ho), (2, .ref h0), (1, .ref hy), (0, .ref b)]) hx hb dL_law_1408 hl (by decide) rfl (fun ls hl => ?_)
  refine lv_aload_n hx hb dL_law_1410 rfl (lv_at hl 3 rfl) ?_
  refine lv_aload_n hx hb dL_law_1411 rfl (lv_at hl 5 rfl) ?_
  refine lv_iload hx hb dL_law_1412 (lv_at hl 1 rfl) ?_
  refine lv_iconst (v := nI 1) hx hb dL_law_1414 (by decide) ?_
  refine t_iadd hx hb dL_law_1415 (nI_add _ _) ?_
  refine g_sld S hI hX hbl hbA (j := i + 1) (by omega) (by omega) dL_law_1416 ?_
  refine lv_aload_n hx hb dL_law_1417 rfl (lv_at hl 5 rfl) ?_
  refine lv_iload hx hb dL_law_1418 (lv_at hl 1 rfl) ?_
  refine lv_iconst (v := nI 2) hx hb dL_law_1420 (by decide) ?_
  refine t_iadd hx hb dL_law_1421 (nI_add _ _) ?_
  refine g_sld S hI hX hbl hbA (j := i + 2) (by omega) (by omega) dL_law_1422 ?_
  refine lv_aload_n hx hb dL_law_1423 rfl (lv_at hl 5 rfl) ?_
  refine lv_iload hx hb dL_law_1424 (lv_at hl 1 rfl) ?_
  refine lv_iconst (v := nI 3) hx hb dL_law_1426 (by decide) ?_
  refine t_iadd hx hb dL_law_1427 (nI_add _ _) ?_
  refine g_sld S hI hX hbl hbA (j := i + 3) (by omega) (by omega) dL_law_1428 ?_
  refine g_callV (As := [.int (xs (i + 1)), .int (xs (i + 2)), .int (xs (i + 3))]) (rest := []) (b := h0) (n := 3) S hE hI hA (p_best l K _ L h0 th y N (xs (i + 1)) (xs (i + 2)) (xs (i + 3)) hM1) gL_law_X8_bestCut rfl (by decide +kernel) ⟨Nat.le_of_ble_eq_true rfl, Nat.le_of_ble_eq_true rfl⟩ (g_hro hE hI hM1.1 rfl) rfl hl.1 rfl (Nat.le_of_ble_eq_true rfl) dL_law_1429 ⟨by show _ ≤ 601024; omega, by show _ ≤ 7293034; omega⟩ (fun E ce q9 Gx H1 locs1 hx9 => hx9.elim) (fun rv Gc_1429 H locs hp hI => ?_)
  obtain ⟨L9, N9, x9, rfl, hx9v, hM2, ha2⟩ := hp
  have hY2 := hY1.moved (fun t ht => ha2 t (Or.inl ht))
  have hout2 : Gc_1429 (20, 0, 0) = some (ho, .inl (K.2.1 1, 1, .inr (.inl f1))) := (ha2 _ (by decide)).trans hout1
  refine W.eq (g2 := F0 m 1432 ls [.int x9]) rfl ?_
  refine lv_istore (lv' := [(6, .int x9), (5, .int (nI ((oBest y (xs (i + 1)) (xs (i + 2)) (xs (i + 3))).1))), (4, .int (nI i)), (3, .ref ho), (2, .ref h0), (1, .ref hy), (0, .ref b)]) hx hb dL_law_1432 hl (by decide) rfl (fun ls hl => ?_)
  refine lv_aload_n hx hb dL_law_1434 rfl (lv_at hl 4 rfl) ?_
  refine g_callV (As := []) (rest := []) (b := h0) (n := 0) S hE hI hA (c_X8_thrown l K _ h0 (oBest y (xs (i + 1)) (xs (i + 2)) (xs (i + 3))).1 (L9 30 0) hM2.1 hM2.2.2.1) gL_law_X8_thrown rfl (by decide +kernel) ⟨Nat.le_of_ble_eq_true rfl, Nat.le_of_ble_eq_true rfl⟩ (g_hro hE hI hM2.1 rfl) rfl hl.1 rfl (Nat.le_of_ble_eq_true rfl) dL_law_1435 ⟨by show _ ≤ 601024; omega, by show _ ≤ 7293034; omega⟩ (fun E ce q9 Gx H1 locs1 hx9 => hx9.elim) (fun rv Gc_1435 H locs hp hI => ?_)
  obtain ⟨rfl, hq9⟩ := hp
  rw [hq9] at hI
  refine W.eq (g2 := F0 m 1438 ls [.int (nI ((oBest y (xs (i + 1)) (xs (i + 2)) (xs (i + 3))).1))]) rfl ?_
  refine lv_iload hx hb dL_law_1438 (lv_at hl 1 rfl) ?_
  refine lv_icmp_eq (tgt := 1445) hx hb dL_law_1440 (by decide) (fun c_1440 => ?_) (fun c_1440 => ?_)
  · skip
    have c_1440 : ((oBest y (xs (i + 1)) (xs (i + 2)) (xs (i + 3))).1) = ((oBest y (xs (i + 1)) (xs (i + 2)) (xs (i + 3))).1) := (nI_eq (a := ((oBest y (xs (i + 1)) (xs (i + 2)) (xs (i + 3))).1)) (b := ((oBest y (xs (i + 1)) (xs (i + 2)) (xs (i + 3))).1)) (by omega) (by omega)).mp c_1440
    refine lv_iload hx hb dL_law_1445 (lv_at hl 1 rfl) ?_
    refine lv_if_ne (tgt := 1462) hx hb dL_law_1447 (by decide) (fun c_1447 => ?_) (fun c_1447 => ?_)
    · skip
      have c_1447 : ((oBest y (xs (i + 1)) (xs (i + 2)) (xs (i + 3))).1) ≠ 0 := fun z => c_1447 ((nI_eq (a := ((oBest y (xs (i + 1)) (xs (i + 2)) (xs (i + 3))).1)) (b := 0) (by omega) (by omega)).mpr z)
      refine lv_goto (tgt := 1763) hx hb dL_law_1462 (by decide) ?_
      exact W.widen (by omega) (by omega) (kk _ _ _ _ _ hI ⟨hY2, ⟨L9, N9, _, hM2⟩, fr_bestCut hfr (xs (i + 1)) (xs (i + 2)) (xs (i + 3)), f1, hout2⟩ (lv_sub hl [2,3,4,5,6] rfl))
    · skip
      have c_1447 : ((oBest y (xs (i + 1)) (xs (i + 2)) (xs (i + 3))).1) = 0 := (nI_eq (a := ((oBest y (xs (i + 1)) (xs (i + 2)) (xs (i + 3))).1)) (b := 0) (by omega) (by omega)).mp c_1447
      refine lv_aload_n hx hb dL_law_1450 rfl (lv_at hl 3 rfl) ?_
      refine lv_iconst (v := nI 0) hx hb dL_law_1451 (by decide) ?_
      refine g_lald S hE hI (j := 0) (f := f1) hout2 rfl (by omega) (by decide) dL_law_1452 ?_
      refine lv_iload hx hb dL_law_1453 (lv_at hl 0 rfl) ?_
      refine lv_i2l hx hb dL_law_1455 rfl ?_
      refine g_lcmpE hx hb ((hv1 c_1447).trans (by rw [hx9v c_1447])) dL_law_1456 ?_
      refine lv_if_eq (tgt := 1462) hx hb dL_law_1457 (by decide) (fun c_1457 => ?_) (fun c_1457 => ?_)
      · skip
        have c_1457 : 0 = 0 := (nI_eq (a := 0) (b := 0) (by omega) (by omega)).mp c_1457
        refine lv_goto (tgt := 1763) hx hb dL_law_1462 (by decide) ?_
        exact W.widen (by omega) (by omega) (kk _ _ _ _ _ hI ⟨hY2, ⟨L9, N9, _, hM2⟩, fr_bestCut hfr (xs (i + 1)) (xs (i + 2)) (xs (i + 3)), f1, hout2⟩ (lv_sub hl [2,3,4,5,6] rfl))
      · skip
        have c_1457 : 0 ≠ 0 := fun z => c_1457 ((nI_eq (a := 0) (b := 0) (by omega) (by omega)).mpr z)
        exact absurd rfl c_1457
  · skip
    have c_1440 : ((oBest y (xs (i + 1)) (xs (i + 2)) (xs (i + 3))).1) ≠ ((oBest y (xs (i + 1)) (xs (i + 2)) (xs (i + 3))).1) := fun z => c_1440 ((nI_eq (a := ((oBest y (xs (i + 1)) (xs (i + 2)) (xs (i + 3))).1)) (b := ((oBest y (xs (i + 1)) (xs (i + 2)) (xs (i + 3))).1)) (by omega) (by omega)).mpr z)
    exact absurd rfl c_1440
set_option maxHeartbeats 4000000 in
set_option maxRecDepth 100000 in
theorem k_column (S : CallFix p m c cL_law 9 s #[Value.ref b] wsL_law RL) (hE : gE K A s s.heap) (hA : ∀ q, s.heap.size ≤ q → A q) (hX : va_X b Ln xs s s.heap) (hbl : b < s.heap.size) (hbA : ¬ A b) (hlS : l.stackTraces = false) (hLn : Ln ≤ 2560) (hI : gI K A s G H locs) (hLI : LI K L1 L2 M hy ho h0 G y) (hi : i + 5 ≤ Ln) (hl : lv_has ls 9 [(4, .int (nI i)), (3, .ref ho), (2, .ref h0), (1, .ref hy), (0, .ref b)]) (hcs : cells + 1040 ≤ 601024 ∧ slots + 12000 ≤ 7293034)
    (kk : ∀ (G1 : gW) (y1 : YV) (H1 : Heap) (locs1 : List Loc) (ls1 : Array Slot), gI K A s G1 H1 locs1 → LI K L1 L2 M hy ho h0 G1 y1 → lv_has ls1 9 [(4, .int (nI i)), (3, .ref ho), (2, .ref h0), (1, .ref hy), (0, .ref b)] → W p l e room_1 s m #[Value.ref b] below meth c H1 locs1 (cells + 1040) (slots + 12000) Q (F0 m 1763 ls1 [])) : W p l e room_1 s m #[Value.ref b] below meth c H locs cells slots Q (F0 m 1465 ls []) := by
  have hx := S.1
  have hb := S.2.1
  have hml := S.2.2.1
  obtain ⟨hy0, ⟨L, N, th, hM⟩, hfr, f0, hout⟩ := hLI
  refine lv_aload_n hx hb dL_law_1465 rfl (lv_at hl 3 rfl) ?_
  refine lv_aload_n hx hb dL_law_1466 rfl (lv_at hl 4 rfl) ?_
  refine lv_iload hx hb dL_law_1467 (lv_at hl 0 rfl) ?_
  refine lv_iconst (v := nI 1) hx hb dL_law_1469 (by decide) ?_
  refine t_iadd hx hb dL_law_1470 (nI_add _ _) ?_
  refine g_sld S hI hX hbl hbA (j := i + 1) (by omega) (by omega) dL_law_1471 ?_
  refine lv_aload_n hx hb dL_law_1472 rfl (lv_at hl 4 rfl) ?_
  refine lv_iload hx hb dL_law_1473 (lv_at hl 0 rfl) ?_
  refine lv_iconst (v := nI 2) hx hb dL_law_1475 (by decide) ?_
  refine t_iadd hx hb dL_law_1476 (nI_add _ _) ?_
  refine g_sld S hI hX hbl hbA (j := i + 2) (by omega) (by omega) dL_law_1477 ?_
  refine lv_aload_n hx hb dL_law_1478 rfl (lv_at hl 4 rfl) ?_
  refine lv_iload hx hb dL_law_1479 (lv_at hl 0 rfl) ?_
  refine lv_iconst (v := nI 3) hx hb dL_law_1481 (by decide) ?_
  refine t_iadd hx hb dL_law_1482 (nI_add _ _) ?_
  refine g_sld S hI hX hbl hbA (j := i + 3) (by omega) (by omega) dL_law_1483 ?_
  refine lv_aload_n hx hb dL_law_1484 rfl (lv_at hl 4 rfl) ?_
  refine lv_iload hx hb dL_law_1485 (lv_at hl 0 rfl) ?_
  refine lv_iconst (v := nI 4) hx hb dL_law_1487 (by decide) ?_
  refine t_iadd hx hb dL_law_1488 (nI_add _ _) ?_
  refine g_sld S hI hX hbl hbA (j := i + 4) (by omega) (by omega) dL_law_1489 ?_
  refine lv_aload_n hx hb dL_law_1490 rfl (lv_at hl 1 rfl) ?_
  refine g_callSX (As := [.ref hy, .int (xs (i + 1)), .int (xs (i + 2)), .int (xs (i + 3)), .int (xs (i + 4)), .ref ho]) (rest := []) (n := 6) S hE hI hA (h_column l K _ L1 L2 M hy ho f0 y (xs (i + 1)) (xs (i + 2)) (xs (i + 3)) (xs (i + 4)) hlS hy0 hout) gL_law_L_column rfl (by decide +kernel) ⟨Nat.le_of_ble_eq_true rfl, Nat.le_of_ble_eq_true rfl⟩ rfl hl.1 rfl (Nat.le_of_ble_eq_true rfl) dL_law_1491 ⟨by show _ ≤ 601024; omega, by show _ ≤ 7293034; omega⟩ (fun E ce q9 Gx H1 locs1 hx9 => hx9.elim) (fun rv Gc_1491 H locs hp hI => ?_)
  obtain ⟨rfl, hY1, ⟨f1, hout1, hv1⟩, ha1⟩ := hp
  have hM1 : MdC K L h0 th Gc_1491 y N := hM.moved (fun t ht => ha1 t (by omega) (by omega))
  have hle := h_column_le (y := y) (w := (xs (i + 1))) (h := (xs (i + 2))) (g := (xs (i + 3))) (x := (xs (i + 4)))
  refine W.eq (g2 := F0 m 1494 ls [.int (nI ((oColumn y (xs (i + 1)) (xs (i + 2)) (xs (i + 3)) (xs (i + 4))).1))]) rfl ?_
  refine lv_istore (lv' := [(5, .int (nI ((oColumn y (xs (i + 1)) (xs (i + 2)) (xs (i + 3)) (xs (i + 4))).1))), (4, .int (nI i)), (3, .ref ho), (2, .ref h0), (1, .ref hy), (0, .ref b)]) hx hb dL_law_1494 hl (by decide) rfl (fun ls hl => ?_)
  refine lv_aload_n hx hb dL_law_1496 rfl (lv_at hl 3 rfl) ?_
  refine lv_aload_n hx hb dL_law_1497 rfl (lv_at hl 5 rfl) ?_
  refine lv_iload hx hb dL_law_1498 (lv_at hl 1 rfl) ?_
  refine lv_iconst (v := nI 1) hx hb dL_law_1500 (by decide) ?_
  refine t_iadd hx hb dL_law_1501 (nI_add _ _) ?_
  refine g_sld S hI hX hbl hbA (j := i + 1) (by omega) (by omega) dL_law_1502 ?_
  refine lv_aload_n hx hb dL_law_1503 rfl (lv_at hl 5 rfl) ?_
  refine lv_iload hx hb dL_law_1504 (lv_at hl 1 rfl) ?_
  refine lv_iconst (v := nI 2) hx hb dL_law_1506 (by decide) ?_
  refine t_iadd hx hb dL_law_1507 (nI_add _ _) ?_
  refine g_sld S hI hX hbl hbA (j := i + 2) (by omega) (by omega) dL_law_1508 ?_
  refine lv_aload_n hx hb dL_law_1509 rfl (lv_at hl 5 rfl) ?_
  refine lv_iload hx hb dL_law_1510 (lv_at hl 1 rfl) ?_
  refine lv_iconst (v := nI 3) hx hb dL_law_1512 (by decide) ?_
  refine t_iadd hx hb dL_law_1513 (nI_add _ _) ?_
  refine g_sld S hI hX hbl hbA (j := i + 3) (by omega) (by omega) dL_law_1514 ?_
  refine lv_aload_n hx hb dL_law_1515 rfl (lv_at hl 5 rfl) ?_
  refine lv_iload hx hb dL_law_1516 (lv_at hl 1 rfl) ?_
  refine lv_iconst (v := nI 4) hx hb dL_law_1518 (by decide) ?_
  refine t_iadd hx hb dL_law_1519 (nI_add _ _) ?_
  refine g_sld S hI hX hbl hbA (j := i + 4) (by omega) (by omega) dL_law_1520 ?_
  refine g_callV (As := [.int (xs (i + 1)), .int (xs (i + 2)), .int (xs (i + 3)), .int (xs (i + 4))]) (rest := []) (b := h0) (n := 4) S hE hI hA (p_column l K _ L h0 th y N (xs (i + 1)) (xs (i + 2)) (xs (i + 3)) (xs (i + 4)) hM1) gL_law_X8_column rfl (by decide +kernel) ⟨Nat.le_of_ble_eq_true rfl, Nat.le_of_ble_eq_true rfl⟩ (g_hro hE hI hM1.1 rfl) rfl hl.1 rfl (Nat.le_of_ble_eq_true rfl) dL_law_1521 ⟨by show _ ≤ 601024; omega, by show _ ≤ 7293034; omega⟩ (fun E ce q9 Gx H1 locs1 hx9 => hx9.elim) (fun rv Gc_1521 H locs hp hI => ?_)
  obtain ⟨L9, N9, x9, rfl, hx9v, hM2, ha2⟩ := hp
  have hY2 := hY1.moved (fun t ht => ha2 t (Or.inl ht))
  have hout2 : Gc_1521 (20, 0, 0) = some (ho, .inl (K.2.1 1, 1, .inr (.inl f1))) := (ha2 _ (by decide)).trans hout1
  refine W.eq (g2 := F0 m 1524 ls [.int x9]) rfl ?_
  refine lv_istore (lv' := [(6, .int x9), (5, .int (nI ((oColumn y (xs (i + 1)) (xs (i + 2)) (xs (i + 3)) (xs (i + 4))).1))), (4, .int (nI i)), (3, .ref ho), (2, .ref h0), (1, .ref hy), (0, .ref b)]) hx hb dL_law_1524 hl (by decide) rfl (fun ls hl => ?_)
  refine lv_aload_n hx hb dL_law_1526 rfl (lv_at hl 4 rfl) ?_
  refine g_callV (As := []) (rest := []) (b := h0) (n := 0) S hE hI hA (c_X8_thrown l K _ h0 (oColumn y (xs (i + 1)) (xs (i + 2)) (xs (i + 3)) (xs (i + 4))).1 (L9 30 0) hM2.1 hM2.2.2.1) gL_law_X8_thrown rfl (by decide +kernel) ⟨Nat.le_of_ble_eq_true rfl, Nat.le_of_ble_eq_true rfl⟩ (g_hro hE hI hM2.1 rfl) rfl hl.1 rfl (Nat.le_of_ble_eq_true rfl) dL_law_1527 ⟨by show _ ≤ 601024; omega, by show _ ≤ 7293034; omega⟩ (fun E ce q9 Gx H1 locs1 hx9 => hx9.elim) (fun rv Gc_1527 H locs hp hI => ?_)
  obtain ⟨rfl, hq9⟩ := hp
  rw [hq9] at hI
  refine W.eq (g2 := F0 m 1530 ls [.int (nI ((oColumn y (xs (i + 1)) (xs (i + 2)) (xs (i + 3)) (xs (i + 4))).1))]) rfl ?_
  refine lv_iload hx hb dL_law_1530 (lv_at hl 1 rfl) ?_
  refine lv_icmp_eq (tgt := 1537) hx hb dL_law_1532 (by decide) (fun c_1532 => ?_) (fun c_1532 => ?_)
  · skip
    have c_1532 : ((oColumn y (xs (i + 1)) (xs (i + 2)) (xs (i + 3)) (xs (i + 4))).1) = ((oColumn y (xs (i + 1)) (xs (i + 2)) (xs (i + 3)) (xs (i + 4))).1) := (nI_eq (a := ((oColumn y (xs (i + 1)) (xs (i + 2)) (xs (i + 3)) (xs (i + 4))).1)) (b := ((oColumn y (xs (i + 1)) (xs (i + 2)) (xs (i + 3)) (xs (i + 4))).1)) (by omega) (by omega)).mp c_1532
    refine lv_iload hx hb dL_law_1537 (lv_at hl 1 rfl) ?_
    refine lv_if_ne (tgt := 1554) hx hb dL_law_1539 (by decide) (fun c_1539 => ?_) (fun c_1539 => ?_)
    · skip
      have c_1539 : ((oColumn y (xs (i + 1)) (xs (i + 2)) (xs (i + 3)) (xs (i + 4))).1) ≠ 0 := fun z => c_1539 ((nI_eq (a := ((oColumn y (xs (i + 1)) (xs (i + 2)) (xs (i + 3)) (xs (i + 4))).1)) (b := 0) (by omega) (by omega)).mpr z)
      refine lv_goto (tgt := 1763) hx hb dL_law_1554 (by decide) ?_
      exact W.widen (by omega) (by omega) (kk _ _ _ _ _ hI ⟨hY2, ⟨L9, N9, _, hM2⟩, fr_column hfr (xs (i + 1)) (xs (i + 2)) (xs (i + 3)) (xs (i + 4)), f1, hout2⟩ (lv_sub hl [2,3,4,5,6] rfl))
    · skip
      have c_1539 : ((oColumn y (xs (i + 1)) (xs (i + 2)) (xs (i + 3)) (xs (i + 4))).1) = 0 := (nI_eq (a := ((oColumn y (xs (i + 1)) (xs (i + 2)) (xs (i + 3)) (xs (i + 4))).1)) (b := 0) (by omega) (by omega)).mp c_1539
      refine lv_aload_n hx hb dL_law_1542 rfl (lv_at hl 3 rfl) ?_
      refine lv_iconst (v := nI 0) hx hb dL_law_1543 (by decide) ?_
      refine g_lald S hE hI (j := 0) (f := f1) hout2 rfl (by omega) (by decide) dL_law_1544 ?_
      refine lv_iload hx hb dL_law_1545 (lv_at hl 0 rfl) ?_
      refine lv_i2l hx hb dL_law_1547 rfl ?_
      refine g_lcmpE hx hb ((hv1 c_1539).trans (by rw [hx9v c_1539])) dL_law_1548 ?_
      refine lv_if_eq (tgt := 1554) hx hb dL_law_1549 (by decide) (fun c_1549 => ?_) (fun c_1549 => ?_)
      · skip
        have c_1549 : 0 = 0 := (nI_eq (a := 0) (b := 0) (by omega) (by omega)).mp c_1549
        refine lv_goto (tgt := 1763) hx hb dL_law_1554 (by decide) ?_
        exact W.widen (by omega) (by omega) (kk _ _ _ _ _ hI ⟨hY2, ⟨L9, N9, _, hM2⟩, fr_column hfr (xs (i + 1)) (xs (i + 2)) (xs (i + 3)) (xs (i + 4)), f1, hout2⟩ (lv_sub hl [2,3,4,5,6] rfl))
      · skip
        have c_1549 : 0 ≠ 0 := fun z => c_1549 ((nI_eq (a := 0) (b := 0) (by omega) (by omega)).mpr z)
        exact absurd rfl c_1549
  · skip
    have c_1532 : ((oColumn y (xs (i + 1)) (xs (i + 2)) (xs (i + 3)) (xs (i + 4))).1) ≠ ((oColumn y (xs (i + 1)) (xs (i + 2)) (xs (i + 3)) (xs (i + 4))).1) := fun z => c_1532 ((nI_eq (a := ((oColumn y (xs (i + 1)) (xs (i + 2)) (xs (i + 3)) (xs (i + 4))).1)) (b := ((oColumn y (xs (i + 1)) (xs (i + 2)) (xs (i + 3)) (xs (i + 4))).1)) (by omega) (by omega)).mpr z)
    exact absurd rfl c_1532
set_option maxHeartbeats 4000000 in
set_option maxRecDepth 100000 in
theorem k_worthMore (S : CallFix p m c cL_law 9 s #[Value.ref b] wsL_law RL) (hE : gE K A s s.heap) (hA : ∀ q, s.heap.size ≤ q → A q) (hX : va_X b Ln xs s s.heap) (hbl : b < s.heap.size) (hbA : ¬ A b) (hlS : l.stackTraces = false) (hLn : Ln ≤ 2560) (hI : gI K A s G H locs) (hLI : LI K L1 L2 M hy ho h0 G y) (hi : i + 5 ≤ Ln) (hl : lv_has ls 9 [(4, .int (nI i)), (3, .ref ho), (2, .ref h0), (1, .ref hy), (0, .ref b)]) (hcs : cells + 1040 ≤ 601024 ∧ slots + 12000 ≤ 7293034)
    (kk : ∀ (G1 : gW) (y1 : YV) (H1 : Heap) (locs1 : List Loc) (ls1 : Array Slot), gI K A s G1 H1 locs1 → LI K L1 L2 M hy ho h0 G1 y1 → lv_has ls1 9 [(4, .int (nI i)), (3, .ref ho), (2, .ref h0), (1, .ref hy), (0, .ref b)] → W p l e room_1 s m #[Value.ref b] below meth c H1 locs1 (cells + 1040) (slots + 12000) Q (F0 m 1763 ls1 [])) : W p l e room_1 s m #[Value.ref b] below meth c H locs cells slots Q (F0 m 1557 ls []) := by
  have hx := S.1
  have hb := S.2.1
  have hml := S.2.2.1
  obtain ⟨hy0, ⟨L, N, th, hM⟩, hfr, f0, hout⟩ := hLI
  refine lv_aload_n hx hb dL_law_1557 rfl (lv_at hl 3 rfl) ?_
  refine lv_aload_n hx hb dL_law_1558 rfl (lv_at hl 4 rfl) ?_
  refine lv_iload hx hb dL_law_1559 (lv_at hl 0 rfl) ?_
  refine lv_iconst (v := nI 1) hx hb dL_law_1561 (by decide) ?_
  refine t_iadd hx hb dL_law_1562 (nI_add _ _) ?_
  refine g_sld S hI hX hbl hbA (j := i + 1) (by omega) (by omega) dL_law_1563 ?_
  refine lv_aload_n hx hb dL_law_1564 rfl (lv_at hl 4 rfl) ?_
  refine lv_iload hx hb dL_law_1565 (lv_at hl 0 rfl) ?_
  refine lv_iconst (v := nI 2) hx hb dL_law_1567 (by decide) ?_
  refine t_iadd hx hb dL_law_1568 (nI_add _ _) ?_
  refine g_sld S hI hX hbl hbA (j := i + 2) (by omega) (by omega) dL_law_1569 ?_
  refine lv_aload_n hx hb dL_law_1570 rfl (lv_at hl 1 rfl) ?_
  refine g_callSX (As := [.ref hy, .int (xs (i + 1)), .int (xs (i + 2)), .ref ho]) (rest := []) (n := 4) S hE hI hA (h_worthMore l K _ L1 L2 M hy ho f0 y (xs (i + 1)) (xs (i + 2)) hlS hy0 hout) gL_law_L_worthMore rfl (by decide +kernel) ⟨Nat.le_of_ble_eq_true rfl, Nat.le_of_ble_eq_true rfl⟩ rfl hl.1 rfl (Nat.le_of_ble_eq_true rfl) dL_law_1571 ⟨by show _ ≤ 601024; omega, by show _ ≤ 7293034; omega⟩ (fun E ce q9 Gx H1 locs1 hx9 => hx9.elim) (fun rv Gc_1571 H locs hp hI => ?_)
  obtain ⟨rfl, hY1, ⟨f1, hout1, hv1⟩, ha1⟩ := hp
  have hM1 : MdC K L h0 th Gc_1571 y N := hM.moved (fun t ht => ha1 t (by omega) (by omega))
  have hle := h_worthMore_le (y := y) (x := (xs (i + 1))) (q := (xs (i + 2)))
  refine W.eq (g2 := F0 m 1574 ls [.int (nI ((oMore y (xs (i + 1)) (xs (i + 2))).1))]) rfl ?_
  refine lv_istore (lv' := [(5, .int (nI ((oMore y (xs (i + 1)) (xs (i + 2))).1))), (4, .int (nI i)), (3, .ref ho), (2, .ref h0), (1, .ref hy), (0, .ref b)]) hx hb dL_law_1574 hl (by decide) rfl (fun ls hl => ?_)
  refine lv_aload_n hx hb dL_law_1576 rfl (lv_at hl 3 rfl) ?_
  refine lv_aload_n hx hb dL_law_1577 rfl (lv_at hl 5 rfl) ?_
  refine lv_iload hx hb dL_law_1578 (lv_at hl 1 rfl) ?_
  refine lv_iconst (v := nI 1) hx hb dL_law_1580 (by decide) ?_
  refine t_iadd hx hb dL_law_1581 (nI_add _ _) ?_
  refine g_sld S hI hX hbl hbA (j := i + 1) (by omega) (by omega) dL_law_1582 ?_
  refine lv_aload_n hx hb dL_law_1583 rfl (lv_at hl 5 rfl) ?_
  refine lv_iload hx hb dL_law_1584 (lv_at hl 1 rfl) ?_
  refine lv_iconst (v := nI 2) hx hb dL_law_1586 (by decide) ?_
  refine t_iadd hx hb dL_law_1587 (nI_add _ _) ?_
  refine g_sld S hI hX hbl hbA (j := i + 2) (by omega) (by omega) dL_law_1588 ?_
  refine g_callV (As := [.int (xs (i + 1)), .int (xs (i + 2))]) (rest := []) (b := h0) (n := 2) S hE hI hA (p_more l K _ L h0 th y N (xs (i + 1)) (xs (i + 2)) hM1) gL_law_X8_worthMore rfl (by decide +kernel) ⟨Nat.le_of_ble_eq_true rfl, Nat.le_of_ble_eq_true rfl⟩ (g_hro hE hI hM1.1 rfl) rfl hl.1 rfl (Nat.le_of_ble_eq_true rfl) dL_law_1589 ⟨by show _ ≤ 601024; omega, by show _ ≤ 7293034; omega⟩ (fun E ce q9 Gx H1 locs1 hx9 => hx9.elim) (fun rv Gc_1589 H locs hp hI => ?_)
  obtain ⟨L9, N9, x9, rfl, hx9v, hM2, ha2⟩ := hp
  have hY2 := hY1.moved (fun t ht => ha2 t (Or.inl ht))
  have hout2 : Gc_1589 (20, 0, 0) = some (ho, .inl (K.2.1 1, 1, .inr (.inl f1))) := (ha2 _ (by decide)).trans hout1
  refine W.eq (g2 := F0 m 1592 ls [.int x9]) rfl ?_
  refine lv_istore (lv' := [(6, .int x9), (5, .int (nI ((oMore y (xs (i + 1)) (xs (i + 2))).1))), (4, .int (nI i)), (3, .ref ho), (2, .ref h0), (1, .ref hy), (0, .ref b)]) hx hb dL_law_1592 hl (by decide) rfl (fun ls hl => ?_)
  refine lv_aload_n hx hb dL_law_1594 rfl (lv_at hl 4 rfl) ?_
  refine g_callV (As := []) (rest := []) (b := h0) (n := 0) S hE hI hA (c_X8_thrown l K _ h0 (oMore y (xs (i + 1)) (xs (i + 2))).1 (L9 30 0) hM2.1 hM2.2.2.1) gL_law_X8_thrown rfl (by decide +kernel) ⟨Nat.le_of_ble_eq_true rfl, Nat.le_of_ble_eq_true rfl⟩ (g_hro hE hI hM2.1 rfl) rfl hl.1 rfl (Nat.le_of_ble_eq_true rfl) dL_law_1595 ⟨by show _ ≤ 601024; omega, by show _ ≤ 7293034; omega⟩ (fun E ce q9 Gx H1 locs1 hx9 => hx9.elim) (fun rv Gc_1595 H locs hp hI => ?_)
  obtain ⟨rfl, hq9⟩ := hp
  rw [hq9] at hI
  refine W.eq (g2 := F0 m 1598 ls [.int (nI ((oMore y (xs (i + 1)) (xs (i + 2))).1))]) rfl ?_
  refine lv_iload hx hb dL_law_1598 (lv_at hl 1 rfl) ?_
  refine lv_icmp_eq (tgt := 1605) hx hb dL_law_1600 (by decide) (fun c_1600 => ?_) (fun c_1600 => ?_)
  · skip
    have c_1600 : ((oMore y (xs (i + 1)) (xs (i + 2))).1) = ((oMore y (xs (i + 1)) (xs (i + 2))).1) := (nI_eq (a := ((oMore y (xs (i + 1)) (xs (i + 2))).1)) (b := ((oMore y (xs (i + 1)) (xs (i + 2))).1)) (by omega) (by omega)).mp c_1600
    refine lv_iload hx hb dL_law_1605 (lv_at hl 1 rfl) ?_
    refine lv_if_ne (tgt := 1622) hx hb dL_law_1607 (by decide) (fun c_1607 => ?_) (fun c_1607 => ?_)
    · skip
      have c_1607 : ((oMore y (xs (i + 1)) (xs (i + 2))).1) ≠ 0 := fun z => c_1607 ((nI_eq (a := ((oMore y (xs (i + 1)) (xs (i + 2))).1)) (b := 0) (by omega) (by omega)).mpr z)
      refine lv_goto (tgt := 1763) hx hb dL_law_1622 (by decide) ?_
      exact W.widen (by omega) (by omega) (kk _ _ _ _ _ hI ⟨hY2, ⟨L9, N9, _, hM2⟩, fr_worthMore hfr (xs (i + 1)) (xs (i + 2)), f1, hout2⟩ (lv_sub hl [2,3,4,5,6] rfl))
    · skip
      have c_1607 : ((oMore y (xs (i + 1)) (xs (i + 2))).1) = 0 := (nI_eq (a := ((oMore y (xs (i + 1)) (xs (i + 2))).1)) (b := 0) (by omega) (by omega)).mp c_1607
      refine lv_aload_n hx hb dL_law_1610 rfl (lv_at hl 3 rfl) ?_
      refine lv_iconst (v := nI 0) hx hb dL_law_1611 (by decide) ?_
      refine g_lald S hE hI (j := 0) (f := f1) hout2 rfl (by omega) (by decide) dL_law_1612 ?_
      refine lv_iload hx hb dL_law_1613 (lv_at hl 0 rfl) ?_
      refine lv_i2l hx hb dL_law_1615 rfl ?_
      refine g_lcmpE hx hb ((hv1 c_1607).trans (by rw [hx9v c_1607])) dL_law_1616 ?_
      refine lv_if_eq (tgt := 1622) hx hb dL_law_1617 (by decide) (fun c_1617 => ?_) (fun c_1617 => ?_)
      · skip
        have c_1617 : 0 = 0 := (nI_eq (a := 0) (b := 0) (by omega) (by omega)).mp c_1617
        refine lv_goto (tgt := 1763) hx hb dL_law_1622 (by decide) ?_
        exact W.widen (by omega) (by omega) (kk _ _ _ _ _ hI ⟨hY2, ⟨L9, N9, _, hM2⟩, fr_worthMore hfr (xs (i + 1)) (xs (i + 2)), f1, hout2⟩ (lv_sub hl [2,3,4,5,6] rfl))
      · skip
        have c_1617 : 0 ≠ 0 := fun z => c_1617 ((nI_eq (a := 0) (b := 0) (by omega) (by omega)).mpr z)
        exact absurd rfl c_1617
  · skip
    have c_1600 : ((oMore y (xs (i + 1)) (xs (i + 2))).1) ≠ ((oMore y (xs (i + 1)) (xs (i + 2))).1) := fun z => c_1600 ((nI_eq (a := ((oMore y (xs (i + 1)) (xs (i + 2))).1)) (b := ((oMore y (xs (i + 1)) (xs (i + 2))).1)) (by omega) (by omega)).mpr z)
    exact absurd rfl c_1600
set_option maxHeartbeats 4000000 in
set_option maxRecDepth 100000 in
theorem k_wasteBy (S : CallFix p m c cL_law 9 s #[Value.ref b] wsL_law RL) (hE : gE K A s s.heap) (hA : ∀ q, s.heap.size ≤ q → A q) (hX : va_X b Ln xs s s.heap) (hbl : b < s.heap.size) (hbA : ¬ A b) (hlS : l.stackTraces = false) (hLn : Ln ≤ 2560) (hI : gI K A s G H locs) (hLI : LI K L1 L2 M hy ho h0 G y) (hi : i + 5 ≤ Ln) (hl : lv_has ls 9 [(4, .int (nI i)), (3, .ref ho), (2, .ref h0), (1, .ref hy), (0, .ref b)]) (hcs : cells + 1040 ≤ 601024 ∧ slots + 12000 ≤ 7293034)
    (kk : ∀ (G1 : gW) (y1 : YV) (H1 : Heap) (locs1 : List Loc) (ls1 : Array Slot), gI K A s G1 H1 locs1 → LI K L1 L2 M hy ho h0 G1 y1 → lv_has ls1 9 [(4, .int (nI i)), (3, .ref ho), (2, .ref h0), (1, .ref hy), (0, .ref b)] → W p l e room_1 s m #[Value.ref b] below meth c H1 locs1 (cells + 1040) (slots + 12000) Q (F0 m 1763 ls1 [])) : W p l e room_1 s m #[Value.ref b] below meth c H locs cells slots Q (F0 m 1625 ls []) := by
  have hx := S.1
  have hb := S.2.1
  have hml := S.2.2.1
  obtain ⟨hy0, ⟨L, N, th, hM⟩, hfr, f0, hout⟩ := hLI
  refine lv_aload_n hx hb dL_law_1625 rfl (lv_at hl 3 rfl) ?_
  refine lv_aload_n hx hb dL_law_1626 rfl (lv_at hl 4 rfl) ?_
  refine lv_iload hx hb dL_law_1627 (lv_at hl 0 rfl) ?_
  refine lv_iconst (v := nI 1) hx hb dL_law_1629 (by decide) ?_
  refine t_iadd hx hb dL_law_1630 (nI_add _ _) ?_
  refine g_sld S hI hX hbl hbA (j := i + 1) (by omega) (by omega) dL_law_1631 ?_
  refine lv_aload_n hx hb dL_law_1632 rfl (lv_at hl 4 rfl) ?_
  refine lv_iload hx hb dL_law_1633 (lv_at hl 0 rfl) ?_
  refine lv_iconst (v := nI 2) hx hb dL_law_1635 (by decide) ?_
  refine t_iadd hx hb dL_law_1636 (nI_add _ _) ?_
  refine g_sld S hI hX hbl hbA (j := i + 2) (by omega) (by omega) dL_law_1637 ?_
  refine lv_aload_n hx hb dL_law_1638 rfl (lv_at hl 1 rfl) ?_
  refine g_callSX (As := [.ref hy, .int (xs (i + 1)), .int (xs (i + 2)), .ref ho]) (rest := []) (n := 4) S hE hI hA (h_wasteBy l K _ L1 L2 M hy ho f0 y (xs (i + 1)) (xs (i + 2)) hlS hy0 hout) gL_law_L_wasteBy rfl (by decide +kernel) ⟨Nat.le_of_ble_eq_true rfl, Nat.le_of_ble_eq_true rfl⟩ rfl hl.1 rfl (Nat.le_of_ble_eq_true rfl) dL_law_1639 ⟨by show _ ≤ 601024; omega, by show _ ≤ 7293034; omega⟩ (fun E ce q9 Gx H1 locs1 hx9 => hx9.elim) (fun rv Gc_1639 H locs hp hI => ?_)
  obtain ⟨rfl, hY1, ⟨f1, hout1, hv1⟩, ha1⟩ := hp
  have hM1 : MdC K L h0 th Gc_1639 y N := hM.moved (fun t ht => ha1 t (by omega) (by omega))
  have hle := h_wasteBy_le (y := y) (x := (xs (i + 1))) (k := (xs (i + 2)))
  refine W.eq (g2 := F0 m 1642 ls [.int (nI ((oWasteBy y (xs (i + 1)) (xs (i + 2))).1))]) rfl ?_
  refine lv_istore (lv' := [(5, .int (nI ((oWasteBy y (xs (i + 1)) (xs (i + 2))).1))), (4, .int (nI i)), (3, .ref ho), (2, .ref h0), (1, .ref hy), (0, .ref b)]) hx hb dL_law_1642 hl (by decide) rfl (fun ls hl => ?_)
  refine lv_aload_n hx hb dL_law_1644 rfl (lv_at hl 3 rfl) ?_
  refine lv_aload_n hx hb dL_law_1645 rfl (lv_at hl 5 rfl) ?_
  refine lv_iload hx hb dL_law_1646 (lv_at hl 1 rfl) ?_
  refine lv_iconst (v := nI 1) hx hb dL_law_1648 (by decide) ?_
  refine t_iadd hx hb dL_law_1649 (nI_add _ _) ?_
  refine g_sld S hI hX hbl hbA (j := i + 1) (by omega) (by omega) dL_law_1650 ?_
  refine lv_aload_n hx hb dL_law_1651 rfl (lv_at hl 5 rfl) ?_
  refine lv_iload hx hb dL_law_1652 (lv_at hl 1 rfl) ?_
  refine lv_iconst (v := nI 2) hx hb dL_law_1654 (by decide) ?_
  refine t_iadd hx hb dL_law_1655 (nI_add _ _) ?_
  refine g_sld S hI hX hbl hbA (j := i + 2) (by omega) (by omega) dL_law_1656 ?_
  refine g_callV (As := [.int (xs (i + 1)), .int (xs (i + 2))]) (rest := []) (b := h0) (n := 2) S hE hI hA (p_wasteBy l K _ L h0 th y N (xs (i + 1)) (xs (i + 2)) hM1) gL_law_X8_wasteBy rfl (by decide +kernel) ⟨Nat.le_of_ble_eq_true rfl, Nat.le_of_ble_eq_true rfl⟩ (g_hro hE hI hM1.1 rfl) rfl hl.1 rfl (Nat.le_of_ble_eq_true rfl) dL_law_1657 ⟨by show _ ≤ 601024; omega, by show _ ≤ 7293034; omega⟩ (fun E ce q9 Gx H1 locs1 hx9 => hx9.elim) (fun rv Gc_1657 H locs hp hI => ?_)
  obtain ⟨L9, N9, x9, rfl, hx9v, hM2, ha2⟩ := hp
  have hY2 := hY1.moved (fun t ht => ha2 t (Or.inl ht))
  have hout2 : Gc_1657 (20, 0, 0) = some (ho, .inl (K.2.1 1, 1, .inr (.inl f1))) := (ha2 _ (by decide)).trans hout1
  refine W.eq (g2 := F0 m 1660 ls [.int x9]) rfl ?_
  refine lv_istore (lv' := [(6, .int x9), (5, .int (nI ((oWasteBy y (xs (i + 1)) (xs (i + 2))).1))), (4, .int (nI i)), (3, .ref ho), (2, .ref h0), (1, .ref hy), (0, .ref b)]) hx hb dL_law_1660 hl (by decide) rfl (fun ls hl => ?_)
  refine lv_aload_n hx hb dL_law_1662 rfl (lv_at hl 4 rfl) ?_
  refine g_callV (As := []) (rest := []) (b := h0) (n := 0) S hE hI hA (c_X8_thrown l K _ h0 (oWasteBy y (xs (i + 1)) (xs (i + 2))).1 (L9 30 0) hM2.1 hM2.2.2.1) gL_law_X8_thrown rfl (by decide +kernel) ⟨Nat.le_of_ble_eq_true rfl, Nat.le_of_ble_eq_true rfl⟩ (g_hro hE hI hM2.1 rfl) rfl hl.1 rfl (Nat.le_of_ble_eq_true rfl) dL_law_1663 ⟨by show _ ≤ 601024; omega, by show _ ≤ 7293034; omega⟩ (fun E ce q9 Gx H1 locs1 hx9 => hx9.elim) (fun rv Gc_1663 H locs hp hI => ?_)
  obtain ⟨rfl, hq9⟩ := hp
  rw [hq9] at hI
  refine W.eq (g2 := F0 m 1666 ls [.int (nI ((oWasteBy y (xs (i + 1)) (xs (i + 2))).1))]) rfl ?_
  refine lv_iload hx hb dL_law_1666 (lv_at hl 1 rfl) ?_
  refine lv_icmp_eq (tgt := 1673) hx hb dL_law_1668 (by decide) (fun c_1668 => ?_) (fun c_1668 => ?_)
  · skip
    have c_1668 : ((oWasteBy y (xs (i + 1)) (xs (i + 2))).1) = ((oWasteBy y (xs (i + 1)) (xs (i + 2))).1) := (nI_eq (a := ((oWasteBy y (xs (i + 1)) (xs (i + 2))).1)) (b := ((oWasteBy y (xs (i + 1)) (xs (i + 2))).1)) (by omega) (by omega)).mp c_1668
    refine lv_iload hx hb dL_law_1673 (lv_at hl 1 rfl) ?_
    refine lv_if_ne (tgt := 1690) hx hb dL_law_1675 (by decide) (fun c_1675 => ?_) (fun c_1675 => ?_)
    · skip
      have c_1675 : ((oWasteBy y (xs (i + 1)) (xs (i + 2))).1) ≠ 0 := fun z => c_1675 ((nI_eq (a := ((oWasteBy y (xs (i + 1)) (xs (i + 2))).1)) (b := 0) (by omega) (by omega)).mpr z)
      refine lv_goto (tgt := 1763) hx hb dL_law_1690 (by decide) ?_
      exact W.widen (by omega) (by omega) (kk _ _ _ _ _ hI ⟨hY2, ⟨L9, N9, _, hM2⟩, fr_wasteBy hfr (xs (i + 1)) (xs (i + 2)), f1, hout2⟩ (lv_sub hl [2,3,4,5,6] rfl))
    · skip
      have c_1675 : ((oWasteBy y (xs (i + 1)) (xs (i + 2))).1) = 0 := (nI_eq (a := ((oWasteBy y (xs (i + 1)) (xs (i + 2))).1)) (b := 0) (by omega) (by omega)).mp c_1675
      refine lv_aload_n hx hb dL_law_1678 rfl (lv_at hl 3 rfl) ?_
      refine lv_iconst (v := nI 0) hx hb dL_law_1679 (by decide) ?_
      refine g_lald S hE hI (j := 0) (f := f1) hout2 rfl (by omega) (by decide) dL_law_1680 ?_
      refine lv_iload hx hb dL_law_1681 (lv_at hl 0 rfl) ?_
      refine lv_i2l hx hb dL_law_1683 rfl ?_
      refine g_lcmpE hx hb ((hv1 c_1675).trans (by rw [hx9v c_1675])) dL_law_1684 ?_
      refine lv_if_eq (tgt := 1690) hx hb dL_law_1685 (by decide) (fun c_1685 => ?_) (fun c_1685 => ?_)
      · skip
        have c_1685 : 0 = 0 := (nI_eq (a := 0) (b := 0) (by omega) (by omega)).mp c_1685
        refine lv_goto (tgt := 1763) hx hb dL_law_1690 (by decide) ?_
        exact W.widen (by omega) (by omega) (kk _ _ _ _ _ hI ⟨hY2, ⟨L9, N9, _, hM2⟩, fr_wasteBy hfr (xs (i + 1)) (xs (i + 2)), f1, hout2⟩ (lv_sub hl [2,3,4,5,6] rfl))
      · skip
        have c_1685 : 0 ≠ 0 := fun z => c_1685 ((nI_eq (a := 0) (b := 0) (by omega) (by omega)).mpr z)
        exact absurd rfl c_1685
  · skip
    have c_1668 : ((oWasteBy y (xs (i + 1)) (xs (i + 2))).1) ≠ ((oWasteBy y (xs (i + 1)) (xs (i + 2))).1) := fun z => c_1668 ((nI_eq (a := ((oWasteBy y (xs (i + 1)) (xs (i + 2))).1)) (b := ((oWasteBy y (xs (i + 1)) (xs (i + 2))).1)) (by omega) (by omega)).mpr z)
    exact absurd rfl c_1668
set_option maxHeartbeats 4000000 in
set_option maxRecDepth 100000 in
theorem k_planPays (S : CallFix p m c cL_law 9 s #[Value.ref b] wsL_law RL) (hE : gE K A s s.heap) (hA : ∀ q, s.heap.size ≤ q → A q) (hX : va_X b Ln xs s s.heap) (hbl : b < s.heap.size) (hbA : ¬ A b) (hlS : l.stackTraces = false) (hLn : Ln ≤ 2560) (hI : gI K A s G H locs) (hLI : LI K L1 L2 M hy ho h0 G y) (hi : i + 5 ≤ Ln) (hl : lv_has ls 9 [(4, .int (nI i)), (3, .ref ho), (2, .ref h0), (1, .ref hy), (0, .ref b)]) (hcs : cells + 1040 ≤ 601024 ∧ slots + 12000 ≤ 7293034)
    (kk : ∀ (G1 : gW) (y1 : YV) (H1 : Heap) (locs1 : List Loc) (ls1 : Array Slot), gI K A s G1 H1 locs1 → LI K L1 L2 M hy ho h0 G1 y1 → lv_has ls1 9 [(4, .int (nI i)), (3, .ref ho), (2, .ref h0), (1, .ref hy), (0, .ref b)] → W p l e room_1 s m #[Value.ref b] below meth c H1 locs1 (cells + 1040) (slots + 12000) Q (F0 m 1763 ls1 [])) : W p l e room_1 s m #[Value.ref b] below meth c H locs cells slots Q (F0 m 1693 ls []) := by
  have hx := S.1
  have hb := S.2.1
  have hml := S.2.2.1
  obtain ⟨hy0, ⟨L, N, th, hM⟩, hfr, f0, hout⟩ := hLI
  refine lv_aload_n hx hb dL_law_1693 rfl (lv_at hl 3 rfl) ?_
  refine lv_aload_n hx hb dL_law_1694 rfl (lv_at hl 4 rfl) ?_
  refine lv_iload hx hb dL_law_1695 (lv_at hl 0 rfl) ?_
  refine lv_iconst (v := nI 1) hx hb dL_law_1697 (by decide) ?_
  refine t_iadd hx hb dL_law_1698 (nI_add _ _) ?_
  refine g_sld S hI hX hbl hbA (j := i + 1) (by omega) (by omega) dL_law_1699 ?_
  refine lv_aload_n hx hb dL_law_1700 rfl (lv_at hl 1 rfl) ?_
  refine g_callSX (As := [.ref hy, .int (xs (i + 1)), .ref ho]) (rest := []) (n := 3) S hE hI hA (h_planPays l K _ L1 L2 M hy ho f0 y (xs (i + 1)) hlS hy0 hout) gL_law_L_planPays rfl (by decide +kernel) ⟨Nat.le_of_ble_eq_true rfl, Nat.le_of_ble_eq_true rfl⟩ rfl hl.1 rfl (Nat.le_of_ble_eq_true rfl) dL_law_1701 ⟨by show _ ≤ 601024; omega, by show _ ≤ 7293034; omega⟩ (fun E ce q9 Gx H1 locs1 hx9 => hx9.elim) (fun rv Gc_1701 H locs hp hI => ?_)
  obtain ⟨rfl, hY1, ⟨f1, hout1, hv1⟩, ha1⟩ := hp
  have hM1 : MdC K L h0 th Gc_1701 y N := hM.moved (fun t ht => ha1 t (by omega) (by omega))
  have hle := h_planPays_le (y := y) (x := (xs (i + 1)))
  refine W.eq (g2 := F0 m 1704 ls [.int (nI ((oPays y (xs (i + 1))).1))]) rfl ?_
  refine lv_istore (lv' := [(5, .int (nI ((oPays y (xs (i + 1))).1))), (4, .int (nI i)), (3, .ref ho), (2, .ref h0), (1, .ref hy), (0, .ref b)]) hx hb dL_law_1704 hl (by decide) rfl (fun ls hl => ?_)
  refine lv_aload_n hx hb dL_law_1706 rfl (lv_at hl 3 rfl) ?_
  refine lv_aload_n hx hb dL_law_1707 rfl (lv_at hl 5 rfl) ?_
  refine lv_iload hx hb dL_law_1708 (lv_at hl 1 rfl) ?_
  refine lv_iconst (v := nI 1) hx hb dL_law_1710 (by decide) ?_
  refine t_iadd hx hb dL_law_1711 (nI_add _ _) ?_
  refine g_sld S hI hX hbl hbA (j := i + 1) (by omega) (by omega) dL_law_1712 ?_
  refine g_callV (As := [.int (xs (i + 1))]) (rest := []) (b := h0) (n := 1) S hE hI hA (p_pays l K _ L h0 th y N (xs (i + 1)) hM1) gL_law_X8_planPays rfl (by decide +kernel) ⟨Nat.le_of_ble_eq_true rfl, Nat.le_of_ble_eq_true rfl⟩ (g_hro hE hI hM1.1 rfl) rfl hl.1 rfl (Nat.le_of_ble_eq_true rfl) dL_law_1713 ⟨by show _ ≤ 601024; omega, by show _ ≤ 7293034; omega⟩ (fun E ce q9 Gx H1 locs1 hx9 => hx9.elim) (fun rv Gc_1713 H locs hp hI => ?_)
  obtain ⟨L9, N9, x9, rfl, hx9v, hM2, ha2⟩ := hp
  have hY2 := hY1.moved (fun t ht => ha2 t (Or.inl ht))
  have hout2 : Gc_1713 (20, 0, 0) = some (ho, .inl (K.2.1 1, 1, .inr (.inl f1))) := (ha2 _ (by decide)).trans hout1
  refine W.eq (g2 := F0 m 1716 ls [.int x9]) rfl ?_
  refine lv_istore (lv' := [(6, .int x9), (5, .int (nI ((oPays y (xs (i + 1))).1))), (4, .int (nI i)), (3, .ref ho), (2, .ref h0), (1, .ref hy), (0, .ref b)]) hx hb dL_law_1716 hl (by decide) rfl (fun ls hl => ?_)
  refine lv_aload_n hx hb dL_law_1718 rfl (lv_at hl 4 rfl) ?_
  refine g_callV (As := []) (rest := []) (b := h0) (n := 0) S hE hI hA (c_X8_thrown l K _ h0 (oPays y (xs (i + 1))).1 (L9 30 0) hM2.1 hM2.2.2.1) gL_law_X8_thrown rfl (by decide +kernel) ⟨Nat.le_of_ble_eq_true rfl, Nat.le_of_ble_eq_true rfl⟩ (g_hro hE hI hM2.1 rfl) rfl hl.1 rfl (Nat.le_of_ble_eq_true rfl) dL_law_1719 ⟨by show _ ≤ 601024; omega, by show _ ≤ 7293034; omega⟩ (fun E ce q9 Gx H1 locs1 hx9 => hx9.elim) (fun rv Gc_1719 H locs hp hI => ?_)
  obtain ⟨rfl, hq9⟩ := hp
  rw [hq9] at hI
  refine W.eq (g2 := F0 m 1722 ls [.int (nI ((oPays y (xs (i + 1))).1))]) rfl ?_
  refine lv_iload hx hb dL_law_1722 (lv_at hl 1 rfl) ?_
  refine lv_icmp_eq (tgt := 1729) hx hb dL_law_1724 (by decide) (fun c_1724 => ?_) (fun c_1724 => ?_)
  · skip
    have c_1724 : ((oPays y (xs (i + 1))).1) = ((oPays y (xs (i + 1))).1) := (nI_eq (a := ((oPays y (xs (i + 1))).1)) (b := ((oPays y (xs (i + 1))).1)) (by omega) (by omega)).mp c_1724
    refine lv_iload hx hb dL_law_1729 (lv_at hl 1 rfl) ?_
    refine lv_if_ne (tgt := 1746) hx hb dL_law_1731 (by decide) (fun c_1731 => ?_) (fun c_1731 => ?_)
    · skip
      have c_1731 : ((oPays y (xs (i + 1))).1) ≠ 0 := fun z => c_1731 ((nI_eq (a := ((oPays y (xs (i + 1))).1)) (b := 0) (by omega) (by omega)).mpr z)
      refine lv_goto (tgt := 1763) hx hb dL_law_1746 (by decide) ?_
      exact W.widen (by omega) (by omega) (kk _ _ _ _ _ hI ⟨hY2, ⟨L9, N9, _, hM2⟩, fr_planPays hfr (xs (i + 1)), f1, hout2⟩ (lv_sub hl [2,3,4,5,6] rfl))
    · skip
      have c_1731 : ((oPays y (xs (i + 1))).1) = 0 := (nI_eq (a := ((oPays y (xs (i + 1))).1)) (b := 0) (by omega) (by omega)).mp c_1731
      refine lv_aload_n hx hb dL_law_1734 rfl (lv_at hl 3 rfl) ?_
      refine lv_iconst (v := nI 0) hx hb dL_law_1735 (by decide) ?_
      refine g_lald S hE hI (j := 0) (f := f1) hout2 rfl (by omega) (by decide) dL_law_1736 ?_
      refine lv_iload hx hb dL_law_1737 (lv_at hl 0 rfl) ?_
      refine lv_i2l hx hb dL_law_1739 rfl ?_
      refine g_lcmpE hx hb ((hv1 c_1731).trans (by rw [hx9v c_1731])) dL_law_1740 ?_
      refine lv_if_eq (tgt := 1746) hx hb dL_law_1741 (by decide) (fun c_1741 => ?_) (fun c_1741 => ?_)
      · skip
        have c_1741 : 0 = 0 := (nI_eq (a := 0) (b := 0) (by omega) (by omega)).mp c_1741
        refine lv_goto (tgt := 1763) hx hb dL_law_1746 (by decide) ?_
        exact W.widen (by omega) (by omega) (kk _ _ _ _ _ hI ⟨hY2, ⟨L9, N9, _, hM2⟩, fr_planPays hfr (xs (i + 1)), f1, hout2⟩ (lv_sub hl [2,3,4,5,6] rfl))
      · skip
        have c_1741 : 0 ≠ 0 := fun z => c_1741 ((nI_eq (a := 0) (b := 0) (by omega) (by omega)).mpr z)
        exact absurd rfl c_1741
  · skip
    have c_1724 : ((oPays y (xs (i + 1))).1) ≠ ((oPays y (xs (i + 1))).1) := fun z => c_1724 ((nI_eq (a := ((oPays y (xs (i + 1))).1)) (b := ((oPays y (xs (i + 1))).1)) (by omega) (by omega)).mpr z)
    exact absurd rfl c_1724
set_option maxHeartbeats 4000000 in
set_option maxRecDepth 100000 in
theorem k_mean (S : CallFix p m c cL_law 9 s #[Value.ref b] wsL_law RL) (hE : gE K A s s.heap) (hA : ∀ q, s.heap.size ≤ q → A q) (hX : va_X b Ln xs s s.heap) (hbl : b < s.heap.size) (hbA : ¬ A b) (hlS : l.stackTraces = false) (hLn : Ln ≤ 2560) (hI : gI K A s G H locs) (hLI : LI K L1 L2 M hy ho h0 G y) (hi : i + 5 ≤ Ln) (hl : lv_has ls 9 [(4, .int (nI i)), (3, .ref ho), (2, .ref h0), (1, .ref hy), (0, .ref b)]) (hcs : cells + 1040 ≤ 601024 ∧ slots + 12000 ≤ 7293034)
    (kk : ∀ (G1 : gW) (y1 : YV) (H1 : Heap) (locs1 : List Loc) (ls1 : Array Slot), gI K A s G1 H1 locs1 → LI K L1 L2 M hy ho h0 G1 y1 → lv_has ls1 9 [(4, .int (nI i)), (3, .ref ho), (2, .ref h0), (1, .ref hy), (0, .ref b)] → W p l e room_1 s m #[Value.ref b] below meth c H1 locs1 (cells + 1040) (slots + 12000) Q (F0 m 1763 ls1 [])) : W p l e room_1 s m #[Value.ref b] below meth c H locs cells slots Q (F0 m 1264 ls []) := by
  have hx := S.1
  have hb := S.2.1
  have hml := S.2.2.1
  obtain ⟨hy0, ⟨L, N, th, hM⟩, hfr, f0, hout⟩ := hLI
  refine lv_aload_n hx hb dL_law_1264 rfl (lv_at hl 3 rfl) ?_
  refine g_callV (As := []) (rest := []) (b := hy) (n := 0) S hE hI hA (c_X4_meanArea l K _ L1 L2 M hy y hlS hy0) gL_law_X4_meanArea rfl (by decide +kernel) ⟨Nat.le_of_ble_eq_true rfl, Nat.le_of_ble_eq_true rfl⟩ (g_hro hE hI hy0.1 rfl) rfl hl.1 rfl (Nat.le_of_ble_eq_true rfl) dL_law_1265 ⟨by show _ ≤ 601024; omega, by show _ ≤ 7293034; omega⟩ (fun E ce q9 Gx H1 locs1 hx9 => hx9.elim) (fun rv Gc_1265 H locs hp hI => ?_)
  obtain ⟨rfl, hq9⟩ := hp
  rw [hq9] at hI
  refine W.eq (g2 := F0 m 1268 ls [.double (yMean y)]) rfl ?_
  refine lv_dstore (lv' := [(5, .double (yMean y)), (4, .int (nI i)), (3, .ref ho), (2, .ref h0), (1, .ref hy), (0, .ref b)]) hx hb dL_law_1268 hl (by decide) rfl (fun ls hl => ?_)
  refine lv_aload_n hx hb dL_law_1270 rfl (lv_at hl 3 rfl) ?_
  refine g_callV (As := []) (rest := []) (b := h0) (n := 0) S hE hI hA (c_X8_meanArea l K _ L h0 th y N hM) gL_law_X8_meanArea rfl (by decide +kernel) ⟨Nat.le_of_ble_eq_true rfl, Nat.le_of_ble_eq_true rfl⟩ (g_hro hE hI hM.1 rfl) rfl hl.1 rfl (Nat.le_of_ble_eq_true rfl) dL_law_1271 ⟨by show _ ≤ 601024; omega, by show _ ≤ 7293034; omega⟩ (fun E ce q9 Gx H1 locs1 hx9 => hx9.elim) (fun rv Gc_1271 H locs hp hI => ?_)
  obtain ⟨rfl, hM2, ha2⟩ := hp
  refine W.eq (g2 := F0 m 1274 ls [.double (yMean y)]) rfl ?_
  refine lv_dstore (lv' := [(7, .double (yMean y)), (5, .double (yMean y)), (4, .int (nI i)), (3, .ref ho), (2, .ref h0), (1, .ref hy), (0, .ref b)]) hx hb dL_law_1274 hl (by decide) rfl (fun ls hl => ?_)
  refine lv_dload hx hb dL_law_1276 (lv_at hl 1 rfl) ?_
  refine lv_dload hx hb dL_law_1278 (lv_at hl 0 rfl) ?_
  refine lv_dcmp hx hb dL_law_1280 ?_
  refine lv_if_eq (tgt := 1302) hx hb dL_law_1281 (by decide) (fun c_1281 => ?_) (fun c_1281 => ?_)
  · skip
    refine lv_goto (tgt := 1763) hx hb dL_law_1302 (by decide) ?_
    exact W.widen (by omega) (by omega) (kk _ _ _ _ _ hI ⟨hy0.moved (fun t ht => ha2 t (Or.inl ht)), ⟨L, N, _, hM2⟩, hfr, f0, (ha2 _ (by decide)).trans hout⟩ (lv_sub hl [2,3,4,5,6] rfl))
  · skip
    refine lv_dload hx hb dL_law_1284 (lv_at hl 1 rfl) ?_
    refine lv_dload hx hb dL_law_1286 (lv_at hl 1 rfl) ?_
    refine lv_dcmp hx hb dL_law_1288 ?_
    refine lv_if_eq (tgt := 1300) hx hb dL_law_1289 (by decide) (fun c_1289 => ?_) (fun c_1289 => ?_)
    · skip
      exact absurd c_1289 c_1281
    · skip
      refine lv_dload hx hb dL_law_1292 (lv_at hl 0 rfl) ?_
      refine lv_dload hx hb dL_law_1294 (lv_at hl 0 rfl) ?_
      refine lv_dcmp hx hb dL_law_1296 ?_
      refine lv_if_ne (tgt := 1302) hx hb dL_law_1297 (by decide) (fun c_1297 => ?_) (fun c_1297 => ?_)
      · skip
        refine lv_goto (tgt := 1763) hx hb dL_law_1302 (by decide) ?_
        exact W.widen (by omega) (by omega) (kk _ _ _ _ _ hI ⟨hy0.moved (fun t ht => ha2 t (Or.inl ht)), ⟨L, N, _, hM2⟩, hfr, f0, (ha2 _ (by decide)).trans hout⟩ (lv_sub hl [2,3,4,5,6] rfl))
      · skip
        exact absurd c_1297 c_1281
set_option maxHeartbeats 4000000 in
set_option maxRecDepth 100000 in
theorem k_digest (S : CallFix p m c cL_law 9 s #[Value.ref b] wsL_law RL) (hE : gE K A s s.heap) (hA : ∀ q, s.heap.size ≤ q → A q) (hX : va_X b Ln xs s s.heap) (hbl : b < s.heap.size) (hbA : ¬ A b) (hlS : l.stackTraces = false) (hLn : Ln ≤ 2560) (hI : gI K A s G H locs) (hLI : LI K L1 L2 M hy ho h0 G y) (hi : i + 5 ≤ Ln) (hl : lv_has ls 9 [(4, .int (nI i)), (3, .ref ho), (2, .ref h0), (1, .ref hy), (0, .ref b)]) (hcs : cells + 1040 ≤ 601024 ∧ slots + 12000 ≤ 7293034)
    (kk : ∀ (G1 : gW) (y1 : YV) (H1 : Heap) (locs1 : List Loc) (ls1 : Array Slot), gI K A s G1 H1 locs1 → LI K L1 L2 M hy ho h0 G1 y1 → lv_has ls1 9 [(4, .int (nI i)), (3, .ref ho), (2, .ref h0), (1, .ref hy), (0, .ref b)] → W p l e room_1 s m #[Value.ref b] below meth c H1 locs1 (cells + 1040) (slots + 12000) Q (F0 m 1763 ls1 [])) : W p l e room_1 s m #[Value.ref b] below meth c H locs cells slots Q (F0 m 1749 ls []) := by
  have hx := S.1
  have hb := S.2.1
  have hml := S.2.2.1
  obtain ⟨hy0, ⟨L, N, th, hM⟩, hfr, f0, hout⟩ := hLI
  refine lv_aload_n hx hb dL_law_1749 rfl (lv_at hl 3 rfl) ?_
  refine g_callV (As := []) (rest := []) (b := hy) (n := 0) S hE hI hA (c_X4_digest l K _ L1 L2 M hy y hlS hy0) gL_law_X4_digest rfl (by decide +kernel) ⟨Nat.le_of_ble_eq_true rfl, Nat.le_of_ble_eq_true rfl⟩ (g_hro hE hI hy0.1 rfl) rfl hl.1 rfl (Nat.le_of_ble_eq_true rfl) dL_law_1750 ⟨by show _ ≤ 601024; omega, by show _ ≤ 7293034; omega⟩ (fun E ce q9 Gx H1 locs1 hx9 => hx9.elim) (fun rv Gc_1750 H locs hp hI => ?_)
  obtain ⟨rfl, hY1, ha1⟩ := hp
  have hM1 : MdC K L h0 th Gc_1750 y N := hM.moved (fun t ht => ha1 t (by omega))
  refine W.eq (g2 := F0 m 1753 ls [.long (yDigest y)]) rfl ?_
  refine lv_aload_n hx hb dL_law_1753 rfl (lv_at hl 2 rfl) ?_
  refine g_callV (As := []) (rest := [.long (yDigest y)]) (b := h0) (n := 0) S hE hI hA (c_X8_digest l K _ L h0 th y N hM1) gL_law_X8_digest rfl (by decide +kernel) ⟨Nat.le_of_ble_eq_true rfl, Nat.le_of_ble_eq_true rfl⟩ (g_hro hE hI hM1.1 rfl) rfl hl.1 rfl (Nat.le_of_ble_eq_true rfl) dL_law_1754 ⟨by show _ ≤ 601024; omega, by show _ ≤ 7293034; omega⟩ (fun E ce q9 Gx H1 locs1 hx9 => hx9.elim) (fun rv Gc_1754 H locs hp hI => ?_)
  obtain ⟨rfl, hM2, ha2⟩ := hp
  refine W.eq (g2 := F0 m 1757 ls [.long (yDigest y), .long (yDigest y)]) rfl ?_
  refine g_lcmpE hx hb rfl dL_law_1757 ?_
  refine lv_if_eq (tgt := 1763) hx hb dL_law_1758 (by decide) (fun c_1758 => ?_) (fun c_1758 => ?_)
  · skip
    have c_1758 : 0 = 0 := (nI_eq (a := 0) (b := 0) (by omega) (by omega)).mp c_1758
    exact W.widen (by omega) (by omega) (kk _ _ _ _ _ hI ⟨hY1.moved (fun t ht => ha2 t (Or.inl ht)), ⟨L, N, _, hM2⟩, hfr, f0, (ha2 _ (by decide)).trans ((ha1 _ (by decide)).trans hout)⟩ (lv_sub hl [0,1,2,3,4] rfl))
  · skip
    have c_1758 : 0 ≠ 0 := fun z => c_1758 ((nI_eq (a := 0) (b := 0) (by omega) (by omega)).mpr z)
    exact absurd rfl c_1758
end GK
