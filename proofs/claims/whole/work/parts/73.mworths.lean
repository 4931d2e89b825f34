/-! the reference's tables of worths -/
def TabP (K : gK) (rt : Nat) (G : gW) (q : Nat) (Rr : Nat → Nat) (V : Nat → Nat → Nat) (a b : Nat) : Prop :=
  G (rt, 42, 0) = some (q, cR (K.2.1 5) 25 (fun i => if i < 25 then some (Rr i) else none)) ∧ ∀ i, i < 25 → ∃ f : Nat → Int32, G (rt, 41, i) = some (Rr i, cI K 25 f) ∧ ∀ j, 1 ≤ i → 1 ≤ j → j ≤ 24 → (i < a ∨ (i = a ∧ j < b)) → f j = nI (V i j)
theorem TabP.moved {K : gK} {rt : Nat} {G G1 : gW} {q : Nat} {Rr : Nat → Nat} {V : Nat → Nat → Nat} {a b : Nat} (h : TabP K rt G q Rr V a b) (ho : ∀ t : gTag, t.1 = rt → G1 t = G t) : TabP K rt G1 q Rr V a b :=
  ⟨(ho _ rfl).trans h.1, fun i hi => by obtain ⟨f, e1, e2⟩ := h.2 i hi; exact ⟨f, (ho _ rfl).trans e1, e2⟩⟩
theorem TabP.new {K : gK} {rt : Nat} {G : gW} {q : Nat} {V : Nat → Nat → Nat} : TabP K rt (g2D K G rt 41 q 25 25) q (fun i => q + 1 + i) V 1 1 :=
  ⟨g2D_o, fun i hi => ⟨_, g2D_i hi, fun j h1 h2 h3 h4 => by omega⟩⟩
theorem TabP.next {K : gK} {rt : Nat} {G : gW} {q : Nat} {Rr : Nat → Nat} {V : Nat → Nat → Nat} {a : Nat} (h : TabP K rt G q Rr V a 25) : TabP K rt G q Rr V (a + 1) 1 :=
  ⟨h.1, fun i hi => by obtain ⟨f, e1, e2⟩ := h.2 i hi; exact ⟨f, e1, fun j h1 h2 h3 h4 => e2 j h1 h2 h3 (by omega)⟩⟩
theorem TabP.put {K : gK} {rt : Nat} {G : gW} {q : Nat} {Rr : Nat → Nat} {V : Nat → Nat → Nat} {a b : Nat} {f : Nat → Int32} (h : TabP K rt G q Rr V a b) (ha : a < 25) (hb : b < 25) (hf : ∀ j, 1 ≤ a → 1 ≤ j → j ≤ 24 → (a < a ∨ (a = a ∧ j < b)) → f j = nI (V a j)) : TabP K rt (gset G (rt, 41, a) (Rr a) (cI K 25 (upd f b (nI (V a b))))) q Rr V a (b + 1) := by
  refine ⟨(gset_ne (by simp)).trans h.1, fun i hi => ?_⟩
  by_cases e : i = a
  · subst e
    refine ⟨_, gset_eq _ _ _ _, fun j h1 h2 h3 h4 => ?_⟩
    by_cases e2 : j = b
    · subst e2
      rw [pk_us]
    · rw [pk_un e2]
      exact hf j h1 h2 h3 (by omega)
  · obtain ⟨f9, e1, e2⟩ := h.2 i hi
    exact ⟨f9, (gset_ne (by simp [e])).trans e1, fun j h1 h2 h3 h4 => e2 j h1 h2 h3 (by omega)⟩
/-- a whole table -/
def Tab (K : gK) (rt : Nat) (G : gW) (q : Nat) (V : Nat → Nat → Nat) : Prop := ∃ Rr : Nat → Nat, G (rt, 42, 0) = some (q, cR (K.2.1 5) 25 (fun i => if i < 25 then some (Rr i) else none)) ∧ ∀ i, i < 25 → ∃ f : Nat → Int32, G (rt, 41, i) = some (Rr i, cI K 25 f) ∧ ∀ j, 1 ≤ i → 1 ≤ j → j ≤ 24 → f j = nI (V i j)
theorem TabP.all {K : gK} {rt : Nat} {G : gW} {q : Nat} {Rr : Nat → Nat} {V : Nat → Nat → Nat} (h : TabP K rt G q Rr V 25 1) : Tab K rt G q V := ⟨Rr, h.1, fun i hi => by obtain ⟨f, e1, e2⟩ := h.2 i hi; exact ⟨f, e1, fun j h1 h2 h3 => e2 j h1 h2 h3 (by omega)⟩⟩
theorem Tab.moved {K : gK} {rt : Nat} {G G1 : gW} {q : Nat} {V : Nat → Nat → Nat} (h : Tab K rt G q V) (ho : ∀ t : gTag, t.1 = rt → G1 t = G t) : Tab K rt G1 q V := by
  obtain ⟨Rr, h1, h2⟩ := h
  exact ⟨Rr, (ho _ rfl).trans h1, fun i hi => by obtain ⟨f, e1, e2⟩ := h2 i hi; exact ⟨f, (ho _ rfl).trans e1, e2⟩⟩
theorem mMY {K : gK} {r rt : Nat} {L : Nat → Nat → Nat} {G G1 : gW} {y : YV} {N : Nat} (hm : MY K r L G y N) (hrt : r ≠ rt ∧ rt ≠ 50) (hof : ∀ u : gTag, u.1 ≠ rt → G1 u = G u) : MY K r L G1 y N := hm.moved (fun t ht => hof t (by rw [ht]; exact hrt.1)) (fun m _ => hof _ (Ne.symm hrt.2))
theorem ySt2_le {K : gK} {r : Nat} {L : Nat → Nat → Nat} {G : gW} {y : YV} {N g : Nat} (hm : MY K r L G y N) (w h : Nat) : (ySt2 y g w h).2 ≤ 999 := bestN_le (fun j hj => (hm.2.2.2.2 j hj).2.2.2.2.2.2.2.2.1)
theorem mx_lt {f : Nat → Nat} {p0 B : Nat} (h0 : p0 < B) : ∀ {n : Nat}, (∀ k, 1 ≤ k → k ≤ n → f k < B) → mx f p0 n < B
  | 0, _ => h0
  | n + 1, h => by
    rw [mx]
    exact Nat.max_lt.mpr ⟨mx_lt h0 (fun k a b => h k a (by omega)), h (n + 1) (by omega) (Nat.le_refl _)⟩
set_option maxHeartbeats 4000000 in
set_option maxRecDepth 100000 in
/-- Yard.worths(grain) -/
theorem c_X7_worths (l : Launch) (K : gK) (G : gW) (r : Nat) (L : Nat → Nat → Nat) (y : YV) (N : Nat) (g rt : Nat) (hm : MY K r L G y N) (hg1 : g ≤ 1) (hrt : r ≠ rt ∧ rt ≠ 50) : gM l yX7_worths wsX7_worths 6 134 26 650 K [.ref (L 30 0), .int (nI g)] G (fun r9 G1 => ∃ q, r9 = some (.ref q) ∧ Tab K rt G1 q (wV (ySt2 y g) (yF y)) ∧ ∀ u : gTag, u.1 ≠ rt → G1 u = G u) (gNo) := by
  refine gM.of (cc := cX7_worths) (maxL := 7) (ret := (some (.array (.array .int)))) (by decide) rfl (Nat.le_of_ble_eq_true rfl) ?_
  intro p e s m below meth c A S hr hlocks htab hname hE hA hI ls hl
  have hx := S.1
  have hb := S.2.1
  have hml := S.2.2.1
  have hl : lv_has ls 7 [(0, .ref (L 30 0)), (1, .int (nI g))] := hl
  have hf2 := hm.1.2.1
  obtain ⟨V, hV⟩ : ∃ V, V = wV (ySt2 y g) (yF y) := ⟨_, rfl⟩
  have hVle : ∀ w h, 1 ≤ w → 1 ≤ h → w ≤ 24 → h ≤ 24 → V w h ≤ 575424 := fun w h h1 h2 h3 h4 => by rw [hV]; exact wV_le (ySt2_le hm) h1 h2 h3 h4
  obtain ⟨H, hHe⟩ : ∃ z, z = s.heap := ⟨_, rfl⟩
  obtain ⟨locs, hLe⟩ : ∃ z : List Loc, z = [] := ⟨_, rfl⟩
  rw [← hHe, ← hLe]
  have hI : gI K A s G H locs := by rw [hHe, hLe]; exact hI
  clear hHe hLe
  refine lv_bipush (v := nI 25) hx hb dX7_worths_0 (by decide) ?_
  refine lv_bipush (v := nI 25) hx hb dX7_worths_2 (by decide) ?_
  refine g_mna S hE hI hA (List.mem_cons_of_mem _ (List.mem_append_left _ (List.mem_append_left _ (List.mem_append_left _ (List.mem_append_left _ (List.mem_of_getElem? (i := 0) rfl)))))) (List.mem_cons_of_mem _ (List.mem_append_left _ (List.mem_append_left _ (List.mem_append_left _ (List.mem_append_left _ (List.mem_of_getElem? (i := 1) rfl)))))) (N := 25) (M := 25) (by decide) (by decide) rt 41 (by show _ ≤ 26; omega) (by show _ ≤ 650; omega) dX7_worths_4 (fun q_4 H hI => ?_)
  obtain ⟨Rr, hRr⟩ : ∃ z : Nat → Nat, z = fun i => q_4 + 1 + i := ⟨_, rfl⟩
  obtain ⟨GT, hGT⟩ : ∃ z, z = g2D K G rt 41 q_4 25 25 := ⟨_, rfl⟩
  rw [← hGT] at hI
  have htb0 : TabP K rt GT q_4 Rr V 1 1 := by rw [hGT, hRr]; exact TabP.new
  have hof0 : ∀ u : gTag, u.1 ≠ rt → GT u = G u := fun u hu => by rw [hGT]; exact g2D_n (Or.inl hu)
  refine lv_astore_n (lv' := [(2, .ref q_4), (0, .ref (L 30 0)), (1, .int (nI g))]) hx hb dX7_worths_8 rfl hl (by decide) rfl (fun ls hl => ?_)
  refine lv_iconst (v := nI 1) hx hb dX7_worths_9 (by decide) ?_
  refine lv_istore_n (lv' := [(3, .int (nI 1)), (2, .ref q_4), (0, .ref (L 30 0)), (1, .int (nI g))]) hx hb dX7_worths_10 rfl hl (by decide) rfl (fun ls hl => ?_)
  have L11 : ∀ (n : Nat) (a : Nat) (G1 : gW) (H : Heap) (locs : List Loc) (ls : Array Slot) (hn : 25 - a < n) (ha : 1 ≤ a ∧ a ≤ 25) (htb1 : TabP K rt G1 q_4 Rr V a 1) (hof1 : ∀ u : gTag, u.1 ≠ rt → G1 u = G u), gI K A s G1 H locs → lv_has ls 7 [(0, .ref (L 30 0)), (1, .int (nI g)), (2, .ref q_4), (3, .int (nI a))] → W p l e (gRoom 6 134 26 650) s m ([.ref (L 30 0), .int (nI g)] : List Value).toArray below meth c H locs 26 650 (gEnd K below (fun r9 G1 => ∃ q, r9 = some (.ref q) ∧ Tab K rt G1 q (wV (ySt2 y g) (yF y)) ∧ ∀ u : gTag, u.1 ≠ rt → G1 u = G u) (gNo) A ([.ref (L 30 0), .int (nI g)] : List Value).toArray s 26 650) (F0 m 11 ls []) := by
    clear hI hl
    intro n
    induction n with
    | zero =>
      intro a G1 H locs ls hn ha htb1 hof1 hI hl
      exact absurd hn (Nat.not_lt_zero _)
    | succ n ih =>
      intro a G1 H locs ls hn ha htb1 hof1 hI hl
      have hm1 := mMY hm hrt hof1
      refine lv_iload_n hx hb dX7_worths_11 rfl (lv_at hl 3 rfl) ?_
      refine lv_bipush (v := nI 24) hx hb dX7_worths_12 (by decide) ?_
      refine lv_icmp_gt (tgt := 155) hx hb dX7_worths_14 (by decide) (fun c_14 => ?_) (fun c_14 => ?_)
      · skip
        have c_14 : 24 < a := (nI_ltI (a := 24) (b := a) (by omega) (by omega)).mp c_14
        refine lv_aload_n hx hb dX7_worths_155 rfl (lv_at hl 2 rfl) ?_
        have hfin : TabP K rt G1 q_4 Rr V 25 1 := by obtain rfl : a = 25 := (by omega); exact htb1
        exact g_aret S hI hr (Or.inr ⟨_, rfl⟩) (Or.inr ⟨_, rfl⟩) hlocks (by omega) (by omega) dX7_worths_156 ⟨q_4, rfl, by rw [← hV]; exact hfin.all, hof1⟩
      · skip
        have c_14 : a ≤ 24 := Nat.not_lt.mp (fun z => c_14 ((nI_ltI (a := 24) (b := a) (by omega) (by omega)).mpr z))
        refine lv_iconst (v := nI 1) hx hb dX7_worths_17 (by decide) ?_
        refine lv_istore (lv' := [(4, .int (nI 1)), (0, .ref (L 30 0)), (1, .int (nI g)), (2, .ref q_4), (3, .int (nI a))]) hx hb dX7_worths_18 hl (by decide) rfl (fun ls hl => ?_)
        have L20 : ∀ (n : Nat) (b : Nat) (G2 : gW) (H : Heap) (locs : List Loc) (ls : Array Slot) (hn : 25 - b < n) (hbr : 1 ≤ b ∧ b ≤ 25) (htb2 : TabP K rt G2 q_4 Rr V a b) (hof2 : ∀ u : gTag, u.1 ≠ rt → G2 u = G u), gI K A s G2 H locs → lv_has ls 7 [(0, .ref (L 30 0)), (1, .int (nI g)), (2, .ref q_4), (3, .int (nI a)), (4, .int (nI b))] → W p l e (gRoom 6 134 26 650) s m ([.ref (L 30 0), .int (nI g)] : List Value).toArray below meth c H locs 26 650 (gEnd K below (fun r9 G1 => ∃ q, r9 = some (.ref q) ∧ Tab K rt G1 q (wV (ySt2 y g) (yF y)) ∧ ∀ u : gTag, u.1 ≠ rt → G1 u = G u) (gNo) A ([.ref (L 30 0), .int (nI g)] : List Value).toArray s 26 650) (F0 m 20 ls []) := by
          clear hI hl
          intro n
          induction n with
          | zero =>
            intro b G2 H locs ls hn hbr htb2 hof2 hI hl
            exact absurd hn (Nat.not_lt_zero _)
          | succ n ih20 =>
            intro b G2 H locs ls hn hbr htb2 hof2 hI hl
            have hm2 := mMY hm hrt hof2
            refine lv_iload hx hb dX7_worths_20 (lv_at hl 4 rfl) ?_
            refine lv_bipush (v := nI 24) hx hb dX7_worths_22 (by decide) ?_
            refine lv_icmp_gt (tgt := 149) hx hb dX7_worths_24 (by decide) (fun c_24 => ?_) (fun c_24 => ?_)
            · skip
              have c_24 : 24 < b := (nI_ltI (a := 24) (b := b) (by omega) (by omega)).mp c_24
              refine lv_iinc (v := nI (a + 1)) (lv' := [(3, .int (nI (a + 1))), (0, .ref (L 30 0)), (1, .int (nI g)), (2, .ref q_4), (4, .int (nI b))]) hx hb dX7_worths_149 hl (k := 3) rfl (nI_add _ 1) (by decide) rfl (fun ls hl => ?_)
              refine lv_goto (tgt := 11) hx hb dX7_worths_152 (by decide) ?_
              exact W.widen (by omega) (by omega) (ih (a + 1) G2 H locs ls (by omega) (by omega) (by obtain rfl : b = 25 := (by omega); exact htb2.next) hof2 hI (lv_sub hl [1,2,3,0] rfl))
            · skip
              have c_24 : b ≤ 24 := Nat.not_lt.mp (fun z => c_24 ((nI_ltI (a := 24) (b := b) (by omega) (by omega)).mpr z))
              refine lv_aload_n hx hb dX7_worths_27 rfl (lv_at hl 0 rfl) ?_
              refine lv_iload_n hx hb dX7_worths_28 rfl (lv_at hl 3 rfl) ?_
              refine lv_iload hx hb dX7_worths_29 (lv_at hl 4 rfl) ?_
              refine lv_iload_n hx hb dX7_worths_31 rfl (lv_at hl 1 rfl) ?_
              refine g_callV (As := [.int (nI a), .int (nI b), .int (nI g)]) (rest := []) (b := (L 30 0)) (n := 3) S hE hI hA (c_X7_single l K _ r L y N a b g hm2 ⟨by omega, by omega, hg1⟩) gX7_worths_X7_single rfl (by decide +kernel) ⟨Nat.le_of_ble_eq_true rfl, Nat.le_of_ble_eq_true rfl⟩ (g_hro hE hI hm2.1.1 rfl) rfl hl.1 rfl (Nat.le_of_ble_eq_true rfl) dX7_worths_32 ⟨by show _ ≤ 26; omega, by show _ ≤ 650; omega⟩ (fun E ce q9 Gx H1 locs1 hx9 => hx9.elim) (fun rv Gc_32 H locs hp hI => ?_)
              obtain ⟨rfl, hq9⟩ := hp
              rw [hq9] at hI
              refine W.eq (g2 := F0 m 35 ls [.int (nI ((yStone y a b g).2))]) rfl ?_
              refine lv_istore (lv' := [(5, .int (nI ((yStone y a b g).2))), (0, .ref (L 30 0)), (1, .int (nI g)), (2, .ref q_4), (3, .int (nI a)), (4, .int (nI b))]) hx hb dX7_worths_35 hl (by decide) rfl (fun ls hl => ?_)
              refine lv_iconst (v := nI 1) hx hb dX7_worths_37 (by decide) ?_
              refine lv_istore (lv' := [(6, .int (nI 1)), (5, .int (nI ((yStone y a b g).2))), (0, .ref (L 30 0)), (1, .int (nI g)), (2, .ref q_4), (3, .int (nI a)), (4, .int (nI b))]) hx hb dX7_worths_38 hl (by decide) rfl (fun ls hl => ?_)
              have L40 : ∀ (n : Nat) (k best : Nat) (H : Heap) (locs : List Loc) (ls : Array Slot) (hn : a - k < n) (hk : k = 0 ∨ k + 1 + yF y ≤ a) (hbest : best = mx (fV V (yF y) a b) (yStone y a b g).2 k) (hbb : best < 2 ^ 30), gI K A s G2 H locs → lv_has ls 7 [(0, .ref (L 30 0)), (1, .int (nI g)), (2, .ref q_4), (3, .int (nI a)), (4, .int (nI b)), (5, .int (nI best)), (6, .int (nI (k + 1)))] → W p l e (gRoom 6 134 26 650) s m ([.ref (L 30 0), .int (nI g)] : List Value).toArray below meth c H locs (26 + 0) (650 + 0) (gEnd K below (fun r9 G1 => ∃ q, r9 = some (.ref q) ∧ Tab K rt G1 q (wV (ySt2 y g) (yF y)) ∧ ∀ u : gTag, u.1 ≠ rt → G1 u = G u) (gNo) A ([.ref (L 30 0), .int (nI g)] : List Value).toArray s 26 650) (F0 m 40 ls []) := by
                clear hI hl
                intro n
                induction n with
                | zero =>
                  intro k best H locs ls hn hk hbest hbb hI hl
                  exact absurd hn (Nat.not_lt_zero _)
                | succ n ih40 =>
                  intro k best H locs ls hn hk hbest hbb hI hl
                  refine lv_iload hx hb dX7_worths_40 (lv_at hl 6 rfl) ?_
                  refine lv_aload_n hx hb dX7_worths_42 rfl (lv_at hl 0 rfl) ?_
                  refine g_get S hE hI (C := RX7) (T := TX7) (N := 3) (ref := "StonecutterYardModel$Yard") (fun w h => (List.mem_cons_of_mem _ (List.mem_append_left _ (List.mem_append_left _ (List.mem_append_right _ h))))) hm2.1.1 rfl 2 (by decide) (List.mem_cons_of_mem _ (List.mem_append_left _ (List.mem_append_left _ (List.mem_append_left _ (List.mem_append_left _ (List.mem_of_getElem? (i := 2) rfl)))))) (fun _ h9 => h9) (v := .int (nI (yF y))) rfl dX7_worths_43 ?_
                  refine t_iadd hx hb dX7_worths_46 (nI_add _ _) ?_
                  refine lv_iload_n hx hb dX7_worths_47 rfl (lv_at hl 3 rfl) ?_
                  refine lv_icmp_ge (tgt := 86) hx hb dX7_worths_48 (by decide) (fun c_48 => ?_) (fun c_48 => ?_)
                  · skip
                    have c_48 : a ≤ ((k + 1) + (yF y)) := (nI_leI (a := a) (b := ((k + 1) + (yF y))) (by omega) (by omega)).mp c_48
                    refine lv_iconst (v := nI 1) hx hb dX7_worths_86 (by decide) ?_
                    refine lv_istore (lv' := [(6, .int (nI 1)), (0, .ref (L 30 0)), (1, .int (nI g)), (2, .ref q_4), (3, .int (nI a)), (4, .int (nI b)), (5, .int (nI best))]) hx hb dX7_worths_87 hl (by decide) rfl (fun ls hl => ?_)
                    have L89 : ∀ (n : Nat) (k best : Nat) (H : Heap) (locs : List Loc) (ls : Array Slot) (hn : b - k < n) (hk : k = 0 ∨ k + 1 + yF y ≤ b) (hbest : best = mx (fH V (yF y) a b) (mx (fV V (yF y) a b) (yStone y a b g).2 (a - yF y - 1)) k) (hbb : best < 2 ^ 30), gI K A s G2 H locs → lv_has ls 7 [(0, .ref (L 30 0)), (1, .int (nI g)), (2, .ref q_4), (3, .int (nI a)), (4, .int (nI b)), (5, .int (nI best)), (6, .int (nI (k + 1)))] → W p l e (gRoom 6 134 26 650) s m ([.ref (L 30 0), .int (nI g)] : List Value).toArray below meth c H locs (26 + 0) (650 + 0) (gEnd K below (fun r9 G1 => ∃ q, r9 = some (.ref q) ∧ Tab K rt G1 q (wV (ySt2 y g) (yF y)) ∧ ∀ u : gTag, u.1 ≠ rt → G1 u = G u) (gNo) A ([.ref (L 30 0), .int (nI g)] : List Value).toArray s 26 650) (F0 m 89 ls []) := by
                      clear hI hl
                      intro n
                      induction n with
                      | zero =>
                        intro k best H locs ls hn hk hbest hbb hI hl
                        exact absurd hn (Nat.not_lt_zero _)
                      | succ n ih89 =>
                        intro k best H locs ls hn hk hbest hbb hI hl
                        refine lv_iload hx hb dX7_worths_89 (lv_at hl 6 rfl) ?_
                        refine lv_aload_n hx hb dX7_worths_91 rfl (lv_at hl 0 rfl) ?_
                        refine g_get S hE hI (C := RX7) (T := TX7) (N := 3) (ref := "StonecutterYardModel$Yard") (fun w h => (List.mem_cons_of_mem _ (List.mem_append_left _ (List.mem_append_left _ (List.mem_append_right _ h))))) hm2.1.1 rfl 2 (by decide) (List.mem_cons_of_mem _ (List.mem_append_left _ (List.mem_append_left _ (List.mem_append_left _ (List.mem_append_left _ (List.mem_of_getElem? (i := 2) rfl)))))) (fun _ h9 => h9) (v := .int (nI (yF y))) rfl dX7_worths_92 ?_
                        refine t_iadd hx hb dX7_worths_95 (nI_add _ _) ?_
                        refine lv_iload hx hb dX7_worths_96 (lv_at hl 4 rfl) ?_
                        refine lv_icmp_ge (tgt := 135) hx hb dX7_worths_98 (by decide) (fun c_98 => ?_) (fun c_98 => ?_)
                        · skip
                          have c_98 : b ≤ ((k + 1) + (yF y)) := (nI_leI (a := b) (b := ((k + 1) + (yF y))) (by omega) (by omega)).mp c_98
                          obtain ⟨fa2, hra, hra2⟩ := htb2.2 a (by omega)
                          refine lv_aload_n hx hb dX7_worths_135 rfl (lv_at hl 2 rfl) ?_
                          refine lv_iload_n hx hb dX7_worths_136 rfl (lv_at hl 3 rfl) ?_
                          refine g_aald S hE hI (j := a) (f := (fun i => if i < 25 then some (Rr i) else none)) htb2.1 (k := 5) rfl rfl rfl (by omega) (by decide) (v := .ref (Rr a)) (by show va_rf (if _ then _ else _) = _; rw [if_pos (by omega)]; rfl) dX7_worths_137 ?_
                          refine lv_iload hx hb dX7_worths_138 (lv_at hl 4 rfl) ?_
                          refine lv_iload hx hb dX7_worths_140 (lv_at hl 5 rfl) ?_
                          refine g_iast S hE hI (j := b) (f := fa2) hra rfl (by omega) (Nat.le_of_ble_eq_true rfl) dX7_worths_142 (fun H locs hI => ?_)
                          have hI : gI K A s (gset G2 (rt, 41, a) (Rr a) (.inl (K.2.1 0, 25, .inl (upd fa2 b (nI best))))) H locs := hI
                          obtain ⟨G_1, hG_1⟩ : ∃ z, z = gset G2 (rt, 41, a) (Rr a) (.inl (K.2.1 0, 25, .inl (upd fa2 b (nI best)))) := ⟨_, rfl⟩
                          rw [← hG_1] at hI
                          have yd_G_1 : G_1 (r, 30, 0) = some ((L 30 0), .inr (8, [.ref (L 31 0), .ref (L 33 0), .int (nI (yF y))])) := by rw [hG_1, gset_ne (fun z9 => hrt.1 (congrArg Prod.fst z9))]; exact hm2.1.1
                          have t_G_1 : G_1 (rt, 42, 0) = some (q_4, cR (K.2.1 5) 25 (fun i => if i < 25 then some (Rr i) else none)) := by rw [hG_1, gset_ne (by simp)]; exact htb2.1
                          have ra_G_1 : G_1 (rt, 41, a) = some ((Rr a), .inl (K.2.1 0, 25, .inl (upd fa2 b (nI best)))) := by rw [hG_1]; exact gset_eq _ _ _ _
                          have hfin : best = V a b := by rw [hbest, show k = b - yF y - 1 by omega, hV]; exact (wV_all (by omega) (by omega)).symm
                          rw [hfin] at hG_1
                          have htb3 : TabP K rt G_1 q_4 Rr V a (b + 1) := by rw [hG_1]; exact htb2.put (by omega) (by omega) hra2
                          have hof3 : ∀ u : gTag, u.1 ≠ rt → G_1 u = G u := fun u hu => by rw [hG_1, gset_ne (fun z9 => hu (by rw [z9]))]; exact hof2 u hu
                          refine lv_iinc (v := nI (b + 1)) (lv' := [(4, .int (nI (b + 1))), (0, .ref (L 30 0)), (1, .int (nI g)), (2, .ref q_4), (3, .int (nI a)), (5, .int (nI best)), (6, .int (nI (k + 1)))]) hx hb dX7_worths_143 hl (k := 4) rfl (nI_add _ 1) (by decide) rfl (fun ls hl => ?_)
                          refine lv_goto (tgt := 20) hx hb dX7_worths_146 (by decide) ?_
                          exact W.widen (by omega) (by omega) (ih20 (b + 1) G_1 H locs ls (by omega) (by omega) htb3 hof3 hI (lv_sub hl [1,2,3,4,0] rfl))
                        · skip
                          have c_98 : ((k + 1) + (yF y)) < b := Nat.not_le.mp (fun z => c_98 ((nI_leI (a := b) (b := ((k + 1) + (yF y))) (by omega) (by omega)).mpr z))
                          have e1 : V a (k + 1) ≤ 575424 := hVle _ _ (by omega) (by omega) (by omega) (by omega)
                          have e2 : V a (b - yF y - (k + 1)) ≤ 575424 := hVle _ _ (by omega) (by omega) (by omega) (by omega)
                          obtain ⟨f1, hr1, hv1⟩ := htb2.2 a (by omega)
                          refine lv_iload hx hb dX7_worths_101 (lv_at hl 5 rfl) ?_
                          refine lv_aload_n hx hb dX7_worths_103 rfl (lv_at hl 2 rfl) ?_
                          refine lv_iload_n hx hb dX7_worths_104 rfl (lv_at hl 3 rfl) ?_
                          refine g_aald S hE hI (j := a) (f := (fun i => if i < 25 then some (Rr i) else none)) htb2.1 (k := 5) rfl rfl rfl (by omega) (by decide) (v := .ref (Rr a)) (by show va_rf (if _ then _ else _) = _; rw [if_pos (by omega)]; rfl) dX7_worths_105 ?_
                          refine lv_iload hx hb dX7_worths_106 (lv_at hl 6 rfl) ?_
                          refine g_iald S hE hI (j := (k + 1)) (f := f1) hr1 rfl (by omega) (by decide) dX7_worths_108 ?_
                          refine W.eq (g2 := F0 m 109 ls [.int (nI (V a (k + 1))), .int (nI best)]) (by rw [hv1 _ (by omega) (by omega) (by omega) (by omega)]) ?_
                          refine lv_aload_n hx hb dX7_worths_109 rfl (lv_at hl 2 rfl) ?_
                          refine lv_iload_n hx hb dX7_worths_110 rfl (lv_at hl 3 rfl) ?_
                          refine g_aald S hE hI (j := a) (f := (fun i => if i < 25 then some (Rr i) else none)) htb2.1 (k := 5) rfl rfl rfl (by omega) (by decide) (v := .ref (Rr a)) (by show va_rf (if _ then _ else _) = _; rw [if_pos (by omega)]; rfl) dX7_worths_111 ?_
                          refine lv_iload hx hb dX7_worths_112 (lv_at hl 4 rfl) ?_
                          refine lv_iload hx hb dX7_worths_114 (lv_at hl 6 rfl) ?_
                          refine t_isub hx hb dX7_worths_116 (v := nI (b - (k + 1))) (pk_sub (by omega)) ?_
                          refine lv_aload_n hx hb dX7_worths_117 rfl (lv_at hl 0 rfl) ?_
                          refine g_get S hE hI (C := RX7) (T := TX7) (N := 3) (ref := "StonecutterYardModel$Yard") (fun w h => (List.mem_cons_of_mem _ (List.mem_append_left _ (List.mem_append_left _ (List.mem_append_right _ h))))) hm2.1.1 rfl 2 (by decide) (List.mem_cons_of_mem _ (List.mem_append_left _ (List.mem_append_left _ (List.mem_append_left _ (List.mem_append_left _ (List.mem_of_getElem? (i := 2) rfl)))))) (fun _ h9 => h9) (v := .int (nI (yF y))) rfl dX7_worths_118 ?_
                          refine t_isub hx hb dX7_worths_121 (v := nI (b - yF y - (k + 1))) ((pk_sub (by omega)).trans (congrArg nI (by omega))) ?_
                          refine g_iald S hE hI (j := (b - yF y - (k + 1))) (f := f1) hr1 rfl (by omega) (by decide) dX7_worths_122 ?_
                          refine W.eq (g2 := F0 m 123 ls [.int (nI (V a (b - yF y - (k + 1)))), .int (nI (V a (k + 1))), .int (nI best)]) (by rw [hv1 _ (by omega) (by omega) (by omega) (by omega)]) ?_
                          refine t_iadd hx hb dX7_worths_123 (nI_add _ _) ?_
                          refine g_mmax S hl.1 (S.2.2.2.2 _ (List.mem_cons_of_mem _ (List.mem_append_left _ (List.mem_append_left _ (List.mem_append_left _ (List.mem_append_left _ (List.mem_of_getElem? (i := 3) rfl))))))) (S.2.2.2.2 _ (List.mem_cons_of_mem _ (List.mem_append_left _ (List.mem_append_left _ (List.mem_append_left _ (List.mem_append_left _ (List.mem_of_getElem? (i := 4) rfl))))))) (S.2.2.2.2 _ (List.mem_cons_of_mem _ (List.mem_append_left _ (List.mem_append_left _ (List.mem_append_left _ (List.mem_append_left _ (List.mem_of_getElem? (i := 5) rfl))))))) (S.2.2.2.2 _ (List.mem_cons_of_mem _ (List.mem_append_left _ (List.mem_append_left _ (List.mem_append_left _ (List.mem_append_left _ (List.mem_of_getElem? (i := 6) rfl))))))) (Nat.le_of_ble_eq_true rfl) (Nat.le_of_ble_eq_true rfl) (by show _ ≤ 26; omega) (by show _ ≤ 650; omega) dX7_worths_124 (v := nI (max best (V a (k + 1) + V a (b - yF y - (k + 1))))) (max_nI (by omega) (by omega)) ?_
                          refine lv_istore (lv' := [(5, .int (nI (max best (V a (k + 1) + V a (b - yF y - (k + 1)))))), (0, .ref (L 30 0)), (1, .int (nI g)), (2, .ref q_4), (3, .int (nI a)), (4, .int (nI b)), (6, .int (nI (k + 1)))]) hx hb dX7_worths_127 hl (by decide) rfl (fun ls hl => ?_)
                          refine lv_iinc (v := nI ((k + 1) + 1)) (lv' := [(6, .int (nI ((k + 1) + 1))), (5, .int (nI (max best (V a (k + 1) + V a (b - yF y - (k + 1)))))), (0, .ref (L 30 0)), (1, .int (nI g)), (2, .ref q_4), (3, .int (nI a)), (4, .int (nI b))]) hx hb dX7_worths_129 hl (k := 6) rfl (nI_add _ 1) (by decide) rfl (fun ls hl => ?_)
                          refine lv_goto (tgt := 89) hx hb dX7_worths_132 (by decide) ?_
                          exact ih89 (k + 1) (max best (V a (k + 1) + V a (b - yF y - (k + 1)))) H locs ls (by omega) (Or.inr (by omega)) (by rw [hbest]; rfl) (by omega) hI (lv_sub hl [2,3,4,5,6,1,0] rfl)
                    exact L89 _ 0 best H locs ls (Nat.lt_succ_self _) (Or.inl rfl) (by rw [hbest, show k = a - yF y - 1 by omega]; rfl) hbb hI (lv_sub hl [1,2,3,4,5,6,0] rfl)
                  · skip
                    have c_48 : ((k + 1) + (yF y)) < a := Nat.not_le.mp (fun z => c_48 ((nI_leI (a := a) (b := ((k + 1) + (yF y))) (by omega) (by omega)).mpr z))
                    have e1 : V (k + 1) b ≤ 575424 := hVle _ _ (by omega) (by omega) (by omega) (by omega)
                    have e2 : V (a - yF y - (k + 1)) b ≤ 575424 := hVle _ _ (by omega) (by omega) (by omega) (by omega)
                    obtain ⟨f1, hr1, hv1⟩ := htb2.2 (k + 1) (by omega)
                    obtain ⟨f2, hr2, hv2⟩ := htb2.2 (a - yF y - (k + 1)) (by omega)
                    refine lv_iload hx hb dX7_worths_51 (lv_at hl 5 rfl) ?_
                    refine lv_aload_n hx hb dX7_worths_53 rfl (lv_at hl 2 rfl) ?_
                    refine lv_iload hx hb dX7_worths_54 (lv_at hl 6 rfl) ?_
                    refine g_aald S hE hI (j := (k + 1)) (f := (fun i => if i < 25 then some (Rr i) else none)) htb2.1 (k := 5) rfl rfl rfl (by omega) (by decide) (v := .ref (Rr (k + 1))) (by show va_rf (if _ then _ else _) = _; rw [if_pos (by omega)]; rfl) dX7_worths_56 ?_
                    refine lv_iload hx hb dX7_worths_57 (lv_at hl 4 rfl) ?_
                    refine g_iald S hE hI (j := b) (f := f1) hr1 rfl (by omega) (by decide) dX7_worths_59 ?_
                    refine W.eq (g2 := F0 m 60 ls [.int (nI (V (k + 1) b)), .int (nI best)]) (by rw [hv1 _ (by omega) (by omega) (by omega) (by omega)]) ?_
                    refine lv_aload_n hx hb dX7_worths_60 rfl (lv_at hl 2 rfl) ?_
                    refine lv_iload_n hx hb dX7_worths_61 rfl (lv_at hl 3 rfl) ?_
                    refine lv_iload hx hb dX7_worths_62 (lv_at hl 6 rfl) ?_
                    refine t_isub hx hb dX7_worths_64 (v := nI (a - (k + 1))) (pk_sub (by omega)) ?_
                    refine lv_aload_n hx hb dX7_worths_65 rfl (lv_at hl 0 rfl) ?_
                    refine g_get S hE hI (C := RX7) (T := TX7) (N := 3) (ref := "StonecutterYardModel$Yard") (fun w h => (List.mem_cons_of_mem _ (List.mem_append_left _ (List.mem_append_left _ (List.mem_append_right _ h))))) hm2.1.1 rfl 2 (by decide) (List.mem_cons_of_mem _ (List.mem_append_left _ (List.mem_append_left _ (List.mem_append_left _ (List.mem_append_left _ (List.mem_of_getElem? (i := 2) rfl)))))) (fun _ h9 => h9) (v := .int (nI (yF y))) rfl dX7_worths_66 ?_
                    refine t_isub hx hb dX7_worths_69 (v := nI (a - yF y - (k + 1))) ((pk_sub (by omega)).trans (congrArg nI (by omega))) ?_
                    refine g_aald S hE hI (j := (a - yF y - (k + 1))) (f := (fun i => if i < 25 then some (Rr i) else none)) htb2.1 (k := 5) rfl rfl rfl (by omega) (by decide) (v := .ref (Rr (a - yF y - (k + 1)))) (by show va_rf (if _ then _ else _) = _; rw [if_pos (by omega)]; rfl) dX7_worths_70 ?_
                    refine lv_iload hx hb dX7_worths_71 (lv_at hl 4 rfl) ?_
                    refine g_iald S hE hI (j := b) (f := f2) hr2 rfl (by omega) (by decide) dX7_worths_73 ?_
                    refine W.eq (g2 := F0 m 74 ls [.int (nI (V (a - yF y - (k + 1)) b)), .int (nI (V (k + 1) b)), .int (nI best)]) (by rw [hv2 _ (by omega) (by omega) (by omega) (by omega)]) ?_
                    refine t_iadd hx hb dX7_worths_74 (nI_add _ _) ?_
                    refine g_mmax S hl.1 (S.2.2.2.2 _ (List.mem_cons_of_mem _ (List.mem_append_left _ (List.mem_append_left _ (List.mem_append_left _ (List.mem_append_left _ (List.mem_of_getElem? (i := 3) rfl))))))) (S.2.2.2.2 _ (List.mem_cons_of_mem _ (List.mem_append_left _ (List.mem_append_left _ (List.mem_append_left _ (List.mem_append_left _ (List.mem_of_getElem? (i := 4) rfl))))))) (S.2.2.2.2 _ (List.mem_cons_of_mem _ (List.mem_append_left _ (List.mem_append_left _ (List.mem_append_left _ (List.mem_append_left _ (List.mem_of_getElem? (i := 5) rfl))))))) (S.2.2.2.2 _ (List.mem_cons_of_mem _ (List.mem_append_left _ (List.mem_append_left _ (List.mem_append_left _ (List.mem_append_left _ (List.mem_of_getElem? (i := 6) rfl))))))) (Nat.le_of_ble_eq_true rfl) (Nat.le_of_ble_eq_true rfl) (by show _ ≤ 26; omega) (by show _ ≤ 650; omega) dX7_worths_75 (v := nI (max best (V (k + 1) b + V (a - yF y - (k + 1)) b))) (max_nI (by omega) (by omega)) ?_
                    refine lv_istore (lv' := [(5, .int (nI (max best (V (k + 1) b + V (a - yF y - (k + 1)) b)))), (0, .ref (L 30 0)), (1, .int (nI g)), (2, .ref q_4), (3, .int (nI a)), (4, .int (nI b)), (6, .int (nI (k + 1)))]) hx hb dX7_worths_78 hl (by decide) rfl (fun ls hl => ?_)
                    refine lv_iinc (v := nI ((k + 1) + 1)) (lv' := [(6, .int (nI ((k + 1) + 1))), (5, .int (nI (max best (V (k + 1) b + V (a - yF y - (k + 1)) b)))), (0, .ref (L 30 0)), (1, .int (nI g)), (2, .ref q_4), (3, .int (nI a)), (4, .int (nI b))]) hx hb dX7_worths_80 hl (k := 6) rfl (nI_add _ 1) (by decide) rfl (fun ls hl => ?_)
                    refine lv_goto (tgt := 40) hx hb dX7_worths_83 (by decide) ?_
                    exact ih40 (k + 1) (max best (V (k + 1) b + V (a - yF y - (k + 1)) b)) H locs ls (by omega) (Or.inr (by omega)) (by rw [hbest]; rfl) (by omega) hI (lv_sub hl [2,3,4,5,6,1,0] rfl)
              exact L40 _ 0 (yStone y a b g).2 H locs ls (Nat.lt_succ_self _) (Or.inl rfl) rfl (Nat.lt_of_le_of_lt (ySt2_le hm2 a b) (by decide)) hI (lv_sub hl [2,3,4,5,6,1,0] rfl)
        exact W.widen (by omega) (by omega) (L20 _ 1 G1 H locs ls (Nat.lt_succ_self _) (by decide) htb1 hof1 hI (lv_sub hl [1,2,3,4,0] rfl))
  exact W.widen (by omega) (by omega) (L11 _ 1 GT H locs ls (Nat.lt_succ_self _) (by decide) htb0 hof0 hI (lv_sub hl [2,3,1,0] rfl))
