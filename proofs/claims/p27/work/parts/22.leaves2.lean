theorem gset2 {G : gW} {t u : gTag} {a b : Nat} {e e' f f' : va_E} (h : t ≠ u) : gset (gset (gset (gset G t a e) u b f) u b f') t a e' = gset (gset G t a e') u b f' := by
  rw [gset_gset, gset_comm _ _ _ _ _ (Ne.symm h), gset_gset]
/-- a slab's or a kind's numbers are in their bounds -/
def sOK (u : SV) : Prop := 1 ≤ sW u ∧ sW u ≤ 24 ∧ 1 ≤ sH u ∧ sH u ≤ 24 ∧ sG u ≤ 1 ∧ sT u ≤ 3 ∧ (sL u).length ≤ 6 ∧ ∀ q ∈ sL u, q.1 < sW u ∧ q.2 < sH u
def kOK (k : KV) : Prop := 1 ≤ kL k ∧ kL k ≤ 24 ∧ 1 ≤ kB k ∧ kB k ≤ 24 ∧ kW k ≤ 2 ∧ kF k ≤ 3 ∧ 1 ≤ kP k ∧ kP k ≤ 999 ∧ kN k ≤ 20
abbrev kAl (k : KV) (mn g : Nat) : Bool := (kW k == 0) || ((kW k == 1) == (mn == g))
theorem kG_t {k : KV} {mn w h g a b : Nat} (h1 : kAl k mn g = true) (ha : kw k mn = a) (hb : kh k mn = b) (h2 : a ≤ w) (h3 : b ≤ h) : kGoes k mn w h g = true := by
  subst ha; subst hb
  unfold kGoes
  rw [show ((kW k == 0) || ((kW k == 1) == (mn == g))) = true from h1, decide_eq_true h2, decide_eq_true h3]; rfl
theorem kG_f1 {k : KV} {mn w h g : Nat} (h1 : kAl k mn g = false) : kGoes k mn w h g = false := by
  unfold kGoes
  rw [show ((kW k == 0) || ((kW k == 1) == (mn == g))) = false from h1]; rfl
theorem kG_f2 {k : KV} {mn w h g a : Nat} (ha : kw k mn = a) (h2 : w < a) : kGoes k mn w h g = false := by
  subst ha
  unfold kGoes
  rw [decide_eq_false (Nat.not_le.mpr h2)]; simp
theorem kG_f3 {k : KV} {mn w h g b : Nat} (hb : kh k mn = b) (h3 : h < b) : kGoes k mn w h g = false := by
  subst hb
  unfold kGoes
  rw [decide_eq_false (Nat.not_le.mpr h3)]; simp
abbrev sellP (k : KV) : Nat := if 0 < kN k then kP k else kP k / 4
abbrev sellK (k : KV) : KV := (kL k, kB k, kW k, kF k, max 1 (kP k * 9 / 10), kN k - 1, kT k + 1, kD k + sellP k)
abbrev dearK (k : KV) : KV := (kL k, kB k, kW k, kF k, min 999 (kP k + 1), kN k, kT k, kD k)
theorem pass_all {fl : List (Nat × Nat)} {w h : Nat} (hq : ∀ q ∈ fl, q.1 < w ∧ q.2 < h) : pass fl 0 0 w h = fl := by
  unfold pass
  induction fl with
  | nil => rfl
  | cons a l ih =>
    have h1 := hq a List.mem_cons_self
    rw [List.filterMap_cons, ih (fun q z => hq q (List.mem_cons_of_mem _ z))]
    simp [pa1, h1.1, h1.2]

set_option maxHeartbeats 4000000 in
set_option maxRecDepth 100000 in
/-- Slab.countFlaws(left, top, right, bottom) -/
theorem c_X2_countFlaws (l : Launch) (K : gK) (G : gW) (t t2 : gTag) (h0 : Nat) (u : SV) (pa : Nat) (f : Nat → Int32) (a b c2 d : Nat) (hg : G t = some (h0, cS u pa)) (hg2 : G t2 = some (pa, cI K 6 f)) (hp : ptsOK f (sL u)) (hab : a < 1000 ∧ b < 1000 ∧ c2 < 1000 ∧ d < 1000) : gM l yX2_countFlaws wsX2_countFlaws 2 40 0 0 K [.ref h0, .int (nI a), .int (nI b), .int (nI c2), .int (nI d)] G (fun v G1 => v = some (.int (nI (cnt (sL u) a b c2 d))) ∧ G1 = G) (gNo) := by
  refine gM.of (cc := cX2_countFlaws) (maxL := 9) (ret := (some .int)) (by decide) rfl (Nat.le_of_ble_eq_true rfl) ?_
  intro p e s m below meth c A S hr hlocks htab hname hE hA hI ls hl
  have hx := S.1
  have hb := S.2.1
  have hml := S.2.2.1
  have hl : lv_has ls 9 [(0, .ref h0), (1, .int (nI a)), (2, .int (nI b)), (3, .int (nI c2)), (4, .int (nI d))] := hl
  obtain ⟨a1, a2, a3, a4⟩ := hab
  have hlen : (sL u).length ≤ 6 := hp.1
  obtain ⟨H, hHe⟩ : ∃ z, z = s.heap := ⟨_, rfl⟩
  obtain ⟨locs, hLe⟩ : ∃ z : List Loc, z = [] := ⟨_, rfl⟩
  rw [← hHe, ← hLe]
  have hI : gI K A s G H locs := by rw [hHe, hLe]; exact hI
  clear hHe hLe
  refine lv_iconst (v := nI 0) hx hb dX2_countFlaws_0 (by decide) ?_
  refine lv_istore (lv' := [(5, .int (nI 0)), (0, .ref h0), (1, .int (nI a)), (2, .int (nI b)), (3, .int (nI c2)), (4, .int (nI d))]) hx hb dX2_countFlaws_1 hl (by decide) rfl (fun ls hl => ?_)
  refine lv_iconst (v := nI 0) hx hb dX2_countFlaws_3 (by decide) ?_
  refine lv_istore (lv' := [(6, .int (nI 0)), (5, .int (nI 0)), (0, .ref h0), (1, .int (nI a)), (2, .int (nI b)), (3, .int (nI c2)), (4, .int (nI d))]) hx hb dX2_countFlaws_4 hl (by decide) rfl (fun ls hl => ?_)
  have L6 : ∀ (n : Nat) (i acc : Nat) (H : Heap) (locs : List Loc) (ls : Array Slot) (hn : (sL u).length - i < n) (hi : i ≤ (sL u).length) (hacc : acc = cnt ((sL u).take i) a b c2 d), gI K A s G H locs → lv_has ls 9 [(0, .ref h0), (1, .int (nI a)), (2, .int (nI b)), (3, .int (nI c2)), (4, .int (nI d)), (5, .int (nI acc)), (6, .int (nI i))] → W p l e (gRoom 2 40 0 0) s m ([.ref h0, .int (nI a), .int (nI b), .int (nI c2), .int (nI d)] : List Value).toArray below meth c H locs 0 0 (gEnd K below (fun v G1 => v = some (.int (nI (cnt (sL u) a b c2 d))) ∧ G1 = G) (gNo) A ([.ref h0, .int (nI a), .int (nI b), .int (nI c2), .int (nI d)] : List Value).toArray s 0 0) (F0 m 6 ls []) := by
    clear hI hl
    intro n
    induction n with
    | zero =>
      intro i acc H locs ls hn hi hacc hI hl
      exact absurd hn (Nat.not_lt_zero _)
    | succ n ih =>
      intro i acc H locs ls hn hi hacc hI hl
      have hacc2 : acc ≤ 6 := by rw [hacc]; exact Nat.le_trans (cnt_le _ _ _ _ _) (by rw [List.length_take]; omega)
      refine lv_iload hx hb dX2_countFlaws_6 (lv_at hl 6 rfl) ?_
      refine lv_aload_n hx hb dX2_countFlaws_8 rfl (lv_at hl 0 rfl) ?_
      refine g_get S hE hI (C := RX2) (T := TX2) (N := 7) (ref := "StonecutterYard$Slab") (fun w h => (List.mem_cons_of_mem _ (List.mem_append_right _ h))) hg rfl 5 (by decide) (List.mem_cons_of_mem _ (List.mem_append_left _ (List.mem_of_getElem? (i := 0) rfl))) (fun _ h9 => h9) (v := .int (nI ((sL u).length))) rfl dX2_countFlaws_9 ?_
      refine lv_icmp_ge (tgt := 83) hx hb dX2_countFlaws_12 (by decide) (fun c_12 => ?_) (fun c_12 => ?_)
      · skip
        have c_12 : ((sL u).length) ≤ i := (nI_leI (a := ((sL u).length)) (b := i) (by omega) (by omega)).mp c_12
        refine lv_iload hx hb dX2_countFlaws_83 (lv_at hl 5 rfl) ?_
        exact g_iret S hI hr hlocks (Nat.zero_le _) (Nat.zero_le _) dX2_countFlaws_85 ⟨by rw [hacc, show i = (sL u).length by omega, List.take_length], rfl⟩
      · skip
        have c_12 : i < ((sL u).length) := Nat.not_le.mp (fun z => c_12 ((nI_leI (a := ((sL u).length)) (b := i) (by omega) (by omega)).mpr z))
        obtain ⟨x, y, hxx, hyy, hf, hx24, hy24⟩ := hp.at c_12
        refine lv_iload hx hb dX2_countFlaws_15 (lv_at hl 6 rfl) ?_
        refine lv_aload_n hx hb dX2_countFlaws_17 rfl (lv_at hl 0 rfl) ?_
        refine g_get S hE hI (C := RX2) (T := TX2) (N := 7) (ref := "StonecutterYard$Slab") (fun w h => (List.mem_cons_of_mem _ (List.mem_append_right _ h))) hg rfl 6 (by decide) (List.mem_cons_of_mem _ (List.mem_append_left _ (List.mem_of_getElem? (i := 1) rfl))) (fun _ h9 => h9) (v := .ref pa) rfl dX2_countFlaws_18 ?_
        refine g_alen S hE hI (k := 0) hg2 rfl (v := nI 6) rfl dX2_countFlaws_21 ?_
        refine lv_icmp_ge (tgt := 83) hx hb dX2_countFlaws_22 (by decide) (fun c_22 => ?_) (fun c_22 => ?_)
        · skip
          have c_22 : 6 ≤ i := (nI_leI (a := 6) (b := i) (by omega) (by omega)).mp c_22
          exact absurd c_22 (by omega)
        · skip
          have c_22 : i < 6 := Nat.not_le.mp (fun z => c_22 ((nI_leI (a := 6) (b := i) (by omega) (by omega)).mpr z))
          refine lv_aload_n hx hb dX2_countFlaws_25 rfl (lv_at hl 0 rfl) ?_
          refine g_get S hE hI (C := RX2) (T := TX2) (N := 7) (ref := "StonecutterYard$Slab") (fun w h => (List.mem_cons_of_mem _ (List.mem_append_right _ h))) hg rfl 6 (by decide) (List.mem_cons_of_mem _ (List.mem_append_left _ (List.mem_of_getElem? (i := 1) rfl))) (fun _ h9 => h9) (v := .ref pa) rfl dX2_countFlaws_26 ?_
          refine lv_iload hx hb dX2_countFlaws_29 (lv_at hl 6 rfl) ?_
          refine g_iald S hE hI (j := i) (f := f) hg2 rfl (by omega) (by decide) dX2_countFlaws_31 ?_
          refine W.eq (g2 := F0 m 32 ls [.int (nI (x * 24 + y))]) (by rw [hf]) ?_
          refine lv_bipush (v := nI 24) hx hb dX2_countFlaws_32 (by decide) ?_
          refine g_idiv hx hb dX2_countFlaws_34 (by decide) (v := nI x) (by rw [pk_div (by omega) (by decide) (by decide)]; congr 1; omega) ?_
          refine lv_istore (lv' := [(7, .int (nI x)), (0, .ref h0), (1, .int (nI a)), (2, .int (nI b)), (3, .int (nI c2)), (4, .int (nI d)), (5, .int (nI acc)), (6, .int (nI i))]) hx hb dX2_countFlaws_35 hl (by decide) rfl (fun ls hl => ?_)
          refine lv_aload_n hx hb dX2_countFlaws_37 rfl (lv_at hl 1 rfl) ?_
          refine g_get S hE hI (C := RX2) (T := TX2) (N := 7) (ref := "StonecutterYard$Slab") (fun w h => (List.mem_cons_of_mem _ (List.mem_append_right _ h))) hg rfl 6 (by decide) (List.mem_cons_of_mem _ (List.mem_append_left _ (List.mem_of_getElem? (i := 1) rfl))) (fun _ h9 => h9) (v := .ref pa) rfl dX2_countFlaws_38 ?_
          refine lv_iload hx hb dX2_countFlaws_41 (lv_at hl 7 rfl) ?_
          refine g_iald S hE hI (j := i) (f := f) hg2 rfl (by omega) (by decide) dX2_countFlaws_43 ?_
          refine W.eq (g2 := F0 m 44 ls [.int (nI (x * 24 + y))]) (by rw [hf]) ?_
          refine lv_bipush (v := nI 24) hx hb dX2_countFlaws_44 (by decide) ?_
          refine t_irem hx hb dX2_countFlaws_46 (by decide) (v := nI y) (by rw [pk_rem (by omega) (by decide) (by decide)]; congr 1; omega) ?_
          refine lv_istore (lv' := [(8, .int (nI y)), (7, .int (nI x)), (0, .ref h0), (1, .int (nI a)), (2, .int (nI b)), (3, .int (nI c2)), (4, .int (nI d)), (5, .int (nI acc)), (6, .int (nI i))]) hx hb dX2_countFlaws_47 hl (by decide) rfl (fun ls hl => ?_)
          refine lv_iload hx hb dX2_countFlaws_49 (lv_at hl 1 rfl) ?_
          refine lv_iload_n hx hb dX2_countFlaws_51 rfl (lv_at hl 3 rfl) ?_
          refine lv_icmp_lt (tgt := 77) hx hb dX2_countFlaws_52 (by decide) (fun c_52 => ?_) (fun c_52 => ?_)
          · skip
            have c_52 : x < a := (nI_ltI (a := x) (b := a) (by omega) (by omega)).mp c_52
            refine lv_iinc (v := nI (i + 1)) (lv' := [(6, .int (nI (i + 1))), (8, .int (nI y)), (7, .int (nI x)), (0, .ref h0), (1, .int (nI a)), (2, .int (nI b)), (3, .int (nI c2)), (4, .int (nI d)), (5, .int (nI acc))]) hx hb dX2_countFlaws_77 hl (k := 8) rfl (nI_add _ 1) (by decide) rfl (fun ls hl => ?_)
            refine lv_goto (tgt := 6) hx hb dX2_countFlaws_80 (by decide) ?_
            exact ih (i + 1) acc H locs ls (by omega) (by omega) (by rw [hacc]; exact cnt_no c_12 hxx hyy (by omega)) hI (lv_sub hl [3,4,5,6,7,8,0] rfl)
          · skip
            have c_52 : a ≤ x := Nat.not_lt.mp (fun z => c_52 ((nI_ltI (a := x) (b := a) (by omega) (by omega)).mpr z))
            refine lv_iload hx hb dX2_countFlaws_55 (lv_at hl 1 rfl) ?_
            refine lv_iload_n hx hb dX2_countFlaws_57 rfl (lv_at hl 5 rfl) ?_
            refine lv_icmp_ge (tgt := 77) hx hb dX2_countFlaws_58 (by decide) (fun c_58 => ?_) (fun c_58 => ?_)
            · skip
              have c_58 : c2 ≤ x := (nI_leI (a := c2) (b := x) (by omega) (by omega)).mp c_58
              refine lv_iinc (v := nI (i + 1)) (lv' := [(6, .int (nI (i + 1))), (8, .int (nI y)), (7, .int (nI x)), (0, .ref h0), (1, .int (nI a)), (2, .int (nI b)), (3, .int (nI c2)), (4, .int (nI d)), (5, .int (nI acc))]) hx hb dX2_countFlaws_77 hl (k := 8) rfl (nI_add _ 1) (by decide) rfl (fun ls hl => ?_)
              refine lv_goto (tgt := 6) hx hb dX2_countFlaws_80 (by decide) ?_
              exact ih (i + 1) acc H locs ls (by omega) (by omega) (by rw [hacc]; exact cnt_no c_12 hxx hyy (by omega)) hI (lv_sub hl [3,4,5,6,7,8,0] rfl)
            · skip
              have c_58 : x < c2 := Nat.not_le.mp (fun z => c_58 ((nI_leI (a := c2) (b := x) (by omega) (by omega)).mpr z))
              refine lv_iload hx hb dX2_countFlaws_61 (lv_at hl 0 rfl) ?_
              refine lv_iload_n hx hb dX2_countFlaws_63 rfl (lv_at hl 4 rfl) ?_
              refine lv_icmp_lt (tgt := 77) hx hb dX2_countFlaws_64 (by decide) (fun c_64 => ?_) (fun c_64 => ?_)
              · skip
                have c_64 : y < b := (nI_ltI (a := y) (b := b) (by omega) (by omega)).mp c_64
                refine lv_iinc (v := nI (i + 1)) (lv' := [(6, .int (nI (i + 1))), (8, .int (nI y)), (7, .int (nI x)), (0, .ref h0), (1, .int (nI a)), (2, .int (nI b)), (3, .int (nI c2)), (4, .int (nI d)), (5, .int (nI acc))]) hx hb dX2_countFlaws_77 hl (k := 8) rfl (nI_add _ 1) (by decide) rfl (fun ls hl => ?_)
                refine lv_goto (tgt := 6) hx hb dX2_countFlaws_80 (by decide) ?_
                exact ih (i + 1) acc H locs ls (by omega) (by omega) (by rw [hacc]; exact cnt_no c_12 hxx hyy (by omega)) hI (lv_sub hl [3,4,5,6,7,8,0] rfl)
              · skip
                have c_64 : b ≤ y := Nat.not_lt.mp (fun z => c_64 ((nI_ltI (a := y) (b := b) (by omega) (by omega)).mpr z))
                refine lv_iload hx hb dX2_countFlaws_67 (lv_at hl 0 rfl) ?_
                refine lv_iload hx hb dX2_countFlaws_69 (lv_at hl 6 rfl) ?_
                refine lv_icmp_ge (tgt := 77) hx hb dX2_countFlaws_71 (by decide) (fun c_71 => ?_) (fun c_71 => ?_)
                · skip
                  have c_71 : d ≤ y := (nI_leI (a := d) (b := y) (by omega) (by omega)).mp c_71
                  refine lv_iinc (v := nI (i + 1)) (lv' := [(6, .int (nI (i + 1))), (8, .int (nI y)), (7, .int (nI x)), (0, .ref h0), (1, .int (nI a)), (2, .int (nI b)), (3, .int (nI c2)), (4, .int (nI d)), (5, .int (nI acc))]) hx hb dX2_countFlaws_77 hl (k := 8) rfl (nI_add _ 1) (by decide) rfl (fun ls hl => ?_)
                  refine lv_goto (tgt := 6) hx hb dX2_countFlaws_80 (by decide) ?_
                  exact ih (i + 1) acc H locs ls (by omega) (by omega) (by rw [hacc]; exact cnt_no c_12 hxx hyy (by omega)) hI (lv_sub hl [3,4,5,6,7,8,0] rfl)
                · skip
                  have c_71 : y < d := Nat.not_le.mp (fun z => c_71 ((nI_leI (a := d) (b := y) (by omega) (by omega)).mpr z))
                  refine lv_iinc (v := nI (acc + 1)) (lv' := [(5, .int (nI (acc + 1))), (8, .int (nI y)), (7, .int (nI x)), (0, .ref h0), (1, .int (nI a)), (2, .int (nI b)), (3, .int (nI c2)), (4, .int (nI d)), (6, .int (nI i))]) hx hb dX2_countFlaws_74 hl (k := 7) rfl (nI_add _ 1) (by decide) rfl (fun ls hl => ?_)
                  refine lv_iinc (v := nI (i + 1)) (lv' := [(6, .int (nI (i + 1))), (5, .int (nI (acc + 1))), (8, .int (nI y)), (7, .int (nI x)), (0, .ref h0), (1, .int (nI a)), (2, .int (nI b)), (3, .int (nI c2)), (4, .int (nI d))]) hx hb dX2_countFlaws_77 hl (k := 8) rfl (nI_add _ 1) (by decide) rfl (fun ls hl => ?_)
                  refine lv_goto (tgt := 6) hx hb dX2_countFlaws_80 (by decide) ?_
                  exact ih (i + 1) (acc + 1) H locs ls (by omega) (by omega) (by rw [hacc]; exact cnt_yes c_12 hxx hyy (by omega)) hI (lv_sub hl [4,5,6,7,8,1,0] rfl)
  exact L6 _ 0 0 H locs ls (Nat.lt_succ_self _) (Nat.zero_le _) (by rw [List.take_zero]; rfl) hI (lv_sub hl [2,3,4,5,6,1,0] rfl)
set_option maxHeartbeats 4000000 in
set_option maxRecDepth 100000 in
/-- Slab.addFlaw(x, y) -/
theorem c_X2_addFlaw (l : Launch) (K : gK) (G : gW) (t t2 : gTag) (h0 : Nat) (u : SV) (pa : Nat) (f : Nat → Int32) (x y : Nat) (hg : G t = some (h0, cS u pa)) (hg2 : G t2 = some (pa, cI K 6 f)) (hlen : (sL u).length < 6) (hxy : x < 24 ∧ y < 24) : gM l yX2_addFlaw wsX2_addFlaw 2 40 0 0 K [.ref h0, .int (nI x), .int (nI y)] G (fun v G1 => v = none ∧ G1 = gset (gset G t2 pa (cI K 6 (upd f (sL u).length (nI (x * 24 + y))))) t h0 (cS (sW u, sH u, sG u, sF u, sT u, sL u ++ [(x, y)]) pa)) (gNo) := by
  refine gM.of (cc := cX2_addFlaw) (maxL := 3) (ret := none) (by decide) rfl (Nat.le_of_ble_eq_true rfl) ?_
  intro p e s m below meth c A S hr hlocks htab hname hE hA hI ls hl
  have hx := S.1
  have hb := S.2.1
  have hml := S.2.2.1
  have hl : lv_has ls 3 [(0, .ref h0), (1, .int (nI x)), (2, .int (nI y))] := hl
  obtain ⟨H, hHe⟩ : ∃ z, z = s.heap := ⟨_, rfl⟩
  obtain ⟨locs, hLe⟩ : ∃ z : List Loc, z = [] := ⟨_, rfl⟩
  rw [← hHe, ← hLe]
  have hI : gI K A s G H locs := by rw [hHe, hLe]; exact hI
  clear hHe hLe
  refine lv_aload_n hx hb dX2_addFlaw_0 rfl (lv_at hl 0 rfl) ?_
  refine g_get S hE hI (C := RX2) (T := TX2) (N := 7) (ref := "StonecutterYard$Slab") (fun w h => (List.mem_cons_of_mem _ (List.mem_append_right _ h))) hg rfl 5 (by decide) (List.mem_cons_of_mem _ (List.mem_append_left _ (List.mem_of_getElem? (i := 0) rfl))) (fun _ h9 => h9) (v := .int (nI ((sL u).length))) rfl dX2_addFlaw_1 ?_
  refine lv_if_lt (tgt := 44) hx hb dX2_addFlaw_4 (by decide) (fun c_4 => ?_) (fun c_4 => ?_)
  · skip
    have c_4 : ((sL u).length) < 0 := (nI_ltI (a := ((sL u).length)) (b := 0) (by omega) (by omega)).mp c_4
    exact absurd c_4 (by omega)
  · skip
    have c_4 : 0 ≤ ((sL u).length) := Nat.not_lt.mp (fun z => c_4 ((nI_ltI (a := ((sL u).length)) (b := 0) (by omega) (by omega)).mpr z))
    refine lv_aload_n hx hb dX2_addFlaw_7 rfl (lv_at hl 0 rfl) ?_
    refine g_get S hE hI (C := RX2) (T := TX2) (N := 7) (ref := "StonecutterYard$Slab") (fun w h => (List.mem_cons_of_mem _ (List.mem_append_right _ h))) hg rfl 5 (by decide) (List.mem_cons_of_mem _ (List.mem_append_left _ (List.mem_of_getElem? (i := 0) rfl))) (fun _ h9 => h9) (v := .int (nI ((sL u).length))) rfl dX2_addFlaw_8 ?_
    refine lv_aload_n hx hb dX2_addFlaw_11 rfl (lv_at hl 0 rfl) ?_
    refine g_get S hE hI (C := RX2) (T := TX2) (N := 7) (ref := "StonecutterYard$Slab") (fun w h => (List.mem_cons_of_mem _ (List.mem_append_right _ h))) hg rfl 6 (by decide) (List.mem_cons_of_mem _ (List.mem_append_left _ (List.mem_of_getElem? (i := 1) rfl))) (fun _ h9 => h9) (v := .ref pa) rfl dX2_addFlaw_12 ?_
    refine g_alen S hE hI (k := 0) hg2 rfl (v := nI 6) rfl dX2_addFlaw_15 ?_
    refine lv_icmp_ge (tgt := 44) hx hb dX2_addFlaw_16 (by decide) (fun c_16 => ?_) (fun c_16 => ?_)
    · skip
      have c_16 : 6 ≤ ((sL u).length) := (nI_leI (a := 6) (b := ((sL u).length)) (by omega) (by omega)).mp c_16
      exact absurd c_16 (by omega)
    · skip
      have c_16 : ((sL u).length) < 6 := Nat.not_le.mp (fun z => c_16 ((nI_leI (a := 6) (b := ((sL u).length)) (by omega) (by omega)).mpr z))
      refine lv_aload_n hx hb dX2_addFlaw_19 rfl (lv_at hl 0 rfl) ?_
      refine g_get S hE hI (C := RX2) (T := TX2) (N := 7) (ref := "StonecutterYard$Slab") (fun w h => (List.mem_cons_of_mem _ (List.mem_append_right _ h))) hg rfl 6 (by decide) (List.mem_cons_of_mem _ (List.mem_append_left _ (List.mem_of_getElem? (i := 1) rfl))) (fun _ h9 => h9) (v := .ref pa) rfl dX2_addFlaw_20 ?_
      refine lv_aload_n hx hb dX2_addFlaw_23 rfl (lv_at hl 0 rfl) ?_
      refine g_get S hE hI (C := RX2) (T := TX2) (N := 7) (ref := "StonecutterYard$Slab") (fun w h => (List.mem_cons_of_mem _ (List.mem_append_right _ h))) hg rfl 5 (by decide) (List.mem_cons_of_mem _ (List.mem_append_left _ (List.mem_of_getElem? (i := 0) rfl))) (fun _ h9 => h9) (v := .int (nI ((sL u).length))) rfl dX2_addFlaw_24 ?_
      refine lv_iload_n hx hb dX2_addFlaw_27 rfl (lv_at hl 1 rfl) ?_
      refine lv_bipush (v := nI 24) hx hb dX2_addFlaw_28 (by decide) ?_
      refine t_imul hx hb dX2_addFlaw_30 (pk_mul _ _) ?_
      refine lv_iload_n hx hb dX2_addFlaw_31 rfl (lv_at hl 2 rfl) ?_
      refine t_iadd hx hb dX2_addFlaw_32 (nI_add _ _) ?_
      refine g_iast S hE hI (j := (sL u).length) (f := f) hg2 rfl (by omega) (Nat.le_of_ble_eq_true rfl) dX2_addFlaw_33 (fun H locs hI => ?_)
      have hI : gI K A s (gset G t2 pa (.inl (K.2.1 0, 6, .inl (upd f ((sL u).length) (nI ((x * 24) + y)))))) H locs := hI
      obtain ⟨G_1, hG_1⟩ : ∃ z, z = gset G t2 pa (.inl (K.2.1 0, 6, .inl (upd f ((sL u).length) (nI ((x * 24) + y))))) := ⟨_, rfl⟩
      rw [← hG_1] at hI
      have o_G_1 : G_1 t = some (h0, .inr (3, [.int (nI (sW u)), .int (nI (sH u)), .int (nI (sG u)), .int (sF u), .int (nI (sT u)), .int (nI ((sL u).length)), .ref pa])) := by rw [hG_1, gset_ne (g_tne hg hg2 (by simp))]; exact hg
      have q_G_1 : G_1 t2 = some (pa, .inl (K.2.1 0, 6, .inl (upd f ((sL u).length) (nI ((x * 24) + y))))) := by rw [hG_1]; exact gset_eq _ _ _ _
      refine lv_aload_n hx hb dX2_addFlaw_34 rfl (lv_at hl 0 rfl) ?_
      refine lv_dup hx hb dX2_addFlaw_35 rfl ?_
      refine g_get S hE hI (C := RX2) (T := TX2) (N := 7) (ref := "StonecutterYard$Slab") (fun w h => (List.mem_cons_of_mem _ (List.mem_append_right _ h))) o_G_1 rfl 5 (by decide) (List.mem_cons_of_mem _ (List.mem_append_left _ (List.mem_of_getElem? (i := 0) rfl))) (fun _ h9 => h9) (v := .int (nI ((sL u).length))) rfl dX2_addFlaw_36 ?_
      refine lv_iconst (v := nI 1) hx hb dX2_addFlaw_39 (by decide) ?_
      refine t_iadd hx hb dX2_addFlaw_40 (nI_add _ _) ?_
      refine g_put S hE hI (C := RX2) (T := TX2) (N := 7) (ref := "StonecutterYard$Slab") (fun w h => (List.mem_cons_of_mem _ (List.mem_append_right _ h))) tyX2 tyX2_ok nmX2 o_G_1 rfl 5 (by decide) (List.mem_cons_of_mem _ (List.mem_append_left _ (List.mem_of_getElem? (i := 0) rfl))) (fun _ h9 => h9) rfl rfl rfl (Nat.le_of_ble_eq_true rfl) dX2_addFlaw_41 (fun H locs hI => ?_)
      have hI : gI K A s (gset G_1 t h0 (.inr (3, [.int (nI (sW u)), .int (nI (sH u)), .int (nI (sG u)), .int (sF u), .int (nI (sT u)), .int (nI (((sL u).length) + 1)), .ref pa]))) H locs := hI
      obtain ⟨G_2, hG_2⟩ : ∃ z, z = gset G_1 t h0 (.inr (3, [.int (nI (sW u)), .int (nI (sH u)), .int (nI (sG u)), .int (sF u), .int (nI (sT u)), .int (nI (((sL u).length) + 1)), .ref pa])) := ⟨_, rfl⟩
      rw [← hG_2] at hI
      have q_G_2 : G_2 t2 = some (pa, .inl (K.2.1 0, 6, .inl (upd f ((sL u).length) (nI ((x * 24) + y))))) := by rw [hG_2, gset_ne (g_tne q_G_1 o_G_1 (by simp))]; exact q_G_1
      have o_G_2 : G_2 t = some (h0, .inr (3, [.int (nI (sW u)), .int (nI (sH u)), .int (nI (sG u)), .int (sF u), .int (nI (sT u)), .int (nI (((sL u).length) + 1)), .ref pa])) := by rw [hG_2]; exact gset_eq _ _ _ _
      have e9 : (sL u).length + 1 = (sL u ++ [(x, y)]).length := by simp
      exact g_vret S hI hr hlocks (Nat.zero_le _) (Nat.zero_le _) dX2_addFlaw_44 ⟨rfl, by rw [hG_2, hG_1, e9]⟩
set_option maxHeartbeats 4000000 in
set_option maxRecDepth 100000 in
/-- Slab.passFlaws(part, left, top): those flaws that lie on the part come to it -/
theorem c_X2_passFlaws (l : Launch) (K : gK) (G : gW) (t t2 t3 t4 : gTag) (h0 h1 : Nat) (u v : SV) (pa pb : Nat) (f g0 : Nat → Int32) (lf tp : Nat) (hg : G t = some (h0, cS u pa)) (hg2 : G t2 = some (pa, cI K 6 f)) (hg3 : G t3 = some (h1, cS v pb)) (hg4 : G t4 = some (pb, cI K 6 g0)) (hn1 : t ≠ t3) (hn2 : t2 ≠ t4) (hp : ptsOK f (sL u)) (hv0 : sL v = []) (hbd : lf < 1000 ∧ tp < 1000 ∧ sW v ≤ 24 ∧ sH v ≤ 24) : gM l yX2_passFlaws wsX2_passFlaws 3 62 0 0 K [.ref h0, .ref h1, .int (nI lf), .int (nI tp)] G (fun z G1 => z = none ∧ ∃ g, ptsOK g (pass (sL u) lf tp (sW v) (sH v)) ∧ G1 = gset (gset G t3 h1 (cS (sW v, sH v, sG v, sF v, sT v, pass (sL u) lf tp (sW v) (sH v)) pb)) t4 pb (cI K 6 g)) (gNo) := by
  refine gM.of (cc := cX2_passFlaws) (maxL := 7) (ret := none) (by decide) rfl (Nat.le_of_ble_eq_true rfl) ?_
  intro p e s m below meth c A S hr hlocks htab hname hE hA hI ls hl
  have hx := S.1
  have hb := S.2.1
  have hml := S.2.2.1
  have hl : lv_has ls 7 [(0, .ref h0), (1, .ref h1), (2, .int (nI lf)), (3, .int (nI tp))] := hl
  obtain ⟨b1, b2, b3, b4⟩ := hbd
  have hlen : (sL u).length ≤ 6 := hp.1
  have n14 : t ≠ t4 := g_tne hg hg4 (by simp)
  have n23 : t2 ≠ t3 := g_tne hg2 hg3 (by simp)
  have n34 : t3 ≠ t4 := g_tne hg3 hg4 (by simp)
  have hg3v : G t3 = some (h1, cS (sW v, sH v, sG v, sF v, sT v, pass [] lf tp (sW v) (sH v)) pb) := by rw [hg3]; unfold cS; rw [hv0]; rfl
  obtain ⟨H, hHe⟩ : ∃ z, z = s.heap := ⟨_, rfl⟩
  obtain ⟨locs, hLe⟩ : ∃ z : List Loc, z = [] := ⟨_, rfl⟩
  rw [← hHe, ← hLe]
  have hI : gI K A s G H locs := by rw [hHe, hLe]; exact hI
  clear hHe hLe
  refine lv_iconst (v := nI 0) hx hb dX2_passFlaws_0 (by decide) ?_
  refine lv_istore (lv' := [(4, .int (nI 0)), (0, .ref h0), (1, .ref h1), (2, .int (nI lf)), (3, .int (nI tp))]) hx hb dX2_passFlaws_1 hl (by decide) rfl (fun ls hl => ?_)
  have L3 : ∀ (n : Nat) (i : Nat) (g : Nat → Int32) (G1 : gW) (H : Heap) (locs : List Loc) (ls : Array Slot) (hn : (sL u).length - i < n) (hi : i ≤ (sL u).length) (hG1 : G1 = gset (gset G t3 h1 (cS (sW v, sH v, sG v, sF v, sT v, pass ((sL u).take i) lf tp (sW v) (sH v)) pb)) t4 pb (cI K 6 g)) (hpg : ptsOK g (pass ((sL u).take i) lf tp (sW v) (sH v))), gI K A s G1 H locs → lv_has ls 7 [(0, .ref h0), (1, .ref h1), (2, .int (nI lf)), (3, .int (nI tp)), (4, .int (nI i))] → W p l e (gRoom 3 62 0 0) s m ([.ref h0, .ref h1, .int (nI lf), .int (nI tp)] : List Value).toArray below meth c H locs 0 0 (gEnd K below (fun z G1 => z = none ∧ ∃ g, ptsOK g (pass (sL u) lf tp (sW v) (sH v)) ∧ G1 = gset (gset G t3 h1 (cS (sW v, sH v, sG v, sF v, sT v, pass (sL u) lf tp (sW v) (sH v)) pb)) t4 pb (cI K 6 g)) (gNo) A ([.ref h0, .ref h1, .int (nI lf), .int (nI tp)] : List Value).toArray s 0 0) (F0 m 3 ls []) := by
    clear hI hl
    intro n
    induction n with
    | zero =>
      intro i g G1 H locs ls hn hi hG1 hpg hI hl
      exact absurd hn (Nat.not_lt_zero _)
    | succ n ih =>
      intro i g G1 H locs ls hn hi hG1 hpg hI hl
      have hga : G1 t = some (h0, cS u pa) := by rw [hG1, gset_ne n14, gset_ne hn1]; exact hg
      have hgb : G1 t2 = some (pa, cI K 6 f) := by rw [hG1, gset_ne hn2, gset_ne n23]; exact hg2
      have hgc : G1 t3 = some (h1, cS (sW v, sH v, sG v, sF v, sT v, pass ((sL u).take i) lf tp (sW v) (sH v)) pb) := by rw [hG1, gset_ne n34]; exact gset_eq _ _ _ _
      have hgd : G1 t4 = some (pb, cI K 6 g) := by rw [hG1]; exact gset_eq _ _ _ _
      have hpl := Nat.le_trans (pass_len ((sL u).take i) lf tp (sW v) (sH v)) (show ((sL u).take i).length ≤ i by rw [List.length_take]; omega)
      refine lv_iload hx hb dX2_passFlaws_3 (lv_at hl 4 rfl) ?_
      refine lv_aload_n hx hb dX2_passFlaws_5 rfl (lv_at hl 0 rfl) ?_
      refine g_get S hE hI (C := RX2) (T := TX2) (N := 7) (ref := "StonecutterYard$Slab") (fun w h => (List.mem_cons_of_mem _ (List.mem_append_right _ h))) hga rfl 5 (by decide) (List.mem_cons_of_mem _ (List.mem_append_left _ (List.mem_of_getElem? (i := 0) rfl))) (fun _ h9 => h9) (v := .int (nI ((sL u).length))) rfl dX2_passFlaws_6 ?_
      refine lv_icmp_ge (tgt := 92) hx hb dX2_passFlaws_9 (by decide) (fun c_9 => ?_) (fun c_9 => ?_)
      · skip
        have c_9 : ((sL u).length) ≤ i := (nI_leI (a := ((sL u).length)) (b := i) (by omega) (by omega)).mp c_9
        exact g_vret S hI hr hlocks (Nat.zero_le _) (Nat.zero_le _) dX2_passFlaws_92 ⟨rfl, g, by rw [show i = (sL u).length by omega, List.take_length] at hpg; exact hpg, by rw [show i = (sL u).length by omega, List.take_length] at hG1; exact hG1⟩
      · skip
        have c_9 : i < ((sL u).length) := Nat.not_le.mp (fun z => c_9 ((nI_leI (a := ((sL u).length)) (b := i) (by omega) (by omega)).mpr z))
        obtain ⟨x, y, hxx, hyy, hf, hx24, hy24⟩ := hp.at c_9
        refine lv_iload hx hb dX2_passFlaws_12 (lv_at hl 4 rfl) ?_
        refine lv_aload_n hx hb dX2_passFlaws_14 rfl (lv_at hl 0 rfl) ?_
        refine g_get S hE hI (C := RX2) (T := TX2) (N := 7) (ref := "StonecutterYard$Slab") (fun w h => (List.mem_cons_of_mem _ (List.mem_append_right _ h))) hga rfl 6 (by decide) (List.mem_cons_of_mem _ (List.mem_append_left _ (List.mem_of_getElem? (i := 1) rfl))) (fun _ h9 => h9) (v := .ref pa) rfl dX2_passFlaws_15 ?_
        refine g_alen S hE hI (k := 0) hgb rfl (v := nI 6) rfl dX2_passFlaws_18 ?_
        refine lv_icmp_ge (tgt := 92) hx hb dX2_passFlaws_19 (by decide) (fun c_19 => ?_) (fun c_19 => ?_)
        · skip
          have c_19 : 6 ≤ i := (nI_leI (a := 6) (b := i) (by omega) (by omega)).mp c_19
          exact absurd c_19 (by omega)
        · skip
          have c_19 : i < 6 := Nat.not_le.mp (fun z => c_19 ((nI_leI (a := 6) (b := i) (by omega) (by omega)).mpr z))
          refine lv_aload_n hx hb dX2_passFlaws_22 rfl (lv_at hl 0 rfl) ?_
          refine g_get S hE hI (C := RX2) (T := TX2) (N := 7) (ref := "StonecutterYard$Slab") (fun w h => (List.mem_cons_of_mem _ (List.mem_append_right _ h))) hga rfl 6 (by decide) (List.mem_cons_of_mem _ (List.mem_append_left _ (List.mem_of_getElem? (i := 1) rfl))) (fun _ h9 => h9) (v := .ref pa) rfl dX2_passFlaws_23 ?_
          refine lv_iload hx hb dX2_passFlaws_26 (lv_at hl 4 rfl) ?_
          refine g_iald S hE hI (j := i) (f := f) hgb rfl (by omega) (by decide) dX2_passFlaws_28 ?_
          refine W.eq (g2 := F0 m 29 ls [.int (nI (x * 24 + y))]) (by rw [hf]) ?_
          refine lv_bipush (v := nI 24) hx hb dX2_passFlaws_29 (by decide) ?_
          refine g_idiv hx hb dX2_passFlaws_31 (by decide) (v := nI x) (by rw [pk_div (by omega) (by decide) (by decide)]; congr 1; omega) ?_
          refine lv_iload_n hx hb dX2_passFlaws_32 rfl (lv_at hl 2 rfl) ?_
          refine lv_isub hx hb dX2_passFlaws_33 ?_
          refine lv_istore (lv' := [(5, .int ((nI x) - (nI lf))), (0, .ref h0), (1, .ref h1), (2, .int (nI lf)), (3, .int (nI tp)), (4, .int (nI i))]) hx hb dX2_passFlaws_34 hl (by decide) rfl (fun ls hl => ?_)
          refine lv_aload_n hx hb dX2_passFlaws_36 rfl (lv_at hl 1 rfl) ?_
          refine g_get S hE hI (C := RX2) (T := TX2) (N := 7) (ref := "StonecutterYard$Slab") (fun w h => (List.mem_cons_of_mem _ (List.mem_append_right _ h))) hga rfl 6 (by decide) (List.mem_cons_of_mem _ (List.mem_append_left _ (List.mem_of_getElem? (i := 1) rfl))) (fun _ h9 => h9) (v := .ref pa) rfl dX2_passFlaws_37 ?_
          refine lv_iload hx hb dX2_passFlaws_40 (lv_at hl 5 rfl) ?_
          refine g_iald S hE hI (j := i) (f := f) hgb rfl (by omega) (by decide) dX2_passFlaws_42 ?_
          refine W.eq (g2 := F0 m 43 ls [.int (nI (x * 24 + y))]) (by rw [hf]) ?_
          refine lv_bipush (v := nI 24) hx hb dX2_passFlaws_43 (by decide) ?_
          refine t_irem hx hb dX2_passFlaws_45 (by decide) (v := nI y) (by rw [pk_rem (by omega) (by decide) (by decide)]; congr 1; omega) ?_
          refine lv_iload_n hx hb dX2_passFlaws_46 rfl (lv_at hl 4 rfl) ?_
          refine lv_isub hx hb dX2_passFlaws_47 ?_
          refine lv_istore (lv' := [(6, .int ((nI y) - (nI tp))), (5, .int ((nI x) - (nI lf))), (0, .ref h0), (1, .ref h1), (2, .int (nI lf)), (3, .int (nI tp)), (4, .int (nI i))]) hx hb dX2_passFlaws_48 hl (by decide) rfl (fun ls hl => ?_)
          refine lv_iload hx hb dX2_passFlaws_50 (lv_at hl 1 rfl) ?_
          refine lv_if_lt (tgt := 86) hx hb dX2_passFlaws_52 (by decide) (fun c_52 => ?_) (fun c_52 => ?_)
          · skip
            have c_52 : x < lf := (sub_lt0 (by omega) (by omega)).mp c_52
            refine lv_iinc (v := nI (i + 1)) (lv' := [(4, .int (nI (i + 1))), (6, .int ((nI y) - (nI tp))), (5, .int ((nI x) - (nI lf))), (0, .ref h0), (1, .ref h1), (2, .int (nI lf)), (3, .int (nI tp))]) hx hb dX2_passFlaws_86 hl (k := 6) rfl (nI_add _ 1) (by decide) rfl (fun ls hl => ?_)
            refine lv_goto (tgt := 3) hx hb dX2_passFlaws_89 (by decide) ?_
            exact ih (i + 1) g G1 H locs ls (by omega) (by omega) (by rw [hG1, pass_no c_9 hxx hyy (by omega)]) (by rw [← pass_no c_9 hxx hyy (by omega)]; exact hpg) hI (lv_sub hl [3,4,5,6,0] rfl)
          · skip
            have c_52 : lf ≤ x := Nat.not_lt.mp (fun z => c_52 ((sub_lt0 (by omega) (by omega)).mpr z))
            rw [pk_sub c_52] at hl
            refine lv_iload hx hb dX2_passFlaws_55 (lv_at hl 1 rfl) ?_
            refine lv_aload_n hx hb dX2_passFlaws_57 rfl (lv_at hl 3 rfl) ?_
            refine g_get S hE hI (C := RX2) (T := TX2) (N := 7) (ref := "StonecutterYard$Slab") (fun w h => (List.mem_cons_of_mem _ (List.mem_append_right _ h))) hgc rfl 0 (by decide) (List.mem_cons_of_mem _ (List.mem_append_left _ (List.mem_of_getElem? (i := 2) rfl))) (fun _ h9 => h9) (v := .int (nI (sW v))) rfl dX2_passFlaws_58 ?_
            refine lv_icmp_ge (tgt := 86) hx hb dX2_passFlaws_61 (by decide) (fun c_61 => ?_) (fun c_61 => ?_)
            · skip
              have c_61 : (sW v) ≤ (x - lf) := (nI_leI (a := (sW v)) (b := (x - lf)) (by omega) (by omega)).mp c_61
              refine lv_iinc (v := nI (i + 1)) (lv' := [(4, .int (nI (i + 1))), (6, .int ((nI y) - (nI tp))), (5, .int (nI (x - lf))), (0, .ref h0), (1, .ref h1), (2, .int (nI lf)), (3, .int (nI tp))]) hx hb dX2_passFlaws_86 hl (k := 6) rfl (nI_add _ 1) (by decide) rfl (fun ls hl => ?_)
              refine lv_goto (tgt := 3) hx hb dX2_passFlaws_89 (by decide) ?_
              exact ih (i + 1) g G1 H locs ls (by omega) (by omega) (by rw [hG1, pass_no c_9 hxx hyy (by omega)]) (by rw [← pass_no c_9 hxx hyy (by omega)]; exact hpg) hI (lv_sub hl [3,4,5,6,0] rfl)
            · skip
              have c_61 : (x - lf) < (sW v) := Nat.not_le.mp (fun z => c_61 ((nI_leI (a := (sW v)) (b := (x - lf)) (by omega) (by omega)).mpr z))
              refine lv_iload hx hb dX2_passFlaws_64 (lv_at hl 0 rfl) ?_
              refine lv_if_lt (tgt := 86) hx hb dX2_passFlaws_66 (by decide) (fun c_66 => ?_) (fun c_66 => ?_)
              · skip
                have c_66 : y < tp := (sub_lt0 (by omega) (by omega)).mp c_66
                refine lv_iinc (v := nI (i + 1)) (lv' := [(4, .int (nI (i + 1))), (6, .int ((nI y) - (nI tp))), (5, .int (nI (x - lf))), (0, .ref h0), (1, .ref h1), (2, .int (nI lf)), (3, .int (nI tp))]) hx hb dX2_passFlaws_86 hl (k := 6) rfl (nI_add _ 1) (by decide) rfl (fun ls hl => ?_)
                refine lv_goto (tgt := 3) hx hb dX2_passFlaws_89 (by decide) ?_
                exact ih (i + 1) g G1 H locs ls (by omega) (by omega) (by rw [hG1, pass_no c_9 hxx hyy (by omega)]) (by rw [← pass_no c_9 hxx hyy (by omega)]; exact hpg) hI (lv_sub hl [3,4,5,6,0] rfl)
              · skip
                have c_66 : tp ≤ y := Nat.not_lt.mp (fun z => c_66 ((sub_lt0 (by omega) (by omega)).mpr z))
                rw [pk_sub c_66] at hl
                refine lv_iload hx hb dX2_passFlaws_69 (lv_at hl 0 rfl) ?_
                refine lv_aload_n hx hb dX2_passFlaws_71 rfl (lv_at hl 3 rfl) ?_
                refine g_get S hE hI (C := RX2) (T := TX2) (N := 7) (ref := "StonecutterYard$Slab") (fun w h => (List.mem_cons_of_mem _ (List.mem_append_right _ h))) hgc rfl 1 (by decide) (List.mem_cons_of_mem _ (List.mem_append_left _ (List.mem_of_getElem? (i := 3) rfl))) (fun _ h9 => h9) (v := .int (nI (sH v))) rfl dX2_passFlaws_72 ?_
                refine lv_icmp_ge (tgt := 86) hx hb dX2_passFlaws_75 (by decide) (fun c_75 => ?_) (fun c_75 => ?_)
                · skip
                  have c_75 : (sH v) ≤ (y - tp) := (nI_leI (a := (sH v)) (b := (y - tp)) (by omega) (by omega)).mp c_75
                  refine lv_iinc (v := nI (i + 1)) (lv' := [(4, .int (nI (i + 1))), (6, .int (nI (y - tp))), (5, .int (nI (x - lf))), (0, .ref h0), (1, .ref h1), (2, .int (nI lf)), (3, .int (nI tp))]) hx hb dX2_passFlaws_86 hl (k := 6) rfl (nI_add _ 1) (by decide) rfl (fun ls hl => ?_)
                  refine lv_goto (tgt := 3) hx hb dX2_passFlaws_89 (by decide) ?_
                  exact ih (i + 1) g G1 H locs ls (by omega) (by omega) (by rw [hG1, pass_no c_9 hxx hyy (by omega)]) (by rw [← pass_no c_9 hxx hyy (by omega)]; exact hpg) hI (lv_sub hl [3,4,5,6,0] rfl)
                · skip
                  have c_75 : (y - tp) < (sH v) := Nat.not_le.mp (fun z => c_75 ((nI_leI (a := (sH v)) (b := (y - tp)) (by omega) (by omega)).mpr z))
                  refine lv_aload_n hx hb dX2_passFlaws_78 rfl (lv_at hl 3 rfl) ?_
                  refine lv_iload hx hb dX2_passFlaws_79 (lv_at hl 1 rfl) ?_
                  refine lv_iload hx hb dX2_passFlaws_81 (lv_at hl 0 rfl) ?_
                  refine g_callV (As := [.int (nI (x - lf)), .int (nI (y - tp))]) (rest := []) (b := h1) (n := 2) S hE hI hA (c_X2_addFlaw l K _ t3 t4 h1 (sW v, sH v, sG v, sF v, sT v, pass ((sL u).take i) lf tp (sW v) (sH v)) pb g (x - lf) (y - tp) hgc hgd (by show (pass _ _ _ _ _).length < 6; omega) (by omega)) gX2_passFlaws_X2_addFlaw rfl (by decide +kernel) ⟨Nat.le_of_ble_eq_true rfl, Nat.le_of_ble_eq_true rfl⟩ (g_hro hE hI hgc rfl) rfl hl.1 rfl (Nat.le_of_ble_eq_true rfl) dX2_passFlaws_83 ⟨Nat.le_of_ble_eq_true rfl, Nat.le_of_ble_eq_true rfl⟩ (fun E ce q9 Gx H1 locs1 hx9 => hx9.elim) (fun rv Gc_83 H locs hp hI => ?_)
                  obtain ⟨rfl, hG2⟩ := hp
                  refine W.eq (g2 := F0 m 86 ls []) rfl ?_
                  refine lv_iinc (v := nI (i + 1)) (lv' := [(4, .int (nI (i + 1))), (6, .int (nI (y - tp))), (5, .int (nI (x - lf))), (0, .ref h0), (1, .ref h1), (2, .int (nI lf)), (3, .int (nI tp))]) hx hb dX2_passFlaws_86 hl (k := 6) rfl (nI_add _ 1) (by decide) rfl (fun ls hl => ?_)
                  refine lv_goto (tgt := 3) hx hb dX2_passFlaws_89 (by decide) ?_
                  exact ih (i + 1) _ Gc_83 H locs ls (by omega) (by omega) (by rw [hG2, hG1, ← pass_yes c_9 hxx hyy (by omega)]; exact gset2 n34) (by rw [← pass_yes c_9 hxx hyy (by omega)]; exact hpg.add (by omega) (by omega) (by omega)) hI (lv_sub hl [3,4,5,6,0] rfl)
  exact L3 _ 0 g0 G H locs ls (Nat.lt_succ_self _) (Nat.zero_le _) (by rw [List.take_zero, gset_self (by rw [gset_self hg3v]; exact hg4), gset_self hg3v]) (by rw [List.take_zero]; exact ptsOK.nil _) hI (lv_sub hl [1,2,3,4,0] rfl)
