/-! the reference's slabs and kinds -/
abbrev cMS (u : SV) (pl : Nat) : va_E := .inr (7, [.int (nI (sW u)), .int (nI (sH u)), .int (nI (sG u)), .int (sF u), .ref pl, .int (nI (sT u))])
abbrev cMK (k : KV) : va_E := .inr (6, [.int (nI (kL k)), .int (nI (kB k)), .int (nI (kW k)), .int (nI (kF k)), .int (nI (kP k)), .int (nI (kN k)), .int (nI (kT k)), .int (nI (kD k))])
/-- a list of flaws: each is an array of two numbers, of those with places below N -/
def FLi (K : gK) (G : gW) (t : gTag) (tb : Bool → gTag) (h : Nat) (fl : List (Nat × Nat)) (N : Nat) : Prop :=
  fl.length ≤ 6 ∧ (∀ q ∈ fl, q.1 < 24 ∧ q.2 < 24) ∧ ∃ (F : Nat → Nat) (g : Nat → Nat → Int32), ALg K t tb G h fl.length F ∧ ∀ j, j < fl.length → ∃ m, m < N ∧ G (50, 0, m) = some (F j, cI K 2 (g j)) ∧ g j 0 = nI (fl.getD j (0, 0)).1 ∧ g j 1 = nI (fl.getD j (0, 0)).2
section GCA
variable {p : Program} {l : Launch} {e : Env} {R : Room} {s : State} {m : MethodId} {args : Array Value} {below : List Frame} {meth : Method} {c : Code} {H : Heap} {locs : List Loc} {cells slots : Nat} {Q : State → Prop}
variable {cc : ByteArray} {pc nL a : Nat} {ls : Array Slot} {rest : List Value} {own : String} {Ts : List Cond}
/-- a checkcast to the thing's own class -/
theorem g_cast (S : CallFix p m c cc nL s args Ts own) {index : Nat} {nm : String} (hlink : Cond.classLink own index nm ∈ Ts) (hr : ∃ cell : Cell, H[a]? = some cell ∧ cell.vm.isStatics = false ∧ s.vm.findClass nm = some cell.cls) (hdg : decode cc pc = .ok (.checkcast index, 3))
    (kk : W p l e R s m args below meth c H locs cells slots Q (F0 m (pc + 3) ls (.ref a :: rest))) : W p l e R s m args below meth c H locs cells slots Q (F0 m pc ls (.ref a :: rest)) :=
  va_castE S.1 S.2.1 S.2.2.2.1 (S.2.2.2.2 _ hlink) hr hdg kk
end GCA
set_option maxHeartbeats 4000000 in
set_option maxRecDepth 100000 in
/-- Slab.isThere() -/
theorem c_X6_isThere (l : Launch) (K : gK) (G : gW) (t : gTag) (h0 : Nat) (u : SV) (pl : Nat) (hg : G t = some (h0, cMS u pl)) (hT3 : sT u ≤ 3) : gM l yX6_isThere wsX6_isThere 2 40 0 0 K [.ref h0] G (fun v G1 => v = some (.int (bI (decide (sT u = 0)))) ∧ G1 = G) (gNo) := by
  refine gM.of (cc := cX6_isThere) (maxL := 1) (ret := (some .boolean)) (by decide) rfl (Nat.le_of_ble_eq_true rfl) ?_
  intro p e s m below meth c A S hr hlocks htab hname hE hA hI ls hl
  have hx := S.1
  have hb := S.2.1
  have hml := S.2.2.1
  have hl : lv_has ls 1 [(0, .ref h0)] := hl
  obtain ⟨H, hHe⟩ : ∃ z, z = s.heap := ⟨_, rfl⟩
  obtain ⟨locs, hLe⟩ : ∃ z : List Loc, z = [] := ⟨_, rfl⟩
  rw [← hHe, ← hLe]
  have hI : gI K A s G H locs := by rw [hHe, hLe]; exact hI
  clear hHe hLe
  refine lv_aload_n hx hb dX6_isThere_0 rfl (lv_at hl 0 rfl) ?_
  refine g_get S hE hI (C := RX6) (T := TX6) (N := 6) (ref := "StonecutterYardModel$Slab") (fun w h => (List.mem_cons_of_mem _ (List.mem_append_right _ h))) hg rfl 5 (by decide) (List.mem_cons_of_mem _ (List.mem_append_left _ (List.mem_of_getElem? (i := 0) rfl))) (fun _ h9 => h9) (v := .int (nI (sT u))) rfl dX6_isThere_1 ?_
  refine lv_if_ne (tgt := 11) hx hb dX6_isThere_4 (by decide) (fun c_4 => ?_) (fun c_4 => ?_)
  · skip
    have c_4 : (sT u) ≠ 0 := fun z => c_4 ((nI_eq (a := (sT u)) (b := 0) (by omega) (by omega)).mpr z)
    refine lv_iconst (v := nI 0) hx hb dX6_isThere_11 (by decide) ?_
    exact g_zret S hI hr hlocks (Nat.zero_le _) (Nat.zero_le _) (Or.inl rfl) dX6_isThere_12 ⟨by rw [decide_eq_false c_4]; rfl, rfl⟩
  · skip
    have c_4 : (sT u) = 0 := (nI_eq (a := (sT u)) (b := 0) (by omega) (by omega)).mp c_4
    refine lv_iconst (v := nI 1) hx hb dX6_isThere_7 (by decide) ?_
    refine lv_goto (tgt := 12) hx hb dX6_isThere_8 (by decide) ?_
    exact g_zret S hI hr hlocks (Nat.zero_le _) (Nat.zero_le _) (Or.inr rfl) dX6_isThere_12 ⟨by rw [decide_eq_true c_4]; rfl, rfl⟩
set_option maxHeartbeats 4000000 in
set_option maxRecDepth 100000 in
/-- Slab.area() -/
theorem c_X6_area (l : Launch) (K : gK) (G : gW) (t : gTag) (h0 : Nat) (u : SV) (pl : Nat) (hg : G t = some (h0, cMS u pl)) : gM l yX6_area wsX6_area 2 40 0 0 K [.ref h0] G (fun v G1 => v = some (.int (nI (sA u))) ∧ G1 = G) (gNo) := by
  refine gM.of (cc := cX6_area) (maxL := 1) (ret := (some .int)) (by decide) rfl (Nat.le_of_ble_eq_true rfl) ?_
  intro p e s m below meth c A S hr hlocks htab hname hE hA hI ls hl
  have hx := S.1
  have hb := S.2.1
  have hml := S.2.2.1
  have hl : lv_has ls 1 [(0, .ref h0)] := hl
  obtain ⟨H, hHe⟩ : ∃ z, z = s.heap := ⟨_, rfl⟩
  obtain ⟨locs, hLe⟩ : ∃ z : List Loc, z = [] := ⟨_, rfl⟩
  rw [← hHe, ← hLe]
  have hI : gI K A s G H locs := by rw [hHe, hLe]; exact hI
  clear hHe hLe
  refine lv_aload_n hx hb dX6_area_0 rfl (lv_at hl 0 rfl) ?_
  refine g_get S hE hI (C := RX6) (T := TX6) (N := 6) (ref := "StonecutterYardModel$Slab") (fun w h => (List.mem_cons_of_mem _ (List.mem_append_right _ h))) hg rfl 0 (by decide) (List.mem_cons_of_mem _ (List.mem_append_left _ (List.mem_of_getElem? (i := 0) rfl))) (fun _ h9 => h9) (v := .int (nI (sW u))) rfl dX6_area_1 ?_
  refine lv_aload_n hx hb dX6_area_4 rfl (lv_at hl 0 rfl) ?_
  refine g_get S hE hI (C := RX6) (T := TX6) (N := 6) (ref := "StonecutterYardModel$Slab") (fun w h => (List.mem_cons_of_mem _ (List.mem_append_right _ h))) hg rfl 1 (by decide) (List.mem_cons_of_mem _ (List.mem_append_left _ (List.mem_of_getElem? (i := 1) rfl))) (fun _ h9 => h9) (v := .int (nI (sH u))) rfl dX6_area_5 ?_
  refine t_imul hx hb dX6_area_8 (pk_mul _ _) ?_
  exact g_iret S hI hr hlocks (Nat.zero_le _) (Nat.zero_le _) dX6_area_9 ⟨rfl, rfl⟩
set_option maxHeartbeats 4000000 in
set_option maxRecDepth 100000 in
/-- Slab.hasPoint(x, y) -/
theorem c_X6_hasPoint (l : Launch) (K : gK) (G : gW) (t : gTag) (h0 : Nat) (u : SV) (pl : Nat) (a b : Int32) (hg : G t = some (h0, cMS u pl)) (hwh : sW u ≤ 24 ∧ sH u ≤ 24) : gM l yX6_hasPoint wsX6_hasPoint 2 40 0 0 K [.ref h0, .int a, .int b] G (fun v G1 => v = some (.int (bI (inPt u a b))) ∧ G1 = G) (gNo) := by
  refine gM.of (cc := cX6_hasPoint) (maxL := 3) (ret := (some .boolean)) (by decide) rfl (Nat.le_of_ble_eq_true rfl) ?_
  intro p e s m below meth c A S hr hlocks htab hname hE hA hI ls hl
  have hx := S.1
  have hb := S.2.1
  have hml := S.2.2.1
  have hl : lv_has ls 3 [(0, .ref h0), (1, .int a), (2, .int b)] := hl
  obtain ⟨H, hHe⟩ : ∃ z, z = s.heap := ⟨_, rfl⟩
  obtain ⟨locs, hLe⟩ : ∃ z : List Loc, z = [] := ⟨_, rfl⟩
  rw [← hHe, ← hLe]
  have hI : gI K A s G H locs := by rw [hHe, hLe]; exact hI
  clear hHe hLe
  refine lv_iload_n hx hb dX6_hasPoint_0 rfl (lv_at hl 1 rfl) ?_
  refine lv_if_lt (tgt := 28) hx hb dX6_hasPoint_1 (by decide) (fun c_1 => ?_) (fun c_1 => ?_)
  · skip
    refine lv_iconst (v := nI 0) hx hb dX6_hasPoint_28 (by decide) ?_
    exact g_zret S hI hr hlocks (Nat.zero_le _) (Nat.zero_le _) (Or.inl rfl) dX6_hasPoint_29 ⟨by rw [show inPt u a b = false by unfold inPt inR; rw [decide_eq_false (fun z9 => absurd z9.1 (Int.not_le.mpr (lt_zI.mp c_1)))]; rfl]; rfl, rfl⟩
  · skip
    refine lv_iload_n hx hb dX6_hasPoint_4 rfl (lv_at hl 1 rfl) ?_
    refine lv_aload_n hx hb dX6_hasPoint_5 rfl (lv_at hl 0 rfl) ?_
    refine g_get S hE hI (C := RX6) (T := TX6) (N := 6) (ref := "StonecutterYardModel$Slab") (fun w h => (List.mem_cons_of_mem _ (List.mem_append_right _ h))) hg rfl 0 (by decide) (List.mem_cons_of_mem _ (List.mem_append_left _ (List.mem_of_getElem? (i := 0) rfl))) (fun _ h9 => h9) (v := .int (nI (sW u))) rfl dX6_hasPoint_6 ?_
    refine lv_icmp_ge (tgt := 28) hx hb dX6_hasPoint_9 (by decide) (fun c_9 => ?_) (fun c_9 => ?_)
    · skip
      refine lv_iconst (v := nI 0) hx hb dX6_hasPoint_28 (by decide) ?_
      exact g_zret S hI hr hlocks (Nat.zero_le _) (Nat.zero_le _) (Or.inl rfl) dX6_hasPoint_29 ⟨by rw [show inPt u a b = false by unfold inPt inR; rw [decide_eq_false (fun z9 => absurd z9.2 (Int.not_lt.mpr ((nI_le' (by omega)).mp c_9)))]; rfl]; rfl, rfl⟩
    · skip
      refine lv_iload_n hx hb dX6_hasPoint_12 rfl (lv_at hl 2 rfl) ?_
      refine lv_if_lt (tgt := 28) hx hb dX6_hasPoint_13 (by decide) (fun c_13 => ?_) (fun c_13 => ?_)
      · skip
        refine lv_iconst (v := nI 0) hx hb dX6_hasPoint_28 (by decide) ?_
        exact g_zret S hI hr hlocks (Nat.zero_le _) (Nat.zero_le _) (Or.inl rfl) dX6_hasPoint_29 ⟨by rw [show inPt u a b = false by unfold inPt inR; rw [decide_eq_false (p := 0 ≤ b.toInt ∧ _) (fun z9 => absurd z9.1 (Int.not_le.mpr (lt_zI.mp c_13)))]; simp]; rfl, rfl⟩
      · skip
        refine lv_iload_n hx hb dX6_hasPoint_16 rfl (lv_at hl 2 rfl) ?_
        refine lv_aload_n hx hb dX6_hasPoint_17 rfl (lv_at hl 0 rfl) ?_
        refine g_get S hE hI (C := RX6) (T := TX6) (N := 6) (ref := "StonecutterYardModel$Slab") (fun w h => (List.mem_cons_of_mem _ (List.mem_append_right _ h))) hg rfl 1 (by decide) (List.mem_cons_of_mem _ (List.mem_append_left _ (List.mem_of_getElem? (i := 1) rfl))) (fun _ h9 => h9) (v := .int (nI (sH u))) rfl dX6_hasPoint_18 ?_
        refine lv_icmp_ge (tgt := 28) hx hb dX6_hasPoint_21 (by decide) (fun c_21 => ?_) (fun c_21 => ?_)
        · skip
          refine lv_iconst (v := nI 0) hx hb dX6_hasPoint_28 (by decide) ?_
          exact g_zret S hI hr hlocks (Nat.zero_le _) (Nat.zero_le _) (Or.inl rfl) dX6_hasPoint_29 ⟨by rw [show inPt u a b = false by unfold inPt inR; rw [decide_eq_false (p := 0 ≤ b.toInt ∧ _) (fun z9 => absurd z9.2 (Int.not_lt.mpr ((nI_le' (by omega)).mp c_21)))]; simp]; rfl, rfl⟩
        · skip
          refine lv_iconst (v := nI 1) hx hb dX6_hasPoint_24 (by decide) ?_
          refine lv_goto (tgt := 29) hx hb dX6_hasPoint_25 (by decide) ?_
          exact g_zret S hI hr hlocks (Nat.zero_le _) (Nat.zero_le _) (Or.inr rfl) dX6_hasPoint_29 ⟨by rw [show inPt u a b = true by unfold inPt; rw [inR_ok (Int.not_lt.mp (fun z9 => c_1 (lt_zI.mpr z9))) (Int.not_le.mp (fun z9 => c_9 ((nI_le' (by omega)).mpr z9))), inR_ok (Int.not_lt.mp (fun z9 => c_13 (lt_zI.mpr z9))) (Int.not_le.mp (fun z9 => c_21 ((nI_le' (by omega)).mpr z9)))]; rfl]; rfl, rfl⟩
set_option maxHeartbeats 4000000 in
set_option maxRecDepth 100000 in
/-- Slab.at(x, y) -/
theorem c_X6_at (l : Launch) (K : gK) (G : gW) (t tl : gTag) (tb : Bool → gTag) (h0 : Nat) (u : SV) (pl N : Nat) (a b : Nat) (hg : G t = some (h0, cMS u pl)) (hfl : FLi K G tl tb pl (sL u) N) (hab : a < 1000 ∧ b < 1000) : gM l yX6_at wsX6_at 5 104 0 0 K [.ref h0, .int (nI a), .int (nI b)] G (fun v G1 => v = some (.int (nI (cnt (sL u) a b (a + 1) (b + 1)))) ∧ G1 = G) (gNo) := by
  refine gM.of (cc := cX6_at) (maxL := 5) (ret := (some .int)) (by decide) rfl (Nat.le_of_ble_eq_true rfl) ?_
  intro p e s m below meth c A S hr hlocks htab hname hE hA hI ls hl
  have hx := S.1
  have hb := S.2.1
  have hml := S.2.2.1
  have hl : lv_has ls 5 [(0, .ref h0), (1, .int (nI a)), (2, .int (nI b))] := hl
  obtain ⟨a1, a2⟩ := hab
  obtain ⟨hlen, hin, F, g, hAL, hF⟩ := hfl
  obtain ⟨mod9, ar9, hgl⟩ := hAL.obj
  obtain ⟨H, hHe⟩ : ∃ z, z = s.heap := ⟨_, rfl⟩
  obtain ⟨locs, hLe⟩ : ∃ z : List Loc, z = [] := ⟨_, rfl⟩
  rw [← hHe, ← hLe]
  have hI : gI K A s G H locs := by rw [hHe, hLe]; exact hI
  clear hHe hLe
  refine lv_iconst (v := nI 0) hx hb dX6_at_0 (by decide) ?_
  refine lv_istore_n (lv' := [(3, .int (nI 0)), (0, .ref h0), (1, .int (nI a)), (2, .int (nI b))]) hx hb dX6_at_1 rfl hl (by decide) rfl (fun ls hl => ?_)
  refine lv_iconst (v := nI 0) hx hb dX6_at_2 (by decide) ?_
  refine lv_istore (lv' := [(4, .int (nI 0)), (3, .int (nI 0)), (0, .ref h0), (1, .int (nI a)), (2, .int (nI b))]) hx hb dX6_at_3 hl (by decide) rfl (fun ls hl => ?_)
  have L5 : ∀ (n : Nat) (i acc : Nat) (H : Heap) (locs : List Loc) (ls : Array Slot) (hn : (sL u).length - i < n) (hi : i ≤ (sL u).length) (hacc : acc = cnt ((sL u).take i) a b (a + 1) (b + 1)), gI K A s G H locs → lv_has ls 5 [(0, .ref h0), (1, .int (nI a)), (2, .int (nI b)), (3, .int (nI acc)), (4, .int (nI i))] → W p l e (gRoom 5 104 0 0) s m ([.ref h0, .int (nI a), .int (nI b)] : List Value).toArray below meth c H locs 0 0 (gEnd K below (fun v G1 => v = some (.int (nI (cnt (sL u) a b (a + 1) (b + 1)))) ∧ G1 = G) (gNo) A ([.ref h0, .int (nI a), .int (nI b)] : List Value).toArray s 0 0) (F0 m 5 ls []) := by
    clear hI hl
    intro n
    induction n with
    | zero =>
      intro i acc H locs ls hn hi hacc hI hl
      exact absurd hn (Nat.not_lt_zero _)
    | succ n ih =>
      intro i acc H locs ls hn hi hacc hI hl
      refine lv_iload hx hb dX6_at_5 (lv_at hl 4 rfl) ?_
      refine lv_aload_n hx hb dX6_at_7 rfl (lv_at hl 0 rfl) ?_
      refine g_get S hE hI (C := RX6) (T := TX6) (N := 6) (ref := "StonecutterYardModel$Slab") (fun w h => (List.mem_cons_of_mem _ (List.mem_append_left _ (List.mem_append_right _ h)))) hg rfl 4 (by decide) (List.mem_cons_of_mem _ (List.mem_append_left _ (List.mem_append_left _ (List.mem_append_left _ (List.mem_of_getElem? (i := 0) rfl))))) (fun _ h9 => h9) (v := .ref pl) rfl dX6_at_8 ?_
      refine g_callV (As := []) (rest := [.int (nI i)]) (b := pl) (n := 0) S hE hI hA (l_size l K _ tl tb pl (sL u).length F hAL) gX6_at_Jx4a65c_size_8abf5 rfl (by decide +kernel) ⟨Nat.le_of_ble_eq_true rfl, Nat.le_of_ble_eq_true rfl⟩ (g_hro hE hI hgl rfl) rfl hl.1 rfl (Nat.le_of_ble_eq_true rfl) dX6_at_11 ⟨Nat.le_of_ble_eq_true rfl, Nat.le_of_ble_eq_true rfl⟩ (fun E ce q9 Gx H1 locs1 hx9 => hx9.elim) (fun rv Gc_11 H locs hp hI => ?_)
      obtain ⟨rfl, hq9⟩ := hp
      rw [hq9] at hI
      refine W.eq (g2 := F0 m 14 ls [.int (nI ((sL u).length)), .int (nI i)]) rfl ?_
      refine lv_icmp_ge (tgt := 67) hx hb dX6_at_14 (by decide) (fun c_14 => ?_) (fun c_14 => ?_)
      · skip
        have c_14 : ((sL u).length) ≤ i := (nI_leI (a := ((sL u).length)) (b := i) (by omega) (by omega)).mp c_14
        refine lv_iload_n hx hb dX6_at_67 rfl (lv_at hl 3 rfl) ?_
        exact g_iret S hI hr hlocks (Nat.zero_le _) (Nat.zero_le _) dX6_at_68 ⟨by rw [hacc, show i = (sL u).length by omega, List.take_length], rfl⟩
      · skip
        have c_14 : i < ((sL u).length) := Nat.not_le.mp (fun z => c_14 ((nI_leI (a := ((sL u).length)) (b := i) (by omega) (by omega)).mpr z))
        obtain ⟨m9, -, hf9, hg0, hg1⟩ := hF i c_14
        obtain ⟨x9, hx9⟩ : ∃ x, x = ((sL u).getD i (0, 0)).1 := ⟨_, rfl⟩
        obtain ⟨y9, hy9⟩ : ∃ y, y = ((sL u).getD i (0, 0)).2 := ⟨_, rfl⟩
        rw [← hx9] at hg0
        rw [← hy9] at hg1
        have hm9 : (sL u).getD i (0, 0) ∈ sL u := by simp [List.getD, List.getElem?_eq_getElem c_14]
        have hb9 := hin _ hm9
        rw [← hx9, ← hy9] at hb9
        refine lv_iload_n hx hb dX6_at_17 rfl (lv_at hl 3 rfl) ?_
        refine lv_aload_n hx hb dX6_at_18 rfl (lv_at hl 0 rfl) ?_
        refine g_get S hE hI (C := RX6) (T := TX6) (N := 6) (ref := "StonecutterYardModel$Slab") (fun w h => (List.mem_cons_of_mem _ (List.mem_append_left _ (List.mem_append_right _ h)))) hg rfl 4 (by decide) (List.mem_cons_of_mem _ (List.mem_append_left _ (List.mem_append_left _ (List.mem_append_left _ (List.mem_of_getElem? (i := 0) rfl))))) (fun _ h9 => h9) (v := .ref pl) rfl dX6_at_19 ?_
        refine lv_iload hx hb dX6_at_22 (lv_at hl 4 rfl) ?_
        refine g_callV (As := [.int (nI i)]) (rest := [.int (nI acc)]) (b := pl) (n := 1) S hE hI hA (l_get l K _ tl tb pl (sL u).length F i hAL c_14) gX6_at_Jx4a65c_get_915e3 rfl (by decide +kernel) ⟨Nat.le_of_ble_eq_true rfl, Nat.le_of_ble_eq_true rfl⟩ (g_hro hE hI hgl rfl) rfl hl.1 rfl (Nat.le_of_ble_eq_true rfl) dX6_at_24 ⟨Nat.le_of_ble_eq_true rfl, Nat.le_of_ble_eq_true rfl⟩ (fun E ce q9 Gx H1 locs1 hx9 => hx9.elim) (fun rv Gc_24 H locs hp hI => ?_)
        obtain ⟨rfl, hq9⟩ := hp
        rw [hq9] at hI
        refine W.eq (g2 := F0 m 27 ls [.ref (F i), .int (nI acc)]) rfl ?_
        refine g_cast S (List.mem_cons_of_mem _ (List.mem_append_left _ (List.mem_append_left _ (List.mem_append_left _ (List.mem_of_getElem? (i := 1) rfl))))) (g_hra hE hI (k := 0) (ty := .int) hf9 rfl rfl) dX6_at_27 ?_
        refine lv_iconst (v := nI 0) hx hb dX6_at_30 (by decide) ?_
        refine g_iald S hE hI (j := 0) (f := (g i)) hf9 rfl (by omega) (by decide) dX6_at_31 ?_
        refine W.eq (g2 := F0 m 32 ls [.int (nI x9), .int (nI acc)]) (by rw [hg0]) ?_
        refine lv_iload_n hx hb dX6_at_32 rfl (lv_at hl 1 rfl) ?_
        refine lv_icmp_ne (tgt := 58) hx hb dX6_at_33 (by decide) (fun c_33 => ?_) (fun c_33 => ?_)
        · skip
          have c_33 : x9 ≠ a := fun z => c_33 ((nI_eq (a := x9) (b := a) (by omega) (by omega)).mpr z)
          refine lv_iconst (v := nI 0) hx hb dX6_at_58 (by decide) ?_
          refine t_iadd hx hb dX6_at_59 (nI_add _ _) ?_
          refine lv_istore_n (lv' := [(3, .int (nI (acc + 0))), (0, .ref h0), (1, .int (nI a)), (2, .int (nI b)), (4, .int (nI i))]) hx hb dX6_at_60 rfl hl (by decide) rfl (fun ls hl => ?_)
          refine lv_iinc (v := nI (i + 1)) (lv' := [(4, .int (nI (i + 1))), (3, .int (nI (acc + 0))), (0, .ref h0), (1, .int (nI a)), (2, .int (nI b))]) hx hb dX6_at_61 hl (k := 4) rfl (nI_add _ 1) (by decide) rfl (fun ls hl => ?_)
          refine lv_goto (tgt := 5) hx hb dX6_at_64 (by decide) ?_
          exact ih (i + 1) (acc + 0) H locs ls (by omega) (by omega) (by rw [hacc]; exact cnt_no c_14 hx9 hy9 (by omega)) hI (lv_sub hl [2,3,4,1,0] rfl)
        · skip
          have c_33 : x9 = a := (nI_eq (a := x9) (b := a) (by omega) (by omega)).mp c_33
          refine lv_aload_n hx hb dX6_at_36 rfl (lv_at hl 0 rfl) ?_
          refine g_get S hE hI (C := RX6) (T := TX6) (N := 6) (ref := "StonecutterYardModel$Slab") (fun w h => (List.mem_cons_of_mem _ (List.mem_append_left _ (List.mem_append_right _ h)))) hg rfl 4 (by decide) (List.mem_cons_of_mem _ (List.mem_append_left _ (List.mem_append_left _ (List.mem_append_left _ (List.mem_of_getElem? (i := 0) rfl))))) (fun _ h9 => h9) (v := .ref pl) rfl dX6_at_37 ?_
          refine lv_iload hx hb dX6_at_40 (lv_at hl 4 rfl) ?_
          refine g_callV (As := [.int (nI i)]) (rest := [.int (nI acc)]) (b := pl) (n := 1) S hE hI hA (l_get l K _ tl tb pl (sL u).length F i hAL c_14) gX6_at_Jx4a65c_get_915e3 rfl (by decide +kernel) ⟨Nat.le_of_ble_eq_true rfl, Nat.le_of_ble_eq_true rfl⟩ (g_hro hE hI hgl rfl) rfl hl.1 rfl (Nat.le_of_ble_eq_true rfl) dX6_at_42 ⟨Nat.le_of_ble_eq_true rfl, Nat.le_of_ble_eq_true rfl⟩ (fun E ce q9 Gx H1 locs1 hx9 => hx9.elim) (fun rv Gc_42 H locs hp hI => ?_)
          obtain ⟨rfl, hq9⟩ := hp
          rw [hq9] at hI
          refine W.eq (g2 := F0 m 45 ls [.ref (F i), .int (nI acc)]) rfl ?_
          refine g_cast S (List.mem_cons_of_mem _ (List.mem_append_left _ (List.mem_append_left _ (List.mem_append_left _ (List.mem_of_getElem? (i := 1) rfl))))) (g_hra hE hI (k := 0) (ty := .int) hf9 rfl rfl) dX6_at_45 ?_
          refine lv_iconst (v := nI 1) hx hb dX6_at_48 (by decide) ?_
          refine g_iald S hE hI (j := 1) (f := (g i)) hf9 rfl (by omega) (by decide) dX6_at_49 ?_
          refine W.eq (g2 := F0 m 50 ls [.int (nI y9), .int (nI acc)]) (by rw [hg1]) ?_
          refine lv_iload_n hx hb dX6_at_50 rfl (lv_at hl 2 rfl) ?_
          refine lv_icmp_ne (tgt := 58) hx hb dX6_at_51 (by decide) (fun c_51 => ?_) (fun c_51 => ?_)
          · skip
            have c_51 : y9 ≠ b := fun z => c_51 ((nI_eq (a := y9) (b := b) (by omega) (by omega)).mpr z)
            refine lv_iconst (v := nI 0) hx hb dX6_at_58 (by decide) ?_
            refine t_iadd hx hb dX6_at_59 (nI_add _ _) ?_
            refine lv_istore_n (lv' := [(3, .int (nI (acc + 0))), (0, .ref h0), (1, .int (nI a)), (2, .int (nI b)), (4, .int (nI i))]) hx hb dX6_at_60 rfl hl (by decide) rfl (fun ls hl => ?_)
            refine lv_iinc (v := nI (i + 1)) (lv' := [(4, .int (nI (i + 1))), (3, .int (nI (acc + 0))), (0, .ref h0), (1, .int (nI a)), (2, .int (nI b))]) hx hb dX6_at_61 hl (k := 4) rfl (nI_add _ 1) (by decide) rfl (fun ls hl => ?_)
            refine lv_goto (tgt := 5) hx hb dX6_at_64 (by decide) ?_
            exact ih (i + 1) (acc + 0) H locs ls (by omega) (by omega) (by rw [hacc]; exact cnt_no c_14 hx9 hy9 (by omega)) hI (lv_sub hl [2,3,4,1,0] rfl)
          · skip
            have c_51 : y9 = b := (nI_eq (a := y9) (b := b) (by omega) (by omega)).mp c_51
            refine lv_iconst (v := nI 1) hx hb dX6_at_54 (by decide) ?_
            refine lv_goto (tgt := 59) hx hb dX6_at_55 (by decide) ?_
            refine t_iadd hx hb dX6_at_59 (nI_add _ _) ?_
            refine lv_istore_n (lv' := [(3, .int (nI (acc + 1))), (0, .ref h0), (1, .int (nI a)), (2, .int (nI b)), (4, .int (nI i))]) hx hb dX6_at_60 rfl hl (by decide) rfl (fun ls hl => ?_)
            refine lv_iinc (v := nI (i + 1)) (lv' := [(4, .int (nI (i + 1))), (3, .int (nI (acc + 1))), (0, .ref h0), (1, .int (nI a)), (2, .int (nI b))]) hx hb dX6_at_61 hl (k := 4) rfl (nI_add _ 1) (by decide) rfl (fun ls hl => ?_)
            refine lv_goto (tgt := 5) hx hb dX6_at_64 (by decide) ?_
            exact ih (i + 1) (acc + 1) H locs ls (by omega) (by omega) (by rw [hacc]; exact cnt_yes c_14 hx9 hy9 (by omega)) hI (lv_sub hl [2,3,4,1,0] rfl)
  exact L5 _ 0 0 H locs ls (Nat.lt_succ_self _) (Nat.zero_le _) (by rw [List.take_zero]; rfl) hI (lv_sub hl [2,3,4,1,0] rfl)
set_option maxHeartbeats 4000000 in
set_option maxRecDepth 100000 in
/-- Slab.within(x, y) -/
theorem c_X6_within (l : Launch) (K : gK) (G : gW) (t tl : gTag) (tb : Bool → gTag) (h0 : Nat) (u : SV) (pl N : Nat) (a b : Nat) (hg : G t = some (h0, cMS u pl)) (hfl : FLi K G tl tb pl (sL u) N) (hab : a < 1000 ∧ b < 1000) : gM l yX6_within wsX6_within 5 104 0 0 K [.ref h0, .int (nI a), .int (nI b)] G (fun v G1 => v = some (.int (nI (cnt (sL u) 0 0 a b))) ∧ G1 = G) (gNo) := by
  refine gM.of (cc := cX6_within) (maxL := 5) (ret := (some .int)) (by decide) rfl (Nat.le_of_ble_eq_true rfl) ?_
  intro p e s m below meth c A S hr hlocks htab hname hE hA hI ls hl
  have hx := S.1
  have hb := S.2.1
  have hml := S.2.2.1
  have hl : lv_has ls 5 [(0, .ref h0), (1, .int (nI a)), (2, .int (nI b))] := hl
  obtain ⟨a1, a2⟩ := hab
  obtain ⟨hlen, hin, F, g, hAL, hF⟩ := hfl
  obtain ⟨mod9, ar9, hgl⟩ := hAL.obj
  obtain ⟨H, hHe⟩ : ∃ z, z = s.heap := ⟨_, rfl⟩
  obtain ⟨locs, hLe⟩ : ∃ z : List Loc, z = [] := ⟨_, rfl⟩
  rw [← hHe, ← hLe]
  have hI : gI K A s G H locs := by rw [hHe, hLe]; exact hI
  clear hHe hLe
  refine lv_iconst (v := nI 0) hx hb dX6_within_0 (by decide) ?_
  refine lv_istore_n (lv' := [(3, .int (nI 0)), (0, .ref h0), (1, .int (nI a)), (2, .int (nI b))]) hx hb dX6_within_1 rfl hl (by decide) rfl (fun ls hl => ?_)
  refine lv_iconst (v := nI 0) hx hb dX6_within_2 (by decide) ?_
  refine lv_istore (lv' := [(4, .int (nI 0)), (3, .int (nI 0)), (0, .ref h0), (1, .int (nI a)), (2, .int (nI b))]) hx hb dX6_within_3 hl (by decide) rfl (fun ls hl => ?_)
  have L5 : ∀ (n : Nat) (i acc : Nat) (H : Heap) (locs : List Loc) (ls : Array Slot) (hn : (sL u).length - i < n) (hi : i ≤ (sL u).length) (hacc : acc = cnt ((sL u).take i) 0 0 a b), gI K A s G H locs → lv_has ls 5 [(0, .ref h0), (1, .int (nI a)), (2, .int (nI b)), (3, .int (nI acc)), (4, .int (nI i))] → W p l e (gRoom 5 104 0 0) s m ([.ref h0, .int (nI a), .int (nI b)] : List Value).toArray below meth c H locs 0 0 (gEnd K below (fun v G1 => v = some (.int (nI (cnt (sL u) 0 0 a b))) ∧ G1 = G) (gNo) A ([.ref h0, .int (nI a), .int (nI b)] : List Value).toArray s 0 0) (F0 m 5 ls []) := by
    clear hI hl
    intro n
    induction n with
    | zero =>
      intro i acc H locs ls hn hi hacc hI hl
      exact absurd hn (Nat.not_lt_zero _)
    | succ n ih =>
      intro i acc H locs ls hn hi hacc hI hl
      refine lv_iload hx hb dX6_within_5 (lv_at hl 4 rfl) ?_
      refine lv_aload_n hx hb dX6_within_7 rfl (lv_at hl 0 rfl) ?_
      refine g_get S hE hI (C := RX6) (T := TX6) (N := 6) (ref := "StonecutterYardModel$Slab") (fun w h => (List.mem_cons_of_mem _ (List.mem_append_left _ (List.mem_append_right _ h)))) hg rfl 4 (by decide) (List.mem_cons_of_mem _ (List.mem_append_left _ (List.mem_append_left _ (List.mem_append_left _ (List.mem_of_getElem? (i := 0) rfl))))) (fun _ h9 => h9) (v := .ref pl) rfl dX6_within_8 ?_
      refine g_callV (As := []) (rest := [.int (nI i)]) (b := pl) (n := 0) S hE hI hA (l_size l K _ tl tb pl (sL u).length F hAL) gX6_within_Jx4a65c_size_8abf5 rfl (by decide +kernel) ⟨Nat.le_of_ble_eq_true rfl, Nat.le_of_ble_eq_true rfl⟩ (g_hro hE hI hgl rfl) rfl hl.1 rfl (Nat.le_of_ble_eq_true rfl) dX6_within_11 ⟨Nat.le_of_ble_eq_true rfl, Nat.le_of_ble_eq_true rfl⟩ (fun E ce q9 Gx H1 locs1 hx9 => hx9.elim) (fun rv Gc_11 H locs hp hI => ?_)
      obtain ⟨rfl, hq9⟩ := hp
      rw [hq9] at hI
      refine W.eq (g2 := F0 m 14 ls [.int (nI ((sL u).length)), .int (nI i)]) rfl ?_
      refine lv_icmp_ge (tgt := 67) hx hb dX6_within_14 (by decide) (fun c_14 => ?_) (fun c_14 => ?_)
      · skip
        have c_14 : ((sL u).length) ≤ i := (nI_leI (a := ((sL u).length)) (b := i) (by omega) (by omega)).mp c_14
        refine lv_iload_n hx hb dX6_within_67 rfl (lv_at hl 3 rfl) ?_
        exact g_iret S hI hr hlocks (Nat.zero_le _) (Nat.zero_le _) dX6_within_68 ⟨by rw [hacc, show i = (sL u).length by omega, List.take_length], rfl⟩
      · skip
        have c_14 : i < ((sL u).length) := Nat.not_le.mp (fun z => c_14 ((nI_leI (a := ((sL u).length)) (b := i) (by omega) (by omega)).mpr z))
        obtain ⟨m9, -, hf9, hg0, hg1⟩ := hF i c_14
        obtain ⟨x9, hx9⟩ : ∃ x, x = ((sL u).getD i (0, 0)).1 := ⟨_, rfl⟩
        obtain ⟨y9, hy9⟩ : ∃ y, y = ((sL u).getD i (0, 0)).2 := ⟨_, rfl⟩
        rw [← hx9] at hg0
        rw [← hy9] at hg1
        have hm9 : (sL u).getD i (0, 0) ∈ sL u := by simp [List.getD, List.getElem?_eq_getElem c_14]
        have hb9 := hin _ hm9
        rw [← hx9, ← hy9] at hb9
        refine lv_iload_n hx hb dX6_within_17 rfl (lv_at hl 3 rfl) ?_
        refine lv_aload_n hx hb dX6_within_18 rfl (lv_at hl 0 rfl) ?_
        refine g_get S hE hI (C := RX6) (T := TX6) (N := 6) (ref := "StonecutterYardModel$Slab") (fun w h => (List.mem_cons_of_mem _ (List.mem_append_left _ (List.mem_append_right _ h)))) hg rfl 4 (by decide) (List.mem_cons_of_mem _ (List.mem_append_left _ (List.mem_append_left _ (List.mem_append_left _ (List.mem_of_getElem? (i := 0) rfl))))) (fun _ h9 => h9) (v := .ref pl) rfl dX6_within_19 ?_
        refine lv_iload hx hb dX6_within_22 (lv_at hl 4 rfl) ?_
        refine g_callV (As := [.int (nI i)]) (rest := [.int (nI acc)]) (b := pl) (n := 1) S hE hI hA (l_get l K _ tl tb pl (sL u).length F i hAL c_14) gX6_within_Jx4a65c_get_915e3 rfl (by decide +kernel) ⟨Nat.le_of_ble_eq_true rfl, Nat.le_of_ble_eq_true rfl⟩ (g_hro hE hI hgl rfl) rfl hl.1 rfl (Nat.le_of_ble_eq_true rfl) dX6_within_24 ⟨Nat.le_of_ble_eq_true rfl, Nat.le_of_ble_eq_true rfl⟩ (fun E ce q9 Gx H1 locs1 hx9 => hx9.elim) (fun rv Gc_24 H locs hp hI => ?_)
        obtain ⟨rfl, hq9⟩ := hp
        rw [hq9] at hI
        refine W.eq (g2 := F0 m 27 ls [.ref (F i), .int (nI acc)]) rfl ?_
        refine g_cast S (List.mem_cons_of_mem _ (List.mem_append_left _ (List.mem_append_left _ (List.mem_append_left _ (List.mem_of_getElem? (i := 1) rfl))))) (g_hra hE hI (k := 0) (ty := .int) hf9 rfl rfl) dX6_within_27 ?_
        refine lv_iconst (v := nI 0) hx hb dX6_within_30 (by decide) ?_
        refine g_iald S hE hI (j := 0) (f := (g i)) hf9 rfl (by omega) (by decide) dX6_within_31 ?_
        refine W.eq (g2 := F0 m 32 ls [.int (nI x9), .int (nI acc)]) (by rw [hg0]) ?_
        refine lv_iload_n hx hb dX6_within_32 rfl (lv_at hl 1 rfl) ?_
        refine lv_icmp_ge (tgt := 58) hx hb dX6_within_33 (by decide) (fun c_33 => ?_) (fun c_33 => ?_)
        · skip
          have c_33 : a ≤ x9 := (nI_leI (a := a) (b := x9) (by omega) (by omega)).mp c_33
          refine lv_iconst (v := nI 0) hx hb dX6_within_58 (by decide) ?_
          refine t_iadd hx hb dX6_within_59 (nI_add _ _) ?_
          refine lv_istore_n (lv' := [(3, .int (nI (acc + 0))), (0, .ref h0), (1, .int (nI a)), (2, .int (nI b)), (4, .int (nI i))]) hx hb dX6_within_60 rfl hl (by decide) rfl (fun ls hl => ?_)
          refine lv_iinc (v := nI (i + 1)) (lv' := [(4, .int (nI (i + 1))), (3, .int (nI (acc + 0))), (0, .ref h0), (1, .int (nI a)), (2, .int (nI b))]) hx hb dX6_within_61 hl (k := 4) rfl (nI_add _ 1) (by decide) rfl (fun ls hl => ?_)
          refine lv_goto (tgt := 5) hx hb dX6_within_64 (by decide) ?_
          exact ih (i + 1) (acc + 0) H locs ls (by omega) (by omega) (by rw [hacc]; exact cnt_no c_14 hx9 hy9 (by omega)) hI (lv_sub hl [2,3,4,1,0] rfl)
        · skip
          have c_33 : x9 < a := Nat.not_le.mp (fun z => c_33 ((nI_leI (a := a) (b := x9) (by omega) (by omega)).mpr z))
          refine lv_aload_n hx hb dX6_within_36 rfl (lv_at hl 0 rfl) ?_
          refine g_get S hE hI (C := RX6) (T := TX6) (N := 6) (ref := "StonecutterYardModel$Slab") (fun w h => (List.mem_cons_of_mem _ (List.mem_append_left _ (List.mem_append_right _ h)))) hg rfl 4 (by decide) (List.mem_cons_of_mem _ (List.mem_append_left _ (List.mem_append_left _ (List.mem_append_left _ (List.mem_of_getElem? (i := 0) rfl))))) (fun _ h9 => h9) (v := .ref pl) rfl dX6_within_37 ?_
          refine lv_iload hx hb dX6_within_40 (lv_at hl 4 rfl) ?_
          refine g_callV (As := [.int (nI i)]) (rest := [.int (nI acc)]) (b := pl) (n := 1) S hE hI hA (l_get l K _ tl tb pl (sL u).length F i hAL c_14) gX6_within_Jx4a65c_get_915e3 rfl (by decide +kernel) ⟨Nat.le_of_ble_eq_true rfl, Nat.le_of_ble_eq_true rfl⟩ (g_hro hE hI hgl rfl) rfl hl.1 rfl (Nat.le_of_ble_eq_true rfl) dX6_within_42 ⟨Nat.le_of_ble_eq_true rfl, Nat.le_of_ble_eq_true rfl⟩ (fun E ce q9 Gx H1 locs1 hx9 => hx9.elim) (fun rv Gc_42 H locs hp hI => ?_)
          obtain ⟨rfl, hq9⟩ := hp
          rw [hq9] at hI
          refine W.eq (g2 := F0 m 45 ls [.ref (F i), .int (nI acc)]) rfl ?_
          refine g_cast S (List.mem_cons_of_mem _ (List.mem_append_left _ (List.mem_append_left _ (List.mem_append_left _ (List.mem_of_getElem? (i := 1) rfl))))) (g_hra hE hI (k := 0) (ty := .int) hf9 rfl rfl) dX6_within_45 ?_
          refine lv_iconst (v := nI 1) hx hb dX6_within_48 (by decide) ?_
          refine g_iald S hE hI (j := 1) (f := (g i)) hf9 rfl (by omega) (by decide) dX6_within_49 ?_
          refine W.eq (g2 := F0 m 50 ls [.int (nI y9), .int (nI acc)]) (by rw [hg1]) ?_
          refine lv_iload_n hx hb dX6_within_50 rfl (lv_at hl 2 rfl) ?_
          refine lv_icmp_ge (tgt := 58) hx hb dX6_within_51 (by decide) (fun c_51 => ?_) (fun c_51 => ?_)
          · skip
            have c_51 : b ≤ y9 := (nI_leI (a := b) (b := y9) (by omega) (by omega)).mp c_51
            refine lv_iconst (v := nI 0) hx hb dX6_within_58 (by decide) ?_
            refine t_iadd hx hb dX6_within_59 (nI_add _ _) ?_
            refine lv_istore_n (lv' := [(3, .int (nI (acc + 0))), (0, .ref h0), (1, .int (nI a)), (2, .int (nI b)), (4, .int (nI i))]) hx hb dX6_within_60 rfl hl (by decide) rfl (fun ls hl => ?_)
            refine lv_iinc (v := nI (i + 1)) (lv' := [(4, .int (nI (i + 1))), (3, .int (nI (acc + 0))), (0, .ref h0), (1, .int (nI a)), (2, .int (nI b))]) hx hb dX6_within_61 hl (k := 4) rfl (nI_add _ 1) (by decide) rfl (fun ls hl => ?_)
            refine lv_goto (tgt := 5) hx hb dX6_within_64 (by decide) ?_
            exact ih (i + 1) (acc + 0) H locs ls (by omega) (by omega) (by rw [hacc]; exact cnt_no c_14 hx9 hy9 (by omega)) hI (lv_sub hl [2,3,4,1,0] rfl)
          · skip
            have c_51 : y9 < b := Nat.not_le.mp (fun z => c_51 ((nI_leI (a := b) (b := y9) (by omega) (by omega)).mpr z))
            refine lv_iconst (v := nI 1) hx hb dX6_within_54 (by decide) ?_
            refine lv_goto (tgt := 59) hx hb dX6_within_55 (by decide) ?_
            refine t_iadd hx hb dX6_within_59 (nI_add _ _) ?_
            refine lv_istore_n (lv' := [(3, .int (nI (acc + 1))), (0, .ref h0), (1, .int (nI a)), (2, .int (nI b)), (4, .int (nI i))]) hx hb dX6_within_60 rfl hl (by decide) rfl (fun ls hl => ?_)
            refine lv_iinc (v := nI (i + 1)) (lv' := [(4, .int (nI (i + 1))), (3, .int (nI (acc + 1))), (0, .ref h0), (1, .int (nI a)), (2, .int (nI b))]) hx hb dX6_within_61 hl (k := 4) rfl (nI_add _ 1) (by decide) rfl (fun ls hl => ?_)
            refine lv_goto (tgt := 5) hx hb dX6_within_64 (by decide) ?_
            exact ih (i + 1) (acc + 1) H locs ls (by omega) (by omega) (by rw [hacc]; exact cnt_yes c_14 hx9 hy9 (by omega)) hI (lv_sub hl [2,3,4,1,0] rfl)
  exact L5 _ 0 0 H locs ls (Nat.lt_succ_self _) (Nat.zero_le _) (by rw [List.take_zero]; rfl) hI (lv_sub hl [2,3,4,1,0] rfl)
set_option maxHeartbeats 4000000 in
set_option maxRecDepth 100000 in
/-- Kind.wide(manner) -/
theorem c_X5_wide (l : Launch) (K : gK) (G : gW) (t : gTag) (h0 : Nat) (k : KV) (mn : Nat) (hg : G t = some (h0, cMK k)) (hmn : mn < 2) : gM l yX5_wide wsX5_wide 2 40 0 0 K [.ref h0, .int (nI mn)] G (fun v G1 => v = some (.int (nI (kw k mn))) ∧ G1 = G) (gNo) := by
  refine gM.of (cc := cX5_wide) (maxL := 2) (ret := (some .int)) (by decide) rfl (Nat.le_of_ble_eq_true rfl) ?_
  intro p e s m below meth c A S hr hlocks htab hname hE hA hI ls hl
  have hx := S.1
  have hb := S.2.1
  have hml := S.2.2.1
  have hl : lv_has ls 2 [(0, .ref h0), (1, .int (nI mn))] := hl
  obtain ⟨H, hHe⟩ : ∃ z, z = s.heap := ⟨_, rfl⟩
  obtain ⟨locs, hLe⟩ : ∃ z : List Loc, z = [] := ⟨_, rfl⟩
  rw [← hHe, ← hLe]
  have hI : gI K A s G H locs := by rw [hHe, hLe]; exact hI
  clear hHe hLe
  refine lv_iload_n hx hb dX5_wide_0 rfl (lv_at hl 1 rfl) ?_
  refine lv_if_ne (tgt := 11) hx hb dX5_wide_1 (by decide) (fun c_1 => ?_) (fun c_1 => ?_)
  · skip
    have c_1 : mn ≠ 0 := fun z => c_1 ((nI_eq (a := mn) (b := 0) (by omega) (by omega)).mpr z)
    refine lv_aload_n hx hb dX5_wide_11 rfl (lv_at hl 0 rfl) ?_
    refine g_get S hE hI (C := RX5) (T := TX5) (N := 8) (ref := "StonecutterYardModel$Kind") (fun w h => (List.mem_cons_of_mem _ (List.mem_append_right _ h))) hg rfl 1 (by decide) (List.mem_cons_of_mem _ (List.mem_append_left _ (List.mem_of_getElem? (i := 1) rfl))) (fun _ h9 => h9) (v := .int (nI (kB k))) rfl dX5_wide_12 ?_
    exact g_iret S hI hr hlocks (Nat.zero_le _) (Nat.zero_le _) dX5_wide_15 ⟨by simp [kw, c_1], rfl⟩
  · skip
    have c_1 : mn = 0 := (nI_eq (a := mn) (b := 0) (by omega) (by omega)).mp c_1
    refine lv_aload_n hx hb dX5_wide_4 rfl (lv_at hl 0 rfl) ?_
    refine g_get S hE hI (C := RX5) (T := TX5) (N := 8) (ref := "StonecutterYardModel$Kind") (fun w h => (List.mem_cons_of_mem _ (List.mem_append_right _ h))) hg rfl 0 (by decide) (List.mem_cons_of_mem _ (List.mem_append_left _ (List.mem_of_getElem? (i := 0) rfl))) (fun _ h9 => h9) (v := .int (nI (kL k))) rfl dX5_wide_5 ?_
    refine lv_goto (tgt := 15) hx hb dX5_wide_8 (by decide) ?_
    exact g_iret S hI hr hlocks (Nat.zero_le _) (Nat.zero_le _) dX5_wide_15 ⟨by simp [kw, c_1], rfl⟩
set_option maxHeartbeats 4000000 in
set_option maxRecDepth 100000 in
/-- Kind.high(manner) -/
theorem c_X5_high (l : Launch) (K : gK) (G : gW) (t : gTag) (h0 : Nat) (k : KV) (mn : Nat) (hg : G t = some (h0, cMK k)) (hmn : mn < 2) : gM l yX5_high wsX5_high 2 40 0 0 K [.ref h0, .int (nI mn)] G (fun v G1 => v = some (.int (nI (kh k mn))) ∧ G1 = G) (gNo) := by
  refine gM.of (cc := cX5_high) (maxL := 2) (ret := (some .int)) (by decide) rfl (Nat.le_of_ble_eq_true rfl) ?_
  intro p e s m below meth c A S hr hlocks htab hname hE hA hI ls hl
  have hx := S.1
  have hb := S.2.1
  have hml := S.2.2.1
  have hl : lv_has ls 2 [(0, .ref h0), (1, .int (nI mn))] := hl
  obtain ⟨H, hHe⟩ : ∃ z, z = s.heap := ⟨_, rfl⟩
  obtain ⟨locs, hLe⟩ : ∃ z : List Loc, z = [] := ⟨_, rfl⟩
  rw [← hHe, ← hLe]
  have hI : gI K A s G H locs := by rw [hHe, hLe]; exact hI
  clear hHe hLe
  refine lv_iload_n hx hb dX5_high_0 rfl (lv_at hl 1 rfl) ?_
  refine lv_if_ne (tgt := 11) hx hb dX5_high_1 (by decide) (fun c_1 => ?_) (fun c_1 => ?_)
  · skip
    have c_1 : mn ≠ 0 := fun z => c_1 ((nI_eq (a := mn) (b := 0) (by omega) (by omega)).mpr z)
    refine lv_aload_n hx hb dX5_high_11 rfl (lv_at hl 0 rfl) ?_
    refine g_get S hE hI (C := RX5) (T := TX5) (N := 8) (ref := "StonecutterYardModel$Kind") (fun w h => (List.mem_cons_of_mem _ (List.mem_append_right _ h))) hg rfl 0 (by decide) (List.mem_cons_of_mem _ (List.mem_append_left _ (List.mem_of_getElem? (i := 1) rfl))) (fun _ h9 => h9) (v := .int (nI (kL k))) rfl dX5_high_12 ?_
    exact g_iret S hI hr hlocks (Nat.zero_le _) (Nat.zero_le _) dX5_high_15 ⟨by simp [kh, c_1], rfl⟩
  · skip
    have c_1 : mn = 0 := (nI_eq (a := mn) (b := 0) (by omega) (by omega)).mp c_1
    refine lv_aload_n hx hb dX5_high_4 rfl (lv_at hl 0 rfl) ?_
    refine g_get S hE hI (C := RX5) (T := TX5) (N := 8) (ref := "StonecutterYardModel$Kind") (fun w h => (List.mem_cons_of_mem _ (List.mem_append_right _ h))) hg rfl 1 (by decide) (List.mem_cons_of_mem _ (List.mem_append_left _ (List.mem_of_getElem? (i := 0) rfl))) (fun _ h9 => h9) (v := .int (nI (kB k))) rfl dX5_high_5 ?_
    refine lv_goto (tgt := 15) hx hb dX5_high_8 (by decide) ?_
    exact g_iret S hI hr hlocks (Nat.zero_le _) (Nat.zero_le _) dX5_high_15 ⟨by simp [kh, c_1], rfl⟩
set_option maxHeartbeats 4000000 in
set_option maxRecDepth 100000 in
/-- Kind.isLet(manner, grain) -/
theorem c_X5_isLet (l : Launch) (K : gK) (G : gW) (t : gTag) (h0 : Nat) (k : KV) (mn g : Nat) (hg : G t = some (h0, cMK k)) (hok : kOK k) (hmn : mn < 2 ∧ g ≤ 1) : gM l yX5_isLet wsX5_isLet 2 40 0 0 K [.ref h0, .int (nI mn), .int (nI g)] G (fun v G1 => v = some (.int (bI (kAl k mn g))) ∧ G1 = G) (gNo) := by
  refine gM.of (cc := cX5_isLet) (maxL := 3) (ret := (some .boolean)) (by decide) rfl (Nat.le_of_ble_eq_true rfl) ?_
  intro p e s m below meth c A S hr hlocks htab hname hE hA hI ls hl
  have hx := S.1
  have hb := S.2.1
  have hml := S.2.2.1
  have hl : lv_has ls 3 [(0, .ref h0), (1, .int (nI mn)), (2, .int (nI g))] := hl
  obtain ⟨k1, k2, k3, k4, k5, k6, k7, k8, k9⟩ := hok
  obtain ⟨H, hHe⟩ : ∃ z, z = s.heap := ⟨_, rfl⟩
  obtain ⟨locs, hLe⟩ : ∃ z : List Loc, z = [] := ⟨_, rfl⟩
  rw [← hHe, ← hLe]
  have hI : gI K A s G H locs := by rw [hHe, hLe]; exact hI
  clear hHe hLe
  refine lv_aload_n hx hb dX5_isLet_0 rfl (lv_at hl 0 rfl) ?_
  refine g_get S hE hI (C := RX5) (T := TX5) (N := 8) (ref := "StonecutterYardModel$Kind") (fun w h => (List.mem_cons_of_mem _ (List.mem_append_right _ h))) hg rfl 2 (by decide) (List.mem_cons_of_mem _ (List.mem_append_left _ (List.mem_of_getElem? (i := 0) rfl))) (fun _ h9 => h9) (v := .int (nI (kW k))) rfl dX5_isLet_1 ?_
  refine lv_if_eq (tgt := 33) hx hb dX5_isLet_4 (by decide) (fun c_4 => ?_) (fun c_4 => ?_)
  · skip
    have c_4 : (kW k) = 0 := (nI_eq (a := (kW k)) (b := 0) (by omega) (by omega)).mp c_4
    refine lv_iconst (v := nI 1) hx hb dX5_isLet_33 (by decide) ?_
    refine lv_goto (tgt := 38) hx hb dX5_isLet_34 (by decide) ?_
    exact g_zret S hI hr hlocks (Nat.zero_le _) (Nat.zero_le _) (Or.inr rfl) dX5_isLet_38 ⟨by rw [show kAl k mn g = true by simp [kAl, c_4]]; rfl, rfl⟩
  · skip
    have c_4 : (kW k) ≠ 0 := fun z => c_4 ((nI_eq (a := (kW k)) (b := 0) (by omega) (by omega)).mpr z)
    refine lv_aload_n hx hb dX5_isLet_7 rfl (lv_at hl 0 rfl) ?_
    refine g_get S hE hI (C := RX5) (T := TX5) (N := 8) (ref := "StonecutterYardModel$Kind") (fun w h => (List.mem_cons_of_mem _ (List.mem_append_right _ h))) hg rfl 2 (by decide) (List.mem_cons_of_mem _ (List.mem_append_left _ (List.mem_of_getElem? (i := 0) rfl))) (fun _ h9 => h9) (v := .int (nI (kW k))) rfl dX5_isLet_8 ?_
    refine lv_iconst (v := nI 1) hx hb dX5_isLet_11 (by decide) ?_
    refine lv_icmp_ne (tgt := 19) hx hb dX5_isLet_12 (by decide) (fun c_12 => ?_) (fun c_12 => ?_)
    · skip
      have c_12 : (kW k) ≠ 1 := fun z => c_12 ((nI_eq (a := (kW k)) (b := 1) (by omega) (by omega)).mpr z)
      refine lv_iconst (v := nI 0) hx hb dX5_isLet_19 (by decide) ?_
      refine W.eq (g2 := F0 m 20 ls [.int (bI (kW k == 1))]) (by rw [show (kW k == 1) = false from by simp [c_12]]; rfl) ?_
      refine lv_iload_n hx hb dX5_isLet_20 rfl (lv_at hl 1 rfl) ?_
      refine lv_iload_n hx hb dX5_isLet_21 rfl (lv_at hl 2 rfl) ?_
      refine lv_icmp_ne (tgt := 29) hx hb dX5_isLet_22 (by decide) (fun c_22 => ?_) (fun c_22 => ?_)
      · skip
        have c_22 : mn ≠ g := fun z => c_22 ((nI_eq (a := mn) (b := g) (by omega) (by omega)).mpr z)
        refine lv_iconst (v := nI 0) hx hb dX5_isLet_29 (by decide) ?_
        refine W.eq (g2 := F0 m 30 ls [.int (bI (mn == g)), .int (bI (kW k == 1))]) (by rw [show (mn == g) = false from by simp [c_22]]; rfl) ?_
        refine lv_icmp_ne (tgt := 37) hx hb dX5_isLet_30 (by decide) (fun c_30 => ?_) (fun c_30 => ?_)
        · skip
          refine lv_iconst (v := nI 0) hx hb dX5_isLet_37 (by decide) ?_
          exact g_zret S hI hr hlocks (Nat.zero_le _) (Nat.zero_le _) (Or.inl rfl) dX5_isLet_38 ⟨by rw [show kAl k mn g = false by unfold kAl; rw [show (kW k == 0) = false by simp [c_4], Bool.false_or]; exact beq_eq_false_iff_ne.mpr (fun z9 => c_30 (by rw [z9]))]; rfl, rfl⟩
        · skip
          refine lv_iconst (v := nI 1) hx hb dX5_isLet_33 (by decide) ?_
          refine lv_goto (tgt := 38) hx hb dX5_isLet_34 (by decide) ?_
          exact g_zret S hI hr hlocks (Nat.zero_le _) (Nat.zero_le _) (Or.inr rfl) dX5_isLet_38 ⟨by rw [show kAl k mn g = true by unfold kAl; rw [show (kW k == 0) = false by simp [c_4], Bool.false_or]; exact beq_iff_eq.mpr (bI_eq.mp c_30)]; rfl, rfl⟩
      · skip
        have c_22 : mn = g := (nI_eq (a := mn) (b := g) (by omega) (by omega)).mp c_22
        refine lv_iconst (v := nI 1) hx hb dX5_isLet_25 (by decide) ?_
        refine lv_goto (tgt := 30) hx hb dX5_isLet_26 (by decide) ?_
        refine W.eq (g2 := F0 m 30 ls [.int (bI (mn == g)), .int (bI (kW k == 1))]) (by rw [show (mn == g) = true from by simp [c_22]]; rfl) ?_
        refine lv_icmp_ne (tgt := 37) hx hb dX5_isLet_30 (by decide) (fun c_30 => ?_) (fun c_30 => ?_)
        · skip
          refine lv_iconst (v := nI 0) hx hb dX5_isLet_37 (by decide) ?_
          exact g_zret S hI hr hlocks (Nat.zero_le _) (Nat.zero_le _) (Or.inl rfl) dX5_isLet_38 ⟨by rw [show kAl k mn g = false by unfold kAl; rw [show (kW k == 0) = false by simp [c_4], Bool.false_or]; exact beq_eq_false_iff_ne.mpr (fun z9 => c_30 (by rw [z9]))]; rfl, rfl⟩
        · skip
          refine lv_iconst (v := nI 1) hx hb dX5_isLet_33 (by decide) ?_
          refine lv_goto (tgt := 38) hx hb dX5_isLet_34 (by decide) ?_
          exact g_zret S hI hr hlocks (Nat.zero_le _) (Nat.zero_le _) (Or.inr rfl) dX5_isLet_38 ⟨by rw [show kAl k mn g = true by unfold kAl; rw [show (kW k == 0) = false by simp [c_4], Bool.false_or]; exact beq_iff_eq.mpr (bI_eq.mp c_30)]; rfl, rfl⟩
    · skip
      have c_12 : (kW k) = 1 := (nI_eq (a := (kW k)) (b := 1) (by omega) (by omega)).mp c_12
      refine lv_iconst (v := nI 1) hx hb dX5_isLet_15 (by decide) ?_
      refine lv_goto (tgt := 20) hx hb dX5_isLet_16 (by decide) ?_
      refine W.eq (g2 := F0 m 20 ls [.int (bI (kW k == 1))]) (by rw [show (kW k == 1) = true from by simp [c_12]]; rfl) ?_
      refine lv_iload_n hx hb dX5_isLet_20 rfl (lv_at hl 1 rfl) ?_
      refine lv_iload_n hx hb dX5_isLet_21 rfl (lv_at hl 2 rfl) ?_
      refine lv_icmp_ne (tgt := 29) hx hb dX5_isLet_22 (by decide) (fun c_22 => ?_) (fun c_22 => ?_)
      · skip
        have c_22 : mn ≠ g := fun z => c_22 ((nI_eq (a := mn) (b := g) (by omega) (by omega)).mpr z)
        refine lv_iconst (v := nI 0) hx hb dX5_isLet_29 (by decide) ?_
        refine W.eq (g2 := F0 m 30 ls [.int (bI (mn == g)), .int (bI (kW k == 1))]) (by rw [show (mn == g) = false from by simp [c_22]]; rfl) ?_
        refine lv_icmp_ne (tgt := 37) hx hb dX5_isLet_30 (by decide) (fun c_30 => ?_) (fun c_30 => ?_)
        · skip
          refine lv_iconst (v := nI 0) hx hb dX5_isLet_37 (by decide) ?_
          exact g_zret S hI hr hlocks (Nat.zero_le _) (Nat.zero_le _) (Or.inl rfl) dX5_isLet_38 ⟨by rw [show kAl k mn g = false by unfold kAl; rw [show (kW k == 0) = false by simp [c_4], Bool.false_or]; exact beq_eq_false_iff_ne.mpr (fun z9 => c_30 (by rw [z9]))]; rfl, rfl⟩
        · skip
          refine lv_iconst (v := nI 1) hx hb dX5_isLet_33 (by decide) ?_
          refine lv_goto (tgt := 38) hx hb dX5_isLet_34 (by decide) ?_
          exact g_zret S hI hr hlocks (Nat.zero_le _) (Nat.zero_le _) (Or.inr rfl) dX5_isLet_38 ⟨by rw [show kAl k mn g = true by unfold kAl; rw [show (kW k == 0) = false by simp [c_4], Bool.false_or]; exact beq_iff_eq.mpr (bI_eq.mp c_30)]; rfl, rfl⟩
      · skip
        have c_22 : mn = g := (nI_eq (a := mn) (b := g) (by omega) (by omega)).mp c_22
        refine lv_iconst (v := nI 1) hx hb dX5_isLet_25 (by decide) ?_
        refine lv_goto (tgt := 30) hx hb dX5_isLet_26 (by decide) ?_
        refine W.eq (g2 := F0 m 30 ls [.int (bI (mn == g)), .int (bI (kW k == 1))]) (by rw [show (mn == g) = true from by simp [c_22]]; rfl) ?_
        refine lv_icmp_ne (tgt := 37) hx hb dX5_isLet_30 (by decide) (fun c_30 => ?_) (fun c_30 => ?_)
        · skip
          refine lv_iconst (v := nI 0) hx hb dX5_isLet_37 (by decide) ?_
          exact g_zret S hI hr hlocks (Nat.zero_le _) (Nat.zero_le _) (Or.inl rfl) dX5_isLet_38 ⟨by rw [show kAl k mn g = false by unfold kAl; rw [show (kW k == 0) = false by simp [c_4], Bool.false_or]; exact beq_eq_false_iff_ne.mpr (fun z9 => c_30 (by rw [z9]))]; rfl, rfl⟩
        · skip
          refine lv_iconst (v := nI 1) hx hb dX5_isLet_33 (by decide) ?_
          refine lv_goto (tgt := 38) hx hb dX5_isLet_34 (by decide) ?_
          exact g_zret S hI hr hlocks (Nat.zero_le _) (Nat.zero_le _) (Or.inr rfl) dX5_isLet_38 ⟨by rw [show kAl k mn g = true by unfold kAl; rw [show (kW k == 0) = false by simp [c_4], Bool.false_or]; exact beq_iff_eq.mpr (bI_eq.mp c_30)]; rfl, rfl⟩
set_option maxHeartbeats 4000000 in
set_option maxRecDepth 100000 in
/-- Kind.lies(manner, wide, high, grain) -/
theorem c_X5_lies (l : Launch) (K : gK) (G : gW) (t : gTag) (h0 : Nat) (k : KV) (mn w h g : Nat) (hg : G t = some (h0, cMK k)) (hok : kOK k) (hmn : mn < 2 ∧ w ≤ 24 ∧ h ≤ 24 ∧ g ≤ 1) : gM l yX5_lies wsX5_lies 3 62 0 0 K [.ref h0, .int (nI mn), .int (nI w), .int (nI h), .int (nI g)] G (fun v G1 => v = some (.int (bI (kGoes k mn w h g))) ∧ G1 = G) (gNo) := by
  refine gM.of (cc := cX5_lies) (maxL := 5) (ret := (some .boolean)) (by decide) rfl (Nat.le_of_ble_eq_true rfl) ?_
  intro p e s m below meth c A S hr hlocks htab hname hE hA hI ls hl
  have hx := S.1
  have hb := S.2.1
  have hml := S.2.2.1
  have hl : lv_has ls 5 [(0, .ref h0), (1, .int (nI mn)), (2, .int (nI w)), (3, .int (nI h)), (4, .int (nI g))] := hl
  obtain ⟨b1, b2, b3, b4⟩ := hmn
  have hkw := kw_le hok mn
  have hkh := kh_le hok mn
  obtain ⟨H, hHe⟩ : ∃ z, z = s.heap := ⟨_, rfl⟩
  obtain ⟨locs, hLe⟩ : ∃ z : List Loc, z = [] := ⟨_, rfl⟩
  rw [← hHe, ← hLe]
  have hI : gI K A s G H locs := by rw [hHe, hLe]; exact hI
  clear hHe hLe
  refine lv_aload_n hx hb dX5_lies_0 rfl (lv_at hl 0 rfl) ?_
  refine lv_iload_n hx hb dX5_lies_1 rfl (lv_at hl 1 rfl) ?_
  refine lv_iload hx hb dX5_lies_2 (lv_at hl 4 rfl) ?_
  refine g_callV (As := [.int (nI mn), .int (nI g)]) (rest := []) (b := h0) (n := 2) S hE hI hA (c_X5_isLet l K _ t h0 k mn g hg hok ⟨b1, b4⟩) gX5_lies_X5_isLet rfl (by decide +kernel) ⟨Nat.le_of_ble_eq_true rfl, Nat.le_of_ble_eq_true rfl⟩ (g_hro hE hI hg rfl) rfl hl.1 rfl (Nat.le_of_ble_eq_true rfl) dX5_lies_4 ⟨Nat.le_of_ble_eq_true rfl, Nat.le_of_ble_eq_true rfl⟩ (fun E ce q9 Gx H1 locs1 hx9 => hx9.elim) (fun rv Gc_4 H locs hp hI => ?_)
  obtain ⟨rfl, hq9⟩ := hp
  rw [hq9] at hI
  refine W.eq (g2 := F0 m 7 ls [.int (bI (kAl k mn g))]) rfl ?_
  refine lv_if_eq (tgt := 32) hx hb dX5_lies_7 (by decide) (fun c_7 => ?_) (fun c_7 => ?_)
  · skip
    have c_7 : (kAl k mn g) = false := bI_0.mp c_7
    refine lv_iconst (v := nI 0) hx hb dX5_lies_32 (by decide) ?_
    exact g_zret S hI hr hlocks (Nat.zero_le _) (Nat.zero_le _) (Or.inl rfl) dX5_lies_33 ⟨by rw [kG_f1 c_7]; rfl, rfl⟩
  · skip
    have c_7 : (kAl k mn g) = true := bI_1.mp c_7
    refine lv_aload_n hx hb dX5_lies_10 rfl (lv_at hl 0 rfl) ?_
    refine lv_iload_n hx hb dX5_lies_11 rfl (lv_at hl 1 rfl) ?_
    refine g_callV (As := [.int (nI mn)]) (rest := []) (b := h0) (n := 1) S hE hI hA (c_X5_wide l K _ t h0 k mn hg b1) gX5_lies_X5_wide rfl (by decide +kernel) ⟨Nat.le_of_ble_eq_true rfl, Nat.le_of_ble_eq_true rfl⟩ (g_hro hE hI hg rfl) rfl hl.1 rfl (Nat.le_of_ble_eq_true rfl) dX5_lies_12 ⟨Nat.le_of_ble_eq_true rfl, Nat.le_of_ble_eq_true rfl⟩ (fun E ce q9 Gx H1 locs1 hx9 => hx9.elim) (fun rv Gc_12 H locs hp hI => ?_)
    obtain ⟨rfl, hq9⟩ := hp
    rw [hq9] at hI
    refine W.eq (g2 := F0 m 15 ls [.int (nI (kw k mn))]) rfl ?_
    refine lv_iload_n hx hb dX5_lies_15 rfl (lv_at hl 2 rfl) ?_
    refine lv_icmp_gt (tgt := 32) hx hb dX5_lies_16 (by decide) (fun c_16 => ?_) (fun c_16 => ?_)
    · skip
      have c_16 : w < (kw k mn) := (nI_ltI (a := w) (b := (kw k mn)) (by omega) (by omega)).mp c_16
      refine lv_iconst (v := nI 0) hx hb dX5_lies_32 (by decide) ?_
      exact g_zret S hI hr hlocks (Nat.zero_le _) (Nat.zero_le _) (Or.inl rfl) dX5_lies_33 ⟨by rw [kG_f2 rfl c_16]; rfl, rfl⟩
    · skip
      have c_16 : (kw k mn) ≤ w := Nat.not_lt.mp (fun z => c_16 ((nI_ltI (a := w) (b := (kw k mn)) (by omega) (by omega)).mpr z))
      refine lv_aload_n hx hb dX5_lies_19 rfl (lv_at hl 0 rfl) ?_
      refine lv_iload_n hx hb dX5_lies_20 rfl (lv_at hl 1 rfl) ?_
      refine g_callV (As := [.int (nI mn)]) (rest := []) (b := h0) (n := 1) S hE hI hA (c_X5_high l K _ t h0 k mn hg b1) gX5_lies_X5_high rfl (by decide +kernel) ⟨Nat.le_of_ble_eq_true rfl, Nat.le_of_ble_eq_true rfl⟩ (g_hro hE hI hg rfl) rfl hl.1 rfl (Nat.le_of_ble_eq_true rfl) dX5_lies_21 ⟨Nat.le_of_ble_eq_true rfl, Nat.le_of_ble_eq_true rfl⟩ (fun E ce q9 Gx H1 locs1 hx9 => hx9.elim) (fun rv Gc_21 H locs hp hI => ?_)
      obtain ⟨rfl, hq9⟩ := hp
      rw [hq9] at hI
      refine W.eq (g2 := F0 m 24 ls [.int (nI (kh k mn))]) rfl ?_
      refine lv_iload_n hx hb dX5_lies_24 rfl (lv_at hl 3 rfl) ?_
      refine lv_icmp_gt (tgt := 32) hx hb dX5_lies_25 (by decide) (fun c_25 => ?_) (fun c_25 => ?_)
      · skip
        have c_25 : h < (kh k mn) := (nI_ltI (a := h) (b := (kh k mn)) (by omega) (by omega)).mp c_25
        refine lv_iconst (v := nI 0) hx hb dX5_lies_32 (by decide) ?_
        exact g_zret S hI hr hlocks (Nat.zero_le _) (Nat.zero_le _) (Or.inl rfl) dX5_lies_33 ⟨by rw [kG_f3 rfl c_25]; rfl, rfl⟩
      · skip
        have c_25 : (kh k mn) ≤ h := Nat.not_lt.mp (fun z => c_25 ((nI_ltI (a := h) (b := (kh k mn)) (by omega) (by omega)).mpr z))
        refine lv_iconst (v := nI 1) hx hb dX5_lies_28 (by decide) ?_
        refine lv_goto (tgt := 33) hx hb dX5_lies_29 (by decide) ?_
        exact g_zret S hI hr hlocks (Nat.zero_le _) (Nat.zero_le _) (Or.inr rfl) dX5_lies_33 ⟨by rw [kG_t c_7 rfl rfl c_16 c_25]; rfl, rfl⟩
set_option maxHeartbeats 4000000 in
set_option maxRecDepth 100000 in
/-- Kind.lies(wide, high, grain) -/
theorem c_X5_lies_ (l : Launch) (K : gK) (G : gW) (t : gTag) (h0 : Nat) (k : KV) (w h g : Nat) (hg : G t = some (h0, cMK k)) (hok : kOK k) (hb0 : w ≤ 24 ∧ h ≤ 24 ∧ g ≤ 1) : gM l yX5_lies_ wsX5_lies_ 4 86 0 0 K [.ref h0, .int (nI w), .int (nI h), .int (nI g)] G (fun v G1 => v = some (.int (bI (kLies k w h g))) ∧ G1 = G) (gNo) := by
  refine gM.of (cc := cX5_lies_) (maxL := 4) (ret := (some .boolean)) (by decide) rfl (Nat.le_of_ble_eq_true rfl) ?_
  intro p e s m below meth c A S hr hlocks htab hname hE hA hI ls hl
  have hx := S.1
  have hb := S.2.1
  have hml := S.2.2.1
  have hl : lv_has ls 4 [(0, .ref h0), (1, .int (nI w)), (2, .int (nI h)), (3, .int (nI g))] := hl
  obtain ⟨H, hHe⟩ : ∃ z, z = s.heap := ⟨_, rfl⟩
  obtain ⟨locs, hLe⟩ : ∃ z : List Loc, z = [] := ⟨_, rfl⟩
  rw [← hHe, ← hLe]
  have hI : gI K A s G H locs := by rw [hHe, hLe]; exact hI
  clear hHe hLe
  refine lv_aload_n hx hb dX5_lies__0 rfl (lv_at hl 0 rfl) ?_
  refine lv_iconst (v := nI 0) hx hb dX5_lies__1 (by decide) ?_
  refine lv_iload_n hx hb dX5_lies__2 rfl (lv_at hl 1 rfl) ?_
  refine lv_iload_n hx hb dX5_lies__3 rfl (lv_at hl 2 rfl) ?_
  refine lv_iload_n hx hb dX5_lies__4 rfl (lv_at hl 3 rfl) ?_
  refine g_callV (As := [.int (nI 0), .int (nI w), .int (nI h), .int (nI g)]) (rest := []) (b := h0) (n := 4) S hE hI hA (c_X5_lies l K _ t h0 k 0 w h g hg hok ⟨by decide, hb0.1, hb0.2.1, hb0.2.2⟩) gX5_lies__X5_lies rfl (by decide +kernel) ⟨Nat.le_of_ble_eq_true rfl, Nat.le_of_ble_eq_true rfl⟩ (g_hro hE hI hg rfl) rfl hl.1 rfl (Nat.le_of_ble_eq_true rfl) dX5_lies__5 ⟨Nat.le_of_ble_eq_true rfl, Nat.le_of_ble_eq_true rfl⟩ (fun E ce q9 Gx H1 locs1 hx9 => hx9.elim) (fun rv Gc_5 H locs hp hI => ?_)
  obtain ⟨rfl, hq9⟩ := hp
  rw [hq9] at hI
  refine W.eq (g2 := F0 m 8 ls [.int (bI (kGoes k 0 w h g))]) rfl ?_
  refine lv_if_ne (tgt := 22) hx hb dX5_lies__8 (by decide) (fun c_8 => ?_) (fun c_8 => ?_)
  · skip
    have c_8 : (kGoes k 0 w h g) = true := bI_1.mp c_8
    refine lv_iconst (v := nI 1) hx hb dX5_lies__22 (by decide) ?_
    refine lv_goto (tgt := 27) hx hb dX5_lies__23 (by decide) ?_
    exact g_zret S hI hr hlocks (Nat.zero_le _) (Nat.zero_le _) (Or.inr rfl) dX5_lies__27 ⟨by rw [show kLies k w h g = true by unfold kLies; rw [c_8]; rfl]; rfl, rfl⟩
  · skip
    have c_8 : (kGoes k 0 w h g) = false := bI_0.mp c_8
    refine lv_aload_n hx hb dX5_lies__11 rfl (lv_at hl 0 rfl) ?_
    refine lv_iconst (v := nI 1) hx hb dX5_lies__12 (by decide) ?_
    refine lv_iload_n hx hb dX5_lies__13 rfl (lv_at hl 1 rfl) ?_
    refine lv_iload_n hx hb dX5_lies__14 rfl (lv_at hl 2 rfl) ?_
    refine lv_iload_n hx hb dX5_lies__15 rfl (lv_at hl 3 rfl) ?_
    refine g_callV (As := [.int (nI 1), .int (nI w), .int (nI h), .int (nI g)]) (rest := []) (b := h0) (n := 4) S hE hI hA (c_X5_lies l K _ t h0 k 1 w h g hg hok ⟨by decide, hb0.1, hb0.2.1, hb0.2.2⟩) gX5_lies__X5_lies rfl (by decide +kernel) ⟨Nat.le_of_ble_eq_true rfl, Nat.le_of_ble_eq_true rfl⟩ (g_hro hE hI hg rfl) rfl hl.1 rfl (Nat.le_of_ble_eq_true rfl) dX5_lies__16 ⟨Nat.le_of_ble_eq_true rfl, Nat.le_of_ble_eq_true rfl⟩ (fun E ce q9 Gx H1 locs1 hx9 => hx9.elim) (fun rv Gc_16 H locs hp hI => ?_)
    obtain ⟨rfl, hq9⟩ := hp
    rw [hq9] at hI
    refine W.eq (g2 := F0 m 19 ls [.int (bI (kGoes k 1 w h g))]) rfl ?_
    refine lv_if_eq (tgt := 26) hx hb dX5_lies__19 (by decide) (fun c_19 => ?_) (fun c_19 => ?_)
    · skip
      have c_19 : (kGoes k 1 w h g) = false := bI_0.mp c_19
      refine lv_iconst (v := nI 0) hx hb dX5_lies__26 (by decide) ?_
      exact g_zret S hI hr hlocks (Nat.zero_le _) (Nat.zero_le _) (Or.inl rfl) dX5_lies__27 ⟨by rw [show kLies k w h g = false by unfold kLies; rw [c_8, c_19]; rfl]; rfl, rfl⟩
    · skip
      have c_19 : (kGoes k 1 w h g) = true := bI_1.mp c_19
      refine lv_iconst (v := nI 1) hx hb dX5_lies__22 (by decide) ?_
      refine lv_goto (tgt := 27) hx hb dX5_lies__23 (by decide) ?_
      exact g_zret S hI hr hlocks (Nat.zero_le _) (Nat.zero_le _) (Or.inr rfl) dX5_lies__27 ⟨by rw [show kLies k w h g = true by unfold kLies; rw [c_8, c_19]; rfl]; rfl, rfl⟩
set_option maxHeartbeats 4000000 in
set_option maxRecDepth 100000 in
/-- Kind.fits(slab) -/
theorem c_X5_fits (l : Launch) (K : gK) (G : gW) (t t3 tl : gTag) (tb : Bool → gTag) (h0 h1 : Nat) (u : SV) (k : KV) (pl N : Nat) (hg : G t = some (h0, cMK k)) (hg3 : G t3 = some (h1, cMS u pl)) (hfl : FLi K G tl tb pl (sL u) N) (hok : sOK u) (hok2 : kOK k) : gM l yX5_fits wsX5_fits 6 128 0 0 K [.ref h0, .ref h1] G (fun v G1 => v = some (.int (oI (sFits u k))) ∧ G1 = G) (gNo) := by
  refine gM.of (cc := cX5_fits) (maxL := 3) (ret := (some .int)) (by decide) rfl (Nat.le_of_ble_eq_true rfl) ?_
  intro p e s m below meth c A S hr hlocks htab hname hE hA hI ls hl
  have hx := S.1
  have hb := S.2.1
  have hml := S.2.2.1
  have hl : lv_has ls 3 [(0, .ref h0), (1, .ref h1)] := hl
  have hok9 := hok2
  obtain ⟨k1, k2, k3, k4, k5, k6, k7, k8, k9⟩ := hok9
  have hok8 := hok
  obtain ⟨s1, s2, s3, s4, s5, s6, s7, s8⟩ := hok8
  have hkw := kw_le hok2
  have hkh := kh_le hok2
  obtain ⟨H, hHe⟩ : ∃ z, z = s.heap := ⟨_, rfl⟩
  obtain ⟨locs, hLe⟩ : ∃ z : List Loc, z = [] := ⟨_, rfl⟩
  rw [← hHe, ← hLe]
  have hI : gI K A s G H locs := by rw [hHe, hLe]; exact hI
  clear hHe hLe
  refine lv_iconst (v := nI 0) hx hb dX5_fits_0 (by decide) ?_
  refine lv_istore_n (lv' := [(2, .int (nI 0)), (0, .ref h0), (1, .ref h1)]) hx hb dX5_fits_1 rfl hl (by decide) rfl (fun ls hl => ?_)
  have L2 : ∀ (n : Nat) (mn : Nat) (H : Heap) (locs : List Loc) (ls : Array Slot) (hn : 2 - mn < n) (hmn : mn ≤ 2) (hno : ∀ j, j < mn → sOkIn u k j = false), gI K A s G H locs → lv_has ls 3 [(0, .ref h0), (1, .ref h1), (2, .int (nI mn))] → W p l e (gRoom 6 128 0 0) s m ([.ref h0, .ref h1] : List Value).toArray below meth c H locs 0 0 (gEnd K below (fun v G1 => v = some (.int (oI (sFits u k))) ∧ G1 = G) (gNo) A ([.ref h0, .ref h1] : List Value).toArray s 0 0) (F0 m 2 ls []) := by
    clear hI hl
    intro n
    induction n with
    | zero =>
      intro mn H locs ls hn hmn hno hI hl
      exact absurd hn (Nat.not_lt_zero _)
    | succ n ih =>
      intro mn H locs ls hn hmn hno hI hl
      refine lv_iload_n hx hb dX5_fits_2 rfl (lv_at hl 2 rfl) ?_
      refine lv_iconst (v := nI 2) hx hb dX5_fits_3 (by decide) ?_
      refine lv_icmp_ge (tgt := 63) hx hb dX5_fits_4 (by decide) (fun c_4 => ?_) (fun c_4 => ?_)
      · skip
        have c_4 : 2 ≤ mn := (nI_leI (a := 2) (b := mn) (by omega) (by omega)).mp c_4
        have hfin : sFits u k = none := sFits_no (by rw [show mn = 2 by omega] at hno; exact hno)
        refine lv_iconst (v := (-1)) hx hb dX5_fits_63 (by decide) ?_
        exact g_iret S hI hr hlocks (Nat.zero_le _) (Nat.zero_le _) dX5_fits_64 ⟨by rw [hfin]; rfl, rfl⟩
      · skip
        have c_4 : mn < 2 := Nat.not_le.mp (fun z => c_4 ((nI_leI (a := 2) (b := mn) (by omega) (by omega)).mpr z))
        refine lv_aload_n hx hb dX5_fits_7 rfl (lv_at hl 1 rfl) ?_
        refine g_callV (As := []) (rest := []) (b := h1) (n := 0) S hE hI hA (c_X6_isThere l K _ t3 h1 u pl hg3 s6) gX5_fits_X6_isThere rfl (by decide +kernel) ⟨Nat.le_of_ble_eq_true rfl, Nat.le_of_ble_eq_true rfl⟩ (g_hro hE hI hg3 rfl) rfl hl.1 rfl (Nat.le_of_ble_eq_true rfl) dX5_fits_8 ⟨Nat.le_of_ble_eq_true rfl, Nat.le_of_ble_eq_true rfl⟩ (fun E ce q9 Gx H1 locs1 hx9 => hx9.elim) (fun rv Gc_8 H locs hp hI => ?_)
        obtain ⟨rfl, hq9⟩ := hp
        rw [hq9] at hI
        refine W.eq (g2 := F0 m 11 ls [.int (bI (decide (sT u = 0)))]) rfl ?_
        refine lv_if_eq (tgt := 63) hx hb dX5_fits_11 (by decide) (fun c_11 => ?_) (fun c_11 => ?_)
        · skip
          have c_11 : (decide (sT u = 0)) = false := bI_0.mp c_11
          have hfin : sFits u k = none := sFits_n0 (of_decide_eq_false c_11)
          refine lv_iconst (v := (-1)) hx hb dX5_fits_63 (by decide) ?_
          exact g_iret S hI hr hlocks (Nat.zero_le _) (Nat.zero_le _) dX5_fits_64 ⟨by rw [hfin]; rfl, rfl⟩
        · skip
          have c_11 : (decide (sT u = 0)) = true := bI_1.mp c_11
          refine lv_aload_n hx hb dX5_fits_14 rfl (lv_at hl 0 rfl) ?_
          refine lv_iload_n hx hb dX5_fits_15 rfl (lv_at hl 2 rfl) ?_
          refine lv_aload_n hx hb dX5_fits_16 rfl (lv_at hl 1 rfl) ?_
          refine g_get S hE hI (C := RX6) (T := TX6) (N := 6) (ref := "StonecutterYardModel$Slab") (fun w h => (List.mem_cons_of_mem _ (List.mem_append_left _ (List.mem_append_left _ (List.mem_append_right _ h))))) hg3 rfl 0 (by decide) (List.mem_cons_of_mem _ (List.mem_append_left _ (List.mem_append_left _ (List.mem_append_left _ (List.mem_append_left _ (List.mem_of_getElem? (i := 0) rfl)))))) (fun _ h9 => h9) (v := .int (nI (sW u))) rfl dX5_fits_17 ?_
          refine lv_aload_n hx hb dX5_fits_20 rfl (lv_at hl 1 rfl) ?_
          refine g_get S hE hI (C := RX6) (T := TX6) (N := 6) (ref := "StonecutterYardModel$Slab") (fun w h => (List.mem_cons_of_mem _ (List.mem_append_left _ (List.mem_append_left _ (List.mem_append_right _ h))))) hg3 rfl 1 (by decide) (List.mem_cons_of_mem _ (List.mem_append_left _ (List.mem_append_left _ (List.mem_append_left _ (List.mem_append_left _ (List.mem_of_getElem? (i := 1) rfl)))))) (fun _ h9 => h9) (v := .int (nI (sH u))) rfl dX5_fits_21 ?_
          refine lv_aload_n hx hb dX5_fits_24 rfl (lv_at hl 1 rfl) ?_
          refine g_get S hE hI (C := RX6) (T := TX6) (N := 6) (ref := "StonecutterYardModel$Slab") (fun w h => (List.mem_cons_of_mem _ (List.mem_append_left _ (List.mem_append_left _ (List.mem_append_right _ h))))) hg3 rfl 2 (by decide) (List.mem_cons_of_mem _ (List.mem_append_left _ (List.mem_append_left _ (List.mem_append_left _ (List.mem_append_left _ (List.mem_of_getElem? (i := 2) rfl)))))) (fun _ h9 => h9) (v := .int (nI (sG u))) rfl dX5_fits_25 ?_
          refine g_callV (As := [.int (nI mn), .int (nI (sW u)), .int (nI (sH u)), .int (nI (sG u))]) (rest := []) (b := h0) (n := 4) S hE hI hA (c_X5_lies l K _ t h0 k mn (sW u) (sH u) (sG u) hg hok2 ⟨c_4, s2, s4, s5⟩) gX5_fits_X5_lies rfl (by decide +kernel) ⟨Nat.le_of_ble_eq_true rfl, Nat.le_of_ble_eq_true rfl⟩ (g_hro hE hI hg rfl) rfl hl.1 rfl (Nat.le_of_ble_eq_true rfl) dX5_fits_28 ⟨Nat.le_of_ble_eq_true rfl, Nat.le_of_ble_eq_true rfl⟩ (fun E ce q9 Gx H1 locs1 hx9 => hx9.elim) (fun rv Gc_28 H locs hp hI => ?_)
          obtain ⟨rfl, hq9⟩ := hp
          rw [hq9] at hI
          refine W.eq (g2 := F0 m 31 ls [.int (bI (kGoes k mn (sW u) (sH u) (sG u)))]) rfl ?_
          refine lv_if_eq (tgt := 57) hx hb dX5_fits_31 (by decide) (fun c_31 => ?_) (fun c_31 => ?_)
          · skip
            have c_31 : (kGoes k mn (sW u) (sH u) (sG u)) = false := bI_0.mp c_31
            have hmnno : sOkIn u k mn = false := by unfold sOkIn; rw [c_31]; rfl
            refine lv_iinc (v := nI (mn + 1)) (lv' := [(2, .int (nI (mn + 1))), (0, .ref h0), (1, .ref h1)]) hx hb dX5_fits_57 hl (k := 2) rfl (nI_add _ 1) (by decide) rfl (fun ls hl => ?_)
            refine lv_goto (tgt := 2) hx hb dX5_fits_60 (by decide) ?_
            exact ih (mn + 1) H locs ls (by omega) (by omega) (lt_s hno hmnno) hI (lv_sub hl [1,2,0] rfl)
          · skip
            have c_31 : (kGoes k mn (sW u) (sH u) (sG u)) = true := bI_1.mp c_31
            refine lv_aload_n hx hb dX5_fits_34 rfl (lv_at hl 1 rfl) ?_
            refine lv_aload_n hx hb dX5_fits_35 rfl (lv_at hl 0 rfl) ?_
            refine lv_iload_n hx hb dX5_fits_36 rfl (lv_at hl 2 rfl) ?_
            refine g_callV (As := [.int (nI mn)]) (rest := [.ref h1]) (b := h0) (n := 1) S hE hI hA (c_X5_wide l K _ t h0 k mn hg c_4) gX5_fits_X5_wide rfl (by decide +kernel) ⟨Nat.le_of_ble_eq_true rfl, Nat.le_of_ble_eq_true rfl⟩ (g_hro hE hI hg rfl) rfl hl.1 rfl (Nat.le_of_ble_eq_true rfl) dX5_fits_37 ⟨Nat.le_of_ble_eq_true rfl, Nat.le_of_ble_eq_true rfl⟩ (fun E ce q9 Gx H1 locs1 hx9 => hx9.elim) (fun rv Gc_37 H locs hp hI => ?_)
            obtain ⟨rfl, hq9⟩ := hp
            rw [hq9] at hI
            refine W.eq (g2 := F0 m 40 ls [.int (nI (kw k mn)), .ref h1]) rfl ?_
            refine lv_aload_n hx hb dX5_fits_40 rfl (lv_at hl 0 rfl) ?_
            refine lv_iload_n hx hb dX5_fits_41 rfl (lv_at hl 2 rfl) ?_
            refine g_callV (As := [.int (nI mn)]) (rest := [.int (nI (kw k mn)), .ref h1]) (b := h0) (n := 1) S hE hI hA (c_X5_high l K _ t h0 k mn hg c_4) gX5_fits_X5_high rfl (by decide +kernel) ⟨Nat.le_of_ble_eq_true rfl, Nat.le_of_ble_eq_true rfl⟩ (g_hro hE hI hg rfl) rfl hl.1 rfl (Nat.le_of_ble_eq_true rfl) dX5_fits_42 ⟨Nat.le_of_ble_eq_true rfl, Nat.le_of_ble_eq_true rfl⟩ (fun E ce q9 Gx H1 locs1 hx9 => hx9.elim) (fun rv Gc_42 H locs hp hI => ?_)
            obtain ⟨rfl, hq9⟩ := hp
            rw [hq9] at hI
            refine W.eq (g2 := F0 m 45 ls [.int (nI (kh k mn)), .int (nI (kw k mn)), .ref h1]) rfl ?_
            refine g_callV (As := [.int (nI (kw k mn)), .int (nI (kh k mn))]) (rest := []) (b := h1) (n := 2) S hE hI hA (c_X6_within l K _ t3 tl tb h1 u pl N (kw k mn) (kh k mn) hg3 hfl ⟨Nat.lt_of_le_of_lt (hkw mn) (by decide), Nat.lt_of_le_of_lt (hkh mn) (by decide)⟩) gX5_fits_X6_within rfl (by decide +kernel) ⟨Nat.le_of_ble_eq_true rfl, Nat.le_of_ble_eq_true rfl⟩ (g_hro hE hI hg3 rfl) rfl hl.1 rfl (Nat.le_of_ble_eq_true rfl) dX5_fits_45 ⟨Nat.le_of_ble_eq_true rfl, Nat.le_of_ble_eq_true rfl⟩ (fun E ce q9 Gx H1 locs1 hx9 => hx9.elim) (fun rv Gc_45 H locs hp hI => ?_)
            obtain ⟨rfl, hq9⟩ := hp
            rw [hq9] at hI
            have hcl := cnt_le (sL u) 0 0 (kw k mn) (kh k mn)
            refine W.eq (g2 := F0 m 48 ls [.int (nI (cnt (sL u) 0 0 (kw k mn) (kh k mn)))]) rfl ?_
            refine lv_aload_n hx hb dX5_fits_48 rfl (lv_at hl 0 rfl) ?_
            refine g_get S hE hI (C := RX5) (T := TX5) (N := 8) (ref := "StonecutterYardModel$Kind") (fun w h => (List.mem_cons_of_mem _ (List.mem_append_left _ (List.mem_append_right _ h)))) hg rfl 3 (by decide) (List.mem_cons_of_mem _ (List.mem_append_left _ (List.mem_append_left _ (List.mem_append_left _ (List.mem_append_left _ (List.mem_of_getElem? (i := 3) rfl)))))) (fun _ h9 => h9) (v := .int (nI (kF k))) rfl dX5_fits_49 ?_
            refine lv_icmp_gt (tgt := 57) hx hb dX5_fits_52 (by decide) (fun c_52 => ?_) (fun c_52 => ?_)
            · skip
              have c_52 : (kF k) < (cnt (sL u) 0 0 (kw k mn) (kh k mn)) := (nI_ltI (a := (kF k)) (b := (cnt (sL u) 0 0 (kw k mn) (kh k mn))) (by omega) (by omega)).mp c_52
              have hmnno : sOkIn u k mn = false := by unfold sOkIn; rw [decide_eq_false (Nat.not_le.mpr c_52)]; simp
              refine lv_iinc (v := nI (mn + 1)) (lv' := [(2, .int (nI (mn + 1))), (0, .ref h0), (1, .ref h1)]) hx hb dX5_fits_57 hl (k := 2) rfl (nI_add _ 1) (by decide) rfl (fun ls hl => ?_)
              refine lv_goto (tgt := 2) hx hb dX5_fits_60 (by decide) ?_
              exact ih (mn + 1) H locs ls (by omega) (by omega) (lt_s hno hmnno) hI (lv_sub hl [1,2,0] rfl)
            · skip
              have c_52 : (cnt (sL u) 0 0 (kw k mn) (kh k mn)) ≤ (kF k) := Nat.not_lt.mp (fun z => c_52 ((nI_ltI (a := (kF k)) (b := (cnt (sL u) 0 0 (kw k mn) (kh k mn))) (by omega) (by omega)).mpr z))
              have hfin : sFits u k = some mn := sFits_mn (of_decide_eq_true c_11) c_4 hno (by unfold sOkIn; rw [c_31, decide_eq_true c_52]; rfl)
              refine lv_iload_n hx hb dX5_fits_55 rfl (lv_at hl 2 rfl) ?_
              exact g_iret S hI hr hlocks (Nat.zero_le _) (Nat.zero_le _) dX5_fits_56 ⟨by rw [hfin]; rfl, rfl⟩
  exact L2 _ 0 H locs ls (Nat.lt_succ_self _) (by decide) (fun j hj => absurd hj (Nat.not_lt_zero j)) hI (lv_sub hl [1,2,0] rfl)
set_option maxHeartbeats 4000000 in
set_option maxRecDepth 100000 in
/-- Kind(length, breadth, price) -/
theorem c_X5_init (l : Launch) (K : gK) (G : gW) (t : gTag) (h0 a b q : Nat) (hg : G t = some (h0, cMK kZ)) : gM l yX5_init wsX5_init 2 40 0 0 K [.ref h0, .int (nI a), .int (nI b), .int (nI q)] G (fun v G1 => v = none ∧ G1 = gset G t h0 (cMK (a, b, 0, 0, q, 0, 0, 0))) (gNo) := by
  refine gM.of (cc := cX5_init) (maxL := 4) (ret := none) (by decide) rfl (Nat.le_of_ble_eq_true rfl) ?_
  intro p e s m below meth c A S hr hlocks htab hname hE hA hI ls hl
  have hx := S.1
  have hb := S.2.1
  have hml := S.2.2.1
  have hl : lv_has ls 4 [(0, .ref h0), (1, .int (nI a)), (2, .int (nI b)), (3, .int (nI q))] := hl
  obtain ⟨H, hHe⟩ : ∃ z, z = s.heap := ⟨_, rfl⟩
  obtain ⟨locs, hLe⟩ : ∃ z : List Loc, z = [] := ⟨_, rfl⟩
  rw [← hHe, ← hLe]
  have hI : gI K A s G H locs := by rw [hHe, hLe]; exact hI
  clear hHe hLe
  refine lv_aload_n hx hb dX5_init_0 rfl (lv_at hl 0 rfl) ?_
  refine W.objInit hx hb S.2.2.2.1 (S.2.2.2.2 _ (List.mem_cons_of_mem _ (List.mem_append_left _ (List.mem_of_getElem? (i := 0) rfl)))) (S.2.2.2.2 _ (List.mem_cons_of_mem _ (List.mem_append_left _ (List.mem_of_getElem? (i := 1) rfl)))) (S.2.2.2.2 _ (List.mem_cons_of_mem _ (List.mem_append_left _ (List.mem_of_getElem? (i := 2) rfl)))) rfl (by rw [hml]; exact hl.1) rfl dX5_init_1 (Nat.le_of_ble_eq_true rfl) (Nat.le_of_ble_eq_true rfl) ?_
  refine W.eq (g2 := F0 m 4 ls []) rfl ?_
  refine lv_aload_n hx hb dX5_init_4 rfl (lv_at hl 0 rfl) ?_
  refine lv_iload_n hx hb dX5_init_5 rfl (lv_at hl 1 rfl) ?_
  refine g_putF S hE hI (C := RX5) (T := TX5) (N := 8) (ref := "StonecutterYardModel$Kind") (fun w h => (List.mem_cons_of_mem _ (List.mem_append_right _ h))) tyX5 tyX5_ok nmX5 hg rfl 0 (by decide) (List.mem_cons_of_mem _ (List.mem_append_left _ (List.mem_of_getElem? (i := 3) rfl))) (fun _ h9 => h9) rfl hname rfl rfl rfl (Nat.le_of_ble_eq_true rfl) dX5_init_6 (fun H locs hI => ?_)
  have hI : gI K A s (gset G t h0 (.inr (6, [.int (nI a), .int (nI 0), .int (nI 0), .int (nI 0), .int (nI 0), .int (nI 0), .int (nI 0), .int (nI 0)]))) H locs := hI
  obtain ⟨G_1, hG_1⟩ : ∃ z, z = gset G t h0 (.inr (6, [.int (nI a), .int (nI 0), .int (nI 0), .int (nI 0), .int (nI 0), .int (nI 0), .int (nI 0), .int (nI 0)])) := ⟨_, rfl⟩
  rw [← hG_1] at hI
  have o_G_1 : G_1 t = some (h0, .inr (6, [.int (nI a), .int (nI 0), .int (nI 0), .int (nI 0), .int (nI 0), .int (nI 0), .int (nI 0), .int (nI 0)])) := by rw [hG_1]; exact gset_eq _ _ _ _
  refine lv_aload_n hx hb dX5_init_9 rfl (lv_at hl 0 rfl) ?_
  refine lv_iload_n hx hb dX5_init_10 rfl (lv_at hl 2 rfl) ?_
  refine g_putF S hE hI (C := RX5) (T := TX5) (N := 8) (ref := "StonecutterYardModel$Kind") (fun w h => (List.mem_cons_of_mem _ (List.mem_append_right _ h))) tyX5 tyX5_ok nmX5 o_G_1 rfl 1 (by decide) (List.mem_cons_of_mem _ (List.mem_append_left _ (List.mem_of_getElem? (i := 4) rfl))) (fun _ h9 => h9) rfl hname rfl rfl rfl (Nat.le_of_ble_eq_true rfl) dX5_init_11 (fun H locs hI => ?_)
  have hI : gI K A s (gset G_1 t h0 (.inr (6, [.int (nI a), .int (nI b), .int (nI 0), .int (nI 0), .int (nI 0), .int (nI 0), .int (nI 0), .int (nI 0)]))) H locs := hI
  obtain ⟨G_2, hG_2⟩ : ∃ z, z = gset G_1 t h0 (.inr (6, [.int (nI a), .int (nI b), .int (nI 0), .int (nI 0), .int (nI 0), .int (nI 0), .int (nI 0), .int (nI 0)])) := ⟨_, rfl⟩
  rw [← hG_2] at hI
  have o_G_2 : G_2 t = some (h0, .inr (6, [.int (nI a), .int (nI b), .int (nI 0), .int (nI 0), .int (nI 0), .int (nI 0), .int (nI 0), .int (nI 0)])) := by rw [hG_2]; exact gset_eq _ _ _ _
  refine lv_aload_n hx hb dX5_init_14 rfl (lv_at hl 0 rfl) ?_
  refine lv_iload_n hx hb dX5_init_15 rfl (lv_at hl 3 rfl) ?_
  refine g_put S hE hI (C := RX5) (T := TX5) (N := 8) (ref := "StonecutterYardModel$Kind") (fun w h => (List.mem_cons_of_mem _ (List.mem_append_right _ h))) tyX5 tyX5_ok nmX5 o_G_2 rfl 4 (by decide) (List.mem_cons_of_mem _ (List.mem_append_left _ (List.mem_of_getElem? (i := 5) rfl))) (fun _ h9 => h9) rfl rfl rfl (Nat.le_of_ble_eq_true rfl) dX5_init_16 (fun H locs hI => ?_)
  have hI : gI K A s (gset G_2 t h0 (.inr (6, [.int (nI a), .int (nI b), .int (nI 0), .int (nI 0), .int (nI q), .int (nI 0), .int (nI 0), .int (nI 0)]))) H locs := hI
  obtain ⟨G_3, hG_3⟩ : ∃ z, z = gset G_2 t h0 (.inr (6, [.int (nI a), .int (nI b), .int (nI 0), .int (nI 0), .int (nI q), .int (nI 0), .int (nI 0), .int (nI 0)])) := ⟨_, rfl⟩
  rw [← hG_3] at hI
  have o_G_3 : G_3 t = some (h0, .inr (6, [.int (nI a), .int (nI b), .int (nI 0), .int (nI 0), .int (nI q), .int (nI 0), .int (nI 0), .int (nI 0)])) := by rw [hG_3]; exact gset_eq _ _ _ _
  exact g_vret S hI hr hlocks (Nat.zero_le _) (Nat.zero_le _) dX5_init_19 ⟨rfl, by rw [hG_3, hG_2, hG_1, gset_gset, gset_gset]⟩
set_option maxHeartbeats 4000000 in
set_option maxRecDepth 100000 in
/-- Slab(wide, high, grain, from) -/
theorem c_X6_init (l : Launch) (K : gK) (G : gW) (t tl : gTag) (h0 a b g : Nat) (f : Int32) (hg : G t = some (h0, .inr (7, [.int (nI 0), .int (nI 0), .int (nI 0), .int (nI 0), .null, .int (nI 0)]))) (hne : t ≠ tl) : gM l yX6_init wsX6_init 5 100 1 3 K [.ref h0, .int (nI a), .int (nI b), .int (nI g), .int f] G (fun v G1 => v = none ∧ ∃ pl, G1 = gset (gset G tl pl (cL (nI 0) K.2.2.1 0)) t h0 (cMS (a, b, g, f, 0, []) pl)) (gNo) := by
  refine gM.of (cc := cX6_init) (maxL := 5) (ret := none) (by decide) rfl (Nat.le_of_ble_eq_true rfl) ?_
  intro p e s m below meth c A S hr hlocks htab hname hE hA hI ls hl
  have hx := S.1
  have hb := S.2.1
  have hml := S.2.2.1
  have hl : lv_has ls 5 [(0, .ref h0), (1, .int (nI a)), (2, .int (nI b)), (3, .int (nI g)), (4, .int f)] := hl
  obtain ⟨H, hHe⟩ : ∃ z, z = s.heap := ⟨_, rfl⟩
  obtain ⟨locs, hLe⟩ : ∃ z : List Loc, z = [] := ⟨_, rfl⟩
  rw [← hHe, ← hLe]
  have hI : gI K A s G H locs := by rw [hHe, hLe]; exact hI
  clear hHe hLe
  refine lv_aload_n hx hb dX6_init_0 rfl (lv_at hl 0 rfl) ?_
  refine W.objInit hx hb S.2.2.2.1 (S.2.2.2.2 _ (List.mem_cons_of_mem _ (List.mem_append_left _ (List.mem_append_left _ (List.mem_append_left _ (List.mem_of_getElem? (i := 0) rfl)))))) (S.2.2.2.2 _ (List.mem_cons_of_mem _ (List.mem_append_left _ (List.mem_append_left _ (List.mem_append_left _ (List.mem_of_getElem? (i := 1) rfl)))))) (S.2.2.2.2 _ (List.mem_cons_of_mem _ (List.mem_append_left _ (List.mem_append_left _ (List.mem_append_left _ (List.mem_of_getElem? (i := 2) rfl)))))) rfl (by rw [hml]; exact hl.1) rfl dX6_init_1 (Nat.le_of_ble_eq_true rfl) (Nat.le_of_ble_eq_true rfl) ?_
  refine W.eq (g2 := F0 m 4 ls []) rfl ?_
  refine lv_aload_n hx hb dX6_init_4 rfl (lv_at hl 0 rfl) ?_
  refine g_new S hE hI hA (C := RJx4a65c) (T := TJx4a65c) (N := 3) (ci := 0) (fun w h => (List.mem_cons_of_mem _ (List.mem_append_left _ (List.mem_append_right _ h)))) tyJx4a65c tyJx4a65c_ok (List.mem_cons_of_mem _ (List.mem_append_left _ (List.mem_append_left _ (List.mem_append_left _ (List.mem_of_getElem? (i := 3) rfl))))) (List.mem_cons_of_mem _ (List.mem_append_left _ (List.mem_append_left _ (List.mem_append_left _ (List.mem_of_getElem? (i := 4) rfl))))) (List.mem_cons_of_mem _ (List.mem_append_left _ (List.mem_append_left _ (List.mem_append_left _ (List.mem_of_getElem? (i := 5) rfl))))) rfl (fs := [.int (nI 0), .null, .int (nI 0)]) (fun j hj => by rcases (show j = 0 ∨ j = 1 ∨ j = 2 by omega) with rfl | rfl | rfl <;> rfl) tl (by show _ ≤ 1; omega) (by show _ ≤ 3; omega) dX6_init_5 (fun q_5 H hq_5 hI => ?_)
  obtain ⟨G_1, hG_1⟩ : ∃ z, z = gset G tl q_5 (.inr (0, [.int (nI 0), .null, .int (nI 0)])) := ⟨_, rfl⟩
  have hI : gI K A s G_1 H locs := by rw [hG_1]; exact hI
  have o_G_1 : G_1 t = some (h0, .inr (7, [.int (nI 0), .int (nI 0), .int (nI 0), .int (nI 0), .null, .int (nI 0)])) := by rw [hG_1, gset_ne hne]; exact hg
  have l_G_1 : G_1 tl = some (q_5, .inr (0, [.int (nI 0), .null, .int (nI 0)])) := by rw [hG_1]; exact gset_eq _ _ _ _
  refine lv_dup hx hb dX6_init_8 rfl ?_
  refine g_callI (As := []) (rest := [.ref q_5, .ref h0]) (b := q_5) (n := 0) S hE hI hA (c_alInit l K _ tl q_5 l_G_1) gX6_init_Jx4a65c_init_da8c8 rfl (List.mem_cons_of_mem _ (List.mem_append_left _ (List.mem_append_left _ (List.mem_append_left _ (List.mem_of_getElem? (i := 5) rfl))))) (List.mem_cons_of_mem _ (List.mem_append_left _ (List.mem_append_left _ (List.mem_append_left _ (List.mem_of_getElem? (i := 12) rfl))))) (List.mem_cons_of_mem _ (List.mem_append_left _ (List.mem_append_left _ (List.mem_append_left _ (List.mem_of_getElem? (i := 13) rfl))))) rfl (by decide +kernel) ⟨Nat.le_of_ble_eq_true rfl, Nat.le_of_ble_eq_true rfl⟩ rfl hl.1 rfl (Nat.le_of_ble_eq_true rfl) dX6_init_9 ⟨by show _ ≤ 1; omega, by show _ ≤ 3; omega⟩ (fun E ce q9 Gx H1 locs1 hx9 => hx9.elim) (fun rv Gc_9 H locs hp hI => ?_)
  obtain ⟨rfl, hGc⟩ := hp
  have l_c9 : Gc_9 tl = some (q_5, cL (nI 0) K.2.2.1 0) := by rw [hGc]; exact gset_eq _ _ _ _
  have o_c9 : Gc_9 t = some (h0, .inr (7, [.int (nI 0), .int (nI 0), .int (nI 0), .int (nI 0), .null, .int (nI 0)])) := by rw [hGc, gset_ne hne]; exact o_G_1
  refine W.eq (g2 := F0 m 12 ls [.ref q_5, .ref h0]) rfl ?_
  refine g_putF S hE hI (C := RX6) (T := TX6) (N := 6) (ref := "StonecutterYardModel$Slab") (fun w h => (List.mem_cons_of_mem _ (List.mem_append_right _ h))) tyX6 tyX6_ok nmX6 o_c9 rfl 4 (by decide) (List.mem_cons_of_mem _ (List.mem_append_left _ (List.mem_append_left _ (List.mem_append_left _ (List.mem_of_getElem? (i := 6) rfl))))) (fun _ h9 => h9) rfl hname rfl rfl rfl (Nat.le_of_ble_eq_true rfl) dX6_init_12 (fun H locs hI => ?_)
  have hI : gI K A s (gset Gc_9 t h0 (.inr (7, [.int (nI 0), .int (nI 0), .int (nI 0), .int (nI 0), .ref q_5, .int (nI 0)]))) H locs := hI
  obtain ⟨G_2, hG_2⟩ : ∃ z, z = gset Gc_9 t h0 (.inr (7, [.int (nI 0), .int (nI 0), .int (nI 0), .int (nI 0), .ref q_5, .int (nI 0)])) := ⟨_, rfl⟩
  rw [← hG_2] at hI
  have l_G_2 : G_2 tl = some (q_5, .inr (0, [.int (nI 0), .ref K.2.2.1, .int (nI 0)])) := by rw [hG_2, gset_ne (Ne.symm hne)]; exact l_c9
  have o_G_2 : G_2 t = some (h0, .inr (7, [.int (nI 0), .int (nI 0), .int (nI 0), .int (nI 0), .ref q_5, .int (nI 0)])) := by rw [hG_2]; exact gset_eq _ _ _ _
  refine lv_aload_n hx hb dX6_init_15 rfl (lv_at hl 0 rfl) ?_
  refine lv_iconst (v := nI 0) hx hb dX6_init_16 (by decide) ?_
  refine g_put S hE hI (C := RX6) (T := TX6) (N := 6) (ref := "StonecutterYardModel$Slab") (fun w h => (List.mem_cons_of_mem _ (List.mem_append_right _ h))) tyX6 tyX6_ok nmX6 o_G_2 rfl 5 (by decide) (List.mem_cons_of_mem _ (List.mem_append_left _ (List.mem_append_left _ (List.mem_append_left _ (List.mem_of_getElem? (i := 7) rfl))))) (fun _ h9 => h9) rfl rfl rfl (Nat.le_of_ble_eq_true rfl) dX6_init_17 (fun H locs hI => ?_)
  have hI : gI K A s (gset G_2 t h0 (.inr (7, [.int (nI 0), .int (nI 0), .int (nI 0), .int (nI 0), .ref q_5, .int (nI 0)]))) H locs := hI
  obtain ⟨G_3, hG_3⟩ : ∃ z, z = gset G_2 t h0 (.inr (7, [.int (nI 0), .int (nI 0), .int (nI 0), .int (nI 0), .ref q_5, .int (nI 0)])) := ⟨_, rfl⟩
  rw [← hG_3] at hI
  have l_G_3 : G_3 tl = some (q_5, .inr (0, [.int (nI 0), .ref K.2.2.1, .int (nI 0)])) := by rw [hG_3, gset_ne (Ne.symm hne)]; exact l_G_2
  have o_G_3 : G_3 t = some (h0, .inr (7, [.int (nI 0), .int (nI 0), .int (nI 0), .int (nI 0), .ref q_5, .int (nI 0)])) := by rw [hG_3]; exact gset_eq _ _ _ _
  refine lv_aload_n hx hb dX6_init_20 rfl (lv_at hl 0 rfl) ?_
  refine lv_iload_n hx hb dX6_init_21 rfl (lv_at hl 1 rfl) ?_
  refine g_putF S hE hI (C := RX6) (T := TX6) (N := 6) (ref := "StonecutterYardModel$Slab") (fun w h => (List.mem_cons_of_mem _ (List.mem_append_right _ h))) tyX6 tyX6_ok nmX6 o_G_3 rfl 0 (by decide) (List.mem_cons_of_mem _ (List.mem_append_left _ (List.mem_append_left _ (List.mem_append_left _ (List.mem_of_getElem? (i := 8) rfl))))) (fun _ h9 => h9) rfl hname rfl rfl rfl (Nat.le_of_ble_eq_true rfl) dX6_init_22 (fun H locs hI => ?_)
  have hI : gI K A s (gset G_3 t h0 (.inr (7, [.int (nI a), .int (nI 0), .int (nI 0), .int (nI 0), .ref q_5, .int (nI 0)]))) H locs := hI
  obtain ⟨G_4, hG_4⟩ : ∃ z, z = gset G_3 t h0 (.inr (7, [.int (nI a), .int (nI 0), .int (nI 0), .int (nI 0), .ref q_5, .int (nI 0)])) := ⟨_, rfl⟩
  rw [← hG_4] at hI
  have l_G_4 : G_4 tl = some (q_5, .inr (0, [.int (nI 0), .ref K.2.2.1, .int (nI 0)])) := by rw [hG_4, gset_ne (Ne.symm hne)]; exact l_G_3
  have o_G_4 : G_4 t = some (h0, .inr (7, [.int (nI a), .int (nI 0), .int (nI 0), .int (nI 0), .ref q_5, .int (nI 0)])) := by rw [hG_4]; exact gset_eq _ _ _ _
  refine lv_aload_n hx hb dX6_init_25 rfl (lv_at hl 0 rfl) ?_
  refine lv_iload_n hx hb dX6_init_26 rfl (lv_at hl 2 rfl) ?_
  refine g_putF S hE hI (C := RX6) (T := TX6) (N := 6) (ref := "StonecutterYardModel$Slab") (fun w h => (List.mem_cons_of_mem _ (List.mem_append_right _ h))) tyX6 tyX6_ok nmX6 o_G_4 rfl 1 (by decide) (List.mem_cons_of_mem _ (List.mem_append_left _ (List.mem_append_left _ (List.mem_append_left _ (List.mem_of_getElem? (i := 9) rfl))))) (fun _ h9 => h9) rfl hname rfl rfl rfl (Nat.le_of_ble_eq_true rfl) dX6_init_27 (fun H locs hI => ?_)
  have hI : gI K A s (gset G_4 t h0 (.inr (7, [.int (nI a), .int (nI b), .int (nI 0), .int (nI 0), .ref q_5, .int (nI 0)]))) H locs := hI
  obtain ⟨G_5, hG_5⟩ : ∃ z, z = gset G_4 t h0 (.inr (7, [.int (nI a), .int (nI b), .int (nI 0), .int (nI 0), .ref q_5, .int (nI 0)])) := ⟨_, rfl⟩
  rw [← hG_5] at hI
  have l_G_5 : G_5 tl = some (q_5, .inr (0, [.int (nI 0), .ref K.2.2.1, .int (nI 0)])) := by rw [hG_5, gset_ne (Ne.symm hne)]; exact l_G_4
  have o_G_5 : G_5 t = some (h0, .inr (7, [.int (nI a), .int (nI b), .int (nI 0), .int (nI 0), .ref q_5, .int (nI 0)])) := by rw [hG_5]; exact gset_eq _ _ _ _
  refine lv_aload_n hx hb dX6_init_30 rfl (lv_at hl 0 rfl) ?_
  refine lv_iload_n hx hb dX6_init_31 rfl (lv_at hl 3 rfl) ?_
  refine g_putF S hE hI (C := RX6) (T := TX6) (N := 6) (ref := "StonecutterYardModel$Slab") (fun w h => (List.mem_cons_of_mem _ (List.mem_append_right _ h))) tyX6 tyX6_ok nmX6 o_G_5 rfl 2 (by decide) (List.mem_cons_of_mem _ (List.mem_append_left _ (List.mem_append_left _ (List.mem_append_left _ (List.mem_of_getElem? (i := 10) rfl))))) (fun _ h9 => h9) rfl hname rfl rfl rfl (Nat.le_of_ble_eq_true rfl) dX6_init_32 (fun H locs hI => ?_)
  have hI : gI K A s (gset G_5 t h0 (.inr (7, [.int (nI a), .int (nI b), .int (nI g), .int (nI 0), .ref q_5, .int (nI 0)]))) H locs := hI
  obtain ⟨G_6, hG_6⟩ : ∃ z, z = gset G_5 t h0 (.inr (7, [.int (nI a), .int (nI b), .int (nI g), .int (nI 0), .ref q_5, .int (nI 0)])) := ⟨_, rfl⟩
  rw [← hG_6] at hI
  have l_G_6 : G_6 tl = some (q_5, .inr (0, [.int (nI 0), .ref K.2.2.1, .int (nI 0)])) := by rw [hG_6, gset_ne (Ne.symm hne)]; exact l_G_5
  have o_G_6 : G_6 t = some (h0, .inr (7, [.int (nI a), .int (nI b), .int (nI g), .int (nI 0), .ref q_5, .int (nI 0)])) := by rw [hG_6]; exact gset_eq _ _ _ _
  refine lv_aload_n hx hb dX6_init_35 rfl (lv_at hl 0 rfl) ?_
  refine lv_iload hx hb dX6_init_36 (lv_at hl 4 rfl) ?_
  refine g_putF S hE hI (C := RX6) (T := TX6) (N := 6) (ref := "StonecutterYardModel$Slab") (fun w h => (List.mem_cons_of_mem _ (List.mem_append_right _ h))) tyX6 tyX6_ok nmX6 o_G_6 rfl 3 (by decide) (List.mem_cons_of_mem _ (List.mem_append_left _ (List.mem_append_left _ (List.mem_append_left _ (List.mem_of_getElem? (i := 11) rfl))))) (fun _ h9 => h9) rfl hname rfl rfl rfl (Nat.le_of_ble_eq_true rfl) dX6_init_38 (fun H locs hI => ?_)
  have hI : gI K A s (gset G_6 t h0 (.inr (7, [.int (nI a), .int (nI b), .int (nI g), .int f, .ref q_5, .int (nI 0)]))) H locs := hI
  obtain ⟨G_7, hG_7⟩ : ∃ z, z = gset G_6 t h0 (.inr (7, [.int (nI a), .int (nI b), .int (nI g), .int f, .ref q_5, .int (nI 0)])) := ⟨_, rfl⟩
  rw [← hG_7] at hI
  have l_G_7 : G_7 tl = some (q_5, .inr (0, [.int (nI 0), .ref K.2.2.1, .int (nI 0)])) := by rw [hG_7, gset_ne (Ne.symm hne)]; exact l_G_6
  have o_G_7 : G_7 t = some (h0, .inr (7, [.int (nI a), .int (nI b), .int (nI g), .int f, .ref q_5, .int (nI 0)])) := by rw [hG_7]; exact gset_eq _ _ _ _
  exact g_vret S hI hr hlocks (by omega) (by omega) dX6_init_41 ⟨rfl, q_5, by rw [hG_7, hG_6, hG_5, hG_4, hG_3, hG_2, hGc, hG_1, gset_gset, gset_gset, gset_gset, gset_gset, gset_gset, gset_gset]⟩
