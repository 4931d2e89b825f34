/-! a slab cut in two, in the reference -/
def offC (r sc N : Nat) (v : gTag) : Prop := v ≠ (r, 35, sc) ∧ v ≠ (r, 35, sc + 1) ∧ v ≠ (r, 36, sc) ∧ v ≠ (r, 36, sc + 1) ∧ (∀ b, v ≠ tbF r sc b) ∧ (∀ b, v ≠ tbF r (sc + 1) b) ∧ ∀ m, N ≤ m → v ≠ (50, 0, m)
theorem offC_k {r sc N k j : Nat} (hr : r ≠ 50) (h : k ≠ 35 ∧ k ≠ 36 ∧ k ≠ 37) : offC r sc N (r, k, j) := ⟨by simp [h.1], by simp [h.1], by simp [h.2.1], by simp [h.2.1], fun b => by unfold tbF; simp [h.2.2], fun b => by unfold tbF; simp [h.2.2], fun m _ => by simp [hr]⟩
theorem offC_35 {r sc N j : Nat} (hr : r ≠ 50) (h : j < sc) : offC r sc N (r, 35, j) := ⟨by simp; omega, by simp; omega, by simp, by simp, fun b => by unfold tbF; simp, fun b => by unfold tbF; simp, fun m _ => by simp [hr]⟩
theorem offC_36 {r sc N j : Nat} (hr : r ≠ 50) (h : j < sc) : offC r sc N (r, 36, j) := ⟨by simp, by simp, by simp; omega, by simp; omega, fun b => by unfold tbF; simp, fun b => by unfold tbF; simp, fun m _ => by simp [hr]⟩
theorem offC_37 {r sc N j : Nat} (hr : r ≠ 50) (h : j < sc) (b9 : Bool) : offC r sc N (tbF r j b9) := ⟨by unfold tbF; simp, by unfold tbF; simp, by unfold tbF; simp, by unfold tbF; simp, fun b => by unfold tbF; cases b <;> cases b9 <;> simp <;> omega, fun b => by unfold tbF; cases b <;> cases b9 <;> simp <;> omega, fun m _ => by unfold tbF; simp [hr]⟩
theorem offC_50 {r sc N m : Nat} (hr : r ≠ 50) (h : m < N) : offC r sc N (50, 0, m) := ⟨by simp [Ne.symm hr], by simp [Ne.symm hr], by simp [Ne.symm hr], by simp [Ne.symm hr], fun b => by unfold tbF; simp [Ne.symm hr], fun b => by unfold tbF; simp [Ne.symm hr], fun k hk => by simp; omega⟩
theorem offC_o {r sc N : Nat} {v : gTag} (h : v.1 ≠ r) (h2 : v.1 ≠ 50) : offC r sc N v := ⟨fun z => h (by rw [z]), fun z => h (by rw [z]), fun z => h (by rw [z]), fun z => h (by rw [z]), fun b z => h (by rw [z]; rfl), fun b z => h (by rw [z]; rfl), fun m _ z => h2 (by rw [z])⟩
theorem FLi.nil {K : gK} {G : gW} {t : gTag} {tb : Bool → gTag} {h N : Nat} {mod : Int32} (hg : G t = some (h, cL mod K.2.2.1 0)) : FLi K G t tb h [] N := ⟨Nat.zero_le _, fun q hq => (by cases hq), fun _ => 0, fun _ _ => 0, ⟨mod, Or.inl ⟨rfl, hg⟩⟩, fun j hj => absurd hj (Nat.not_lt_zero j)⟩
theorem FLi.add {K : gK} {G G1 : gW} {t : gTag} {tb : Bool → gTag} {h N m v a b : Nat} {fl : List (Nat × Nat)} {F : Nat → Nat} {g : Nat → Nat → Int32} {g9 : Nat → Int32} (hl : fl.length < 6) (hin : ∀ q ∈ fl, q.1 < 24 ∧ q.2 < 24) (hF : ∀ j, j < fl.length → ∃ m, m < N ∧ G (50, 0, m) = some (F j, cI K 2 (g j)) ∧ g j 0 = nI (fl.getD j (0, 0)).1 ∧ g j 1 = nI (fl.getD j (0, 0)).2) (hA : ALg K t tb G1 h (fl.length + 1) (fU F fl.length v)) (ho : off3 t tb G G1) (hm : m < N) (hv : G (50, 0, m) = some (v, cI K 2 g9)) (e0 : g9 0 = nI a) (e1 : g9 1 = nI b) (hab : a < 24 ∧ b < 24) (ht : t.1 ≠ 50) (htb : ∀ b, (tb b).1 ≠ 50) : FLi K G1 t tb h (fl ++ [(a, b)]) N := by
  have h50 : ∀ m, G1 (50, 0, m) = G (50, 0, m) := fun m => ho _ (fun z => ht (by rw [← z])) (fun b z => htb b (by rw [← z]))
  refine ⟨by rw [List.length_append]; exact hl, fun q hq => ?_, fU F fl.length v, fU g fl.length g9, by rw [List.length_append]; exact hA, fun j hj => ?_⟩
  · rcases List.mem_append.mp hq with h1 | h1
    · exact hin q h1
    · rw [List.mem_singleton.mp h1]; exact hab
  · rw [List.length_append, List.length_singleton] at hj
    by_cases c : j = fl.length
    · subst c
      rw [fU_eq, fU_eq]
      refine ⟨m, hm, (h50 m).trans hv, ?_, ?_⟩
      · rw [e0]; simp
      · rw [e1]; simp
    · obtain ⟨m2, f1, f2, f3, f4⟩ := hF j (by omega)
      rw [fU_ne c, fU_ne c]
      have h2 : j < fl.length := by omega
      refine ⟨m2, f1, (h50 m2).trans f2, ?_, ?_⟩
      · rw [f3]; simp [List.getD, List.getElem?_append_left h2]
      · rw [f4]; simp [List.getD, List.getElem?_append_left h2]
theorem pass_lt {fl : List (Nat × Nat)} {l t w h k : Nat} (hk : k < fl.length) : (pass (fl.take k) l t w h).length ≤ k := Nat.le_trans (pass_len _ _ _ _ _) (by rw [List.length_take]; omega)
theorem mcut_fin {K : gK} {r : Nat} {L L2 : Nat → Nat → Nat} {G G1 G3 : gW} {y : YV} {N N1 i x q6 q7 pl6 pl7 : Nat} (dn : Bool) (hm : MY K r L G y N) (hi : i < ySc y) (hcan : canC (yLen (yS y i) dn) (yF y) x = true) (hr50 : r ≠ 50) (hsc : ySc y ≤ 42) (hL2 : L2 = (fun a b => if a = 35 ∧ b = ySc y then q6 else if a = 35 ∧ b = ySc y + 1 then q7 else if a = 36 ∧ b = ySc y then pl6 else if a = 36 ∧ b = ySc y + 1 then pl7 else L a b)) (hN : N ≤ N1) (hof : ∀ v, offC r (ySc y) N v → G1 v = G v) (hat : ∀ v : gTag, v ≠ (r, 31, 0) → (∀ b, v ≠ tbL r 32 b) → v ≠ (r, 35, i) → G3 v = G1 v)
    (hy10 : G3 (r, 30, 0) = some (L 30 0, cY (L 31 0) (L 33 0) (yF y))) (hALb : ALg K (r, 31, 0) (tbL r 32) G3 (L 31 0) (ySc y + 1 + 1) (fU (fU (L 35) (ySc y) q6) (ySc y + 1) q7)) (hu : G3 (r, 35, i) = some (L 35 i, cMS (sState (yS y i) 1) (L 36 i))) (h6 : G1 (r, 35, ySc y) = some (q6, cMS (cutN (yS y i) i dn x) pl6)) (h7 : G1 (r, 35, ySc y + 1) = some (q7, cMS (cutF (yS y i) i dn (x + yF y)) pl7)) (f6 : FLi K G1 (r, 36, ySc y) (tbF r (ySc y)) pl6 (sL (cutN (yS y i) i dn x)) N1) (f7 : FLi K G1 (r, 36, ySc y + 1) (tbF r (ySc y + 1)) pl7 (sL (cutF (yS y i) i dn (x + yF y))) N1) : MY K r L2 G3 (yCut y i dn x) N1 := by
  have e0 : ∀ k j, k ≠ 35 → k ≠ 36 → L2 k j = L k j := fun k j a b => by rw [hL2]; simp [a, b]
  have e1 : ∀ k j, j < ySc y → L2 k j = L k j := fun k j a => by
    rw [hL2]
    show (if _ then _ else _) = _
    rw [if_neg (by omega), if_neg (by omega), if_neg (by omega), if_neg (by omega)]
  have a5 : L2 35 (ySc y) = q6 := by rw [hL2]; simp
  have b5 : L2 35 (ySc y + 1) = q7 := by rw [hL2]; simp
  have a6 : L2 36 (ySc y) = pl6 := by rw [hL2]; simp
  have b6 : L2 36 (ySc y + 1) = pl7 := by rw [hL2]; simp
  obtain ⟨hsu, hfl, hok⟩ := hm.2.2.2.1 i hi
  have hcn := of_decide_eq_true hcan
  have hf2 := hm.1.2.1
  have hbr : ∀ (v : gTag), v.2.1 ≠ 31 → v.2.1 ≠ 32 → v ≠ (r, 35, i) → G3 v = G1 v := fun v c1 c2 c3 => hat v (fun z => c1 (by rw [z])) (fun b z => c2 (by rw [z]; rfl)) c3
  have h50 : ∀ m, G3 (50, 0, m) = G1 (50, 0, m) := fun m => hbr _ (by show (0 : Nat) ≠ 31; decide) (by show (0 : Nat) ≠ 32; decide) (by simp [Ne.symm hr50])
  rw [yCut_yes hcan]
  refine ⟨⟨by rw [e0 30 0 (by decide) (by decide), e0 31 0 (by decide) (by decide), e0 33 0 (by decide) (by decide)]; exact hy10, hf2, by show ySc y + 2 ≤ 44; omega, hm.1.2.2.2⟩, ?_, ?_, fun j hj => ?_, fun j hj => ?_⟩
  · rw [e0 31 0 (by decide) (by decide)]
    refine hALb.congr (fun j hj => ?_)
    by_cases c1 : j = ySc y + 1
    · subst c1; rw [fU_eq, b5]
    · rw [fU_ne c1]
      by_cases c2 : j = ySc y
      · subst c2; rw [fU_eq, a5]
      · rw [fU_ne c2, e1 35 j (by omega)]
  · rw [e0 33 0 (by decide) (by decide)]
    exact (hm.2.2.1.moved ((hbr _ (by show (33 : Nat) ≠ 31; decide) (by show (33 : Nat) ≠ 32; decide) (by simp)).trans (hof _ (offC_k hr50 (by decide)))) (fun b => (hbr _ (by show (34 : Nat) ≠ 31; decide) (by show (34 : Nat) ≠ 32; decide) (by unfold tbL; simp)).trans (hof _ (offC_k hr50 (by decide))))).congr (fun j _ => e0 38 j (by decide) (by decide))
  · have hj : j < ySc y + 2 := hj
    by_cases c1 : j = i
    · subst c1
      rw [e1 35 j hi, e1 36 j hi]
      show _ ∧ FLi K G3 _ _ _ (sL (fU _ j (sState (yS y j) 1) j)) N1 ∧ sOK (fU _ j (sState (yS y j) 1) j)
      refine ⟨?_, ?_, ?_⟩
      · show G3 (r, 35, j) = some (L 35 j, cMS (fU _ j (sState (yS y j) 1) j) (L 36 j))
        rw [fU_eq]; exact hu
      · rw [fU_eq]
        exact (hfl.moved ((hbr _ (by show (36 : Nat) ≠ 31; decide) (by show (36 : Nat) ≠ 32; decide) (by simp)).trans (hof _ (offC_36 hr50 hi))) (fun b => (hbr _ (by show (37 : Nat) ≠ 31; decide) (by show (37 : Nat) ≠ 32; decide) (by unfold tbF; simp)).trans (hof _ (offC_37 hr50 hi b))) (fun m hm9 => (h50 m).trans (hof _ (offC_50 hr50 hm9)))).more hN
      · rw [fU_eq]; exact hok.state (by decide)
    · have hv : ∀ u9, fU (fU (fU (yS y) (ySc y) (cutN (yS y i) i dn x)) (ySc y + 1) (cutF (yS y i) i dn (x + yF y))) i (sState (yS y i) 1) j = u9 → (G3 (r, 35, j) = some (L2 35 j, cMS u9 (L2 36 j)) ∧ FLi K G3 (r, 36, j) (tbF r j) (L2 36 j) (sL u9) N1 ∧ sOK u9) → (G3 (r, 35, j) = some (L2 35 j, cMS (fU (fU (fU (yS y) (ySc y) (cutN (yS y i) i dn x)) (ySc y + 1) (cutF (yS y i) i dn (x + yF y))) i (sState (yS y i) 1) j) (L2 36 j)) ∧ FLi K G3 (r, 36, j) (tbF r j) (L2 36 j) (sL (fU (fU (fU (yS y) (ySc y) (cutN (yS y i) i dn x)) (ySc y + 1) (cutF (yS y i) i dn (x + yF y))) i (sState (yS y i) 1) j)) N1 ∧ sOK (fU (fU (fU (yS y) (ySc y) (cutN (yS y i) i dn x)) (ySc y + 1) (cutF (yS y i) i dn (x + yF y))) i (sState (yS y i) 1) j)) := fun u9 e h => by rw [e]; exact h
      have g35 := hbr (r, 35, j) (by show (35 : Nat) ≠ 31; decide) (by show (35 : Nat) ≠ 32; decide) (by simp [c1])
      have g36 := hbr (r, 36, j) (by show (36 : Nat) ≠ 31; decide) (by show (36 : Nat) ≠ 32; decide) (by simp)
      have g37 := fun b => hbr (tbF r j b) (by show (37 : Nat) ≠ 31; decide) (by show (37 : Nat) ≠ 32; decide) (by unfold tbF; simp)
      obtain ⟨s1, s2, s3, s4, s5, s6, s7, s8⟩ := hok
      by_cases c2 : j = ySc y + 1
      · subst c2
        refine hv (cutF (yS y i) i dn (x + yF y)) (by rw [fU_ne c1, fU_eq]) ⟨by rw [b5, b6]; exact g35.trans h7, by rw [b6]; exact f7.moved g36 g37 (fun m _ => h50 m), ?_⟩
        cases dn
        · have hcn : 1 ≤ x ∧ x + yF y < sH (yS y i) := hcn
          exact sOK.part (by omega) (by omega) s5 (Nat.le_trans (pass_len _ _ _ _ _) s7) (fun q hq => pass_in hq)
        · have hcn : 1 ≤ x ∧ x + yF y < sW (yS y i) := hcn
          exact sOK.part (by omega) (by omega) s5 (Nat.le_trans (pass_len _ _ _ _ _) s7) (fun q hq => pass_in hq)
      · by_cases c3 : j = ySc y
        · subst c3
          refine hv (cutN (yS y i) i dn x) (by rw [fU_ne c1, fU_ne c2, fU_eq]) ⟨by rw [a5, a6]; exact g35.trans h6, by rw [a6]; exact f6.moved g36 g37 (fun m _ => h50 m), ?_⟩
          cases dn
          · have hcn : 1 ≤ x ∧ x + yF y < sH (yS y i) := hcn
            exact sOK.part (by omega) (by omega) s5 (Nat.le_trans (pass_len _ _ _ _ _) s7) (fun q hq => pass_in hq)
          · have hcn : 1 ≤ x ∧ x + yF y < sW (yS y i) := hcn
            exact sOK.part (by omega) (by omega) s5 (Nat.le_trans (pass_len _ _ _ _ _) s7) (fun q hq => pass_in hq)
        · have hjl : j < ySc y := by omega
          obtain ⟨w1, w2, w3⟩ := hm.2.2.2.1 j hjl
          exact hv (yS y j) (by rw [fU_ne c1, fU_ne c2, fU_ne c3]) ⟨by rw [e1 35 j hjl, e1 36 j hjl]; exact g35.trans ((hof _ (offC_35 hr50 hjl)).trans w1), by rw [e1 36 j hjl]; exact (w2.moved (g36.trans (hof _ (offC_36 hr50 hjl))) (fun b => (g37 b).trans (hof _ (offC_37 hr50 hjl b))) (fun m hm9 => (h50 m).trans (hof _ (offC_50 hr50 hm9)))).more hN, w3⟩
  · rw [e0 38 j (by decide) (by decide)]
    exact ⟨(hbr _ (by show (38 : Nat) ≠ 31; decide) (by show (38 : Nat) ≠ 32; decide) (by simp)).trans ((hof _ (offC_k hr50 (by decide))).trans (hm.2.2.2.2 j hj).1), (hm.2.2.2.2 j hj).2⟩
set_option maxHeartbeats 4000000 in
set_option maxRecDepth 100000 in
/-- Yard.cut(slab, true, place) -/
theorem c_mcutD (l : Launch) (K : gK) (G : gW) (r : Nat) (L : Nat → Nat → Nat) (y : YV) (N : Nat) (i x : Nat) (hm : MY K r L G y N) (hi : i < ySc y) (hcan : canC (yLen (yS y i) true) (yF y) x = true) (hsc : ySc y ≤ 42) (hr50 : r ≠ 50) : gM l yX7_cut wsX7_cut 8 171 24 270 K [.ref (L 30 0), .int (nI i), .int (bI true), .int (nI x)] G (fun r9 G1 => ∃ L2 N2, r9 = some (.int (nI (ySc y))) ∧ MY K r L2 G1 (yCut y i true x) N2 ∧ N ≤ N2 ∧ (∀ k j, (k ≠ 35 ∧ k ≠ 36) ∨ j < ySc y → L2 k j = L k j) ∧ (∀ v : gTag, v.1 ≠ r → v.1 ≠ 50 → G1 v = G v) ∧ ∀ m, m < N → G1 (50, 0, m) = G (50, 0, m)) (gNo) := by
  refine gM.of (cc := cX7_cut) (maxL := 11) (ret := (some .int)) (by decide) rfl (Nat.le_of_ble_eq_true rfl) ?_
  intro p e s m below meth c A S hr hlocks htab hname hE hA hI ls hl
  have hx := S.1
  have hb := S.2.1
  have hml := S.2.2.1
  have hl : lv_has ls 11 [(0, .ref (L 30 0)), (1, .int (nI i)), (2, .int (bI true)), (3, .int (nI x))] := hl
  have h44 := hm.1.2.2.1
  have h6 := hm.1.2.2.2
  have hf2 := hm.1.2.1
  obtain ⟨m1, ar1, hl1⟩ := hm.2.1.obj
  have hyd0 := hm.1.1
  obtain ⟨hsu0, hflu, hsok⟩ := hm.2.2.2.1 i hi
  obtain ⟨s1, s2, s3, s4, s5, s6, s7, s8⟩ := id hsok
  have hcn : 1 ≤ x ∧ x + yF y < sW (yS y i) := of_decide_eq_true hcan
  obtain ⟨H, hHe⟩ : ∃ z, z = s.heap := ⟨_, rfl⟩
  obtain ⟨locs, hLe⟩ : ∃ z : List Loc, z = [] := ⟨_, rfl⟩
  rw [← hHe, ← hLe]
  have hI : gI K A s G H locs := by rw [hHe, hLe]; exact hI
  clear hHe hLe
  refine lv_aload_n hx hb dX7_cut_0 rfl (lv_at hl 0 rfl) ?_
  refine g_get S hE hI (C := RX7) (T := TX7) (N := 3) (ref := "StonecutterYardModel$Yard") (fun w h => (List.mem_cons_of_mem _ (List.mem_append_left _ (List.mem_append_left _ (List.mem_append_right _ h))))) hyd0 rfl 0 (by decide) (List.mem_cons_of_mem _ (List.mem_append_left _ (List.mem_append_left _ (List.mem_append_left _ (List.mem_append_left _ (List.mem_of_getElem? (i := 0) rfl)))))) (fun _ h9 => h9) (v := .ref (L 31 0)) rfl dX7_cut_1 ?_
  refine lv_iload_n hx hb dX7_cut_4 rfl (lv_at hl 1 rfl) ?_
  refine g_callV (As := [.int (nI i)]) (rest := []) (b := (L 31 0)) (n := 1) S hE hI hA (l_get l K _ (r, 31, 0) (tbL r 32) (L 31 0) (ySc y) (L 35) i hm.2.1 hi) gX7_cut_Jx4a65c_get_915e3 rfl (by decide +kernel) ⟨Nat.le_of_ble_eq_true rfl, Nat.le_of_ble_eq_true rfl⟩ (g_hro hE hI hl1 rfl) rfl hl.1 rfl (Nat.le_of_ble_eq_true rfl) dX7_cut_5 ⟨Nat.le_of_ble_eq_true rfl, Nat.le_of_ble_eq_true rfl⟩ (fun E ce q9 Gx H1 locs1 hx9 => hx9.elim) (fun rv Gc_5 H locs hp hI => ?_)
  obtain ⟨rfl, hq9⟩ := hp
  rw [hq9] at hI
  refine W.eq (g2 := F0 m 8 ls [.ref (L 35 i)]) rfl ?_
  refine g_cast S (List.mem_cons_of_mem _ (List.mem_append_left _ (List.mem_append_left _ (List.mem_append_left _ (List.mem_append_left _ (List.mem_of_getElem? (i := 1) rfl)))))) (g_hro hE hI hsu0 rfl) dX7_cut_8 ?_
  refine lv_astore (lv' := [(4, .ref (L 35 i)), (0, .ref (L 30 0)), (1, .int (nI i)), (2, .int (bI true)), (3, .int (nI x))]) hx hb dX7_cut_11 hl (by decide) rfl (fun ls hl => ?_)
  refine lv_iload_n hx hb dX7_cut_13 rfl (lv_at hl 4 rfl) ?_
  refine lv_aload_n hx hb dX7_cut_14 rfl (lv_at hl 1 rfl) ?_
  refine g_get S hE hI (C := RX7) (T := TX7) (N := 3) (ref := "StonecutterYardModel$Yard") (fun w h => (List.mem_cons_of_mem _ (List.mem_append_left _ (List.mem_append_left _ (List.mem_append_right _ h))))) hyd0 rfl 2 (by decide) (List.mem_cons_of_mem _ (List.mem_append_left _ (List.mem_append_left _ (List.mem_append_left _ (List.mem_append_left _ (List.mem_of_getElem? (i := 2) rfl)))))) (fun _ h9 => h9) (v := .int (nI (yF y))) rfl dX7_cut_15 ?_
  refine t_iadd hx hb dX7_cut_18 (nI_add _ _) ?_
  refine lv_istore (lv' := [(5, .int (nI (x + (yF y)))), (4, .ref (L 35 i)), (0, .ref (L 30 0)), (1, .int (nI i)), (2, .int (bI true)), (3, .int (nI x))]) hx hb dX7_cut_19 hl (by decide) rfl (fun ls hl => ?_)
  refine g_new S hE hI hA (C := RX6) (T := TX6) (N := 6) (ci := 7) (fun w h => (List.mem_cons_of_mem _ (List.mem_append_left _ (List.mem_append_right _ h)))) tyX6 tyX6_ok (List.mem_cons_of_mem _ (List.mem_append_left _ (List.mem_append_left _ (List.mem_append_left _ (List.mem_append_left _ (List.mem_of_getElem? (i := 1) rfl)))))) (List.mem_cons_of_mem _ (List.mem_append_left _ (List.mem_append_left _ (List.mem_append_left _ (List.mem_append_left _ (List.mem_of_getElem? (i := 4) rfl)))))) (List.mem_cons_of_mem _ (List.mem_append_left _ (List.mem_append_left _ (List.mem_append_left _ (List.mem_append_left _ (List.mem_of_getElem? (i := 5) rfl)))))) rfl (fs := [.int (nI 0), .int (nI 0), .int (nI 0), .int (nI 0), .null, .int (nI 0)]) (fun j hj => by rcases (show j = 0 ∨ j = 1 ∨ j = 2 ∨ j = 3 ∨ j = 4 ∨ j = 5 by omega) with rfl | rfl | rfl | rfl | rfl | rfl <;> rfl) (r, 35, ySc y) (by show _ ≤ 24; omega) (by show _ ≤ 270; omega) dX7_cut_21 (fun q_21 H hq_21 hI => ?_)
  obtain ⟨G_1, hG_1⟩ : ∃ z, z = gset G (r, 35, ySc y) q_21 (.inr (7, [.int (nI 0), .int (nI 0), .int (nI 0), .int (nI 0), .null, .int (nI 0)])) := ⟨_, rfl⟩
  have hI : gI K A s G_1 H locs := by rw [hG_1]; exact hI
  have yd_G_1 : G_1 (r, 30, 0) = some ((L 30 0), .inr (8, [.ref (L 31 0), .ref (L 33 0), .int (nI (yF y))])) := by rw [hG_1, gset_ne (by simp <;> omega)]; exact hyd0
  have ls_G_1 : G_1 (r, 31, 0) = some ((L 31 0), .inr (0, [.int m1, .ref ar1, .int (nI (ySc y))])) := by rw [hG_1, gset_ne (by simp <;> omega)]; exact hl1
  have u_G_1 : G_1 (r, 35, i) = some ((L 35 i), .inr (7, [.int (nI (sW (yS y i))), .int (nI (sH (yS y i))), .int (nI (sG (yS y i))), .int (sF (yS y i)), .ref (L 36 i), .int (nI (sT (yS y i)))])) := by rw [hG_1, gset_ne (by simp <;> omega)]; exact hsu0
  have v6_G_1 : G_1 (r, 35, ySc y) = some (q_21, .inr (7, [.int (nI 0), .int (nI 0), .int (nI 0), .int (nI 0), .null, .int (nI 0)])) := by rw [hG_1]; exact gset_eq _ _ _ _
  refine lv_dup hx hb dX7_cut_24 rfl ?_
  refine lv_iload_n hx hb dX7_cut_25 rfl (lv_at hl 4 rfl) ?_
  refine lv_if_eq (tgt := 33) hx hb dX7_cut_26 (by decide) (fun c_26 => ?_) (fun c_26 => ?_)
  · skip
    have c_26 : true = false := bI_0.mp c_26
    exact absurd c_26 (by decide)
  · skip
    have c_26 : true = true := bI_1.mp c_26
    refine lv_iload_n hx hb dX7_cut_29 rfl (lv_at hl 5 rfl) ?_
    refine lv_goto (tgt := 38) hx hb dX7_cut_30 (by decide) ?_
    refine lv_iload_n hx hb dX7_cut_38 rfl (lv_at hl 4 rfl) ?_
    refine lv_if_eq (tgt := 50) hx hb dX7_cut_39 (by decide) (fun c_39 => ?_) (fun c_39 => ?_)
    · skip
      have c_39 : true = false := bI_0.mp c_39
      exact absurd c_39 (by decide)
    · skip
      have c_39 : true = true := bI_1.mp c_39
      refine lv_aload hx hb dX7_cut_42 (lv_at hl 1 rfl) ?_
      refine g_get S hE hI (C := RX6) (T := TX6) (N := 6) (ref := "StonecutterYardModel$Slab") (fun w h => (List.mem_cons_of_mem _ (List.mem_append_left _ (List.mem_append_right _ h)))) u_G_1 rfl 1 (by decide) (List.mem_cons_of_mem _ (List.mem_append_left _ (List.mem_append_left _ (List.mem_append_left _ (List.mem_append_left _ (List.mem_of_getElem? (i := 7) rfl)))))) (fun _ h9 => h9) (v := .int (nI (sH (yS y i)))) rfl dX7_cut_44 ?_
      refine lv_goto (tgt := 51) hx hb dX7_cut_47 (by decide) ?_
      refine lv_aload hx hb dX7_cut_51 (lv_at hl 1 rfl) ?_
      refine g_get S hE hI (C := RX6) (T := TX6) (N := 6) (ref := "StonecutterYardModel$Slab") (fun w h => (List.mem_cons_of_mem _ (List.mem_append_left _ (List.mem_append_right _ h)))) u_G_1 rfl 2 (by decide) (List.mem_cons_of_mem _ (List.mem_append_left _ (List.mem_append_left _ (List.mem_append_left _ (List.mem_append_left _ (List.mem_of_getElem? (i := 8) rfl)))))) (fun _ h9 => h9) (v := .int (nI (sG (yS y i)))) rfl dX7_cut_53 ?_
      refine lv_iload_n hx hb dX7_cut_56 rfl (lv_at hl 3 rfl) ?_
      refine g_callI (As := [.int (nI x), .int (nI (sH (yS y i))), .int (nI (sG (yS y i))), .int (nI i)]) (rest := [.ref q_21]) (b := q_21) (n := 4) S hE hI hA (c_X6_init l K _ (r, 35, ySc y) (r, 36, ySc y) q_21 x (sH (yS y i)) (sG (yS y i)) (nI i) v6_G_1 (by simp)) gX7_cut_X6_init rfl (List.mem_cons_of_mem _ (List.mem_append_left _ (List.mem_append_left _ (List.mem_append_left _ (List.mem_append_left _ (List.mem_of_getElem? (i := 5) rfl)))))) (List.mem_cons_of_mem _ (List.mem_append_left _ (List.mem_append_left _ (List.mem_append_left _ (List.mem_append_right _ (List.mem_append_left _ (List.mem_of_getElem? (i := 8) rfl))))))) (List.mem_cons_of_mem _ (List.mem_append_left _ (List.mem_append_left _ (List.mem_append_left _ (List.mem_append_right _ (List.mem_append_left _ (List.mem_of_getElem? (i := 9) rfl))))))) rfl (by decide +kernel) ⟨Nat.le_of_ble_eq_true rfl, Nat.le_of_ble_eq_true rfl⟩ rfl hl.1 rfl (Nat.le_of_ble_eq_true rfl) dX7_cut_57 ⟨by show _ ≤ 24; omega, by show _ ≤ 270; omega⟩ (fun E ce q9 Gx H1 locs1 hx9 => hx9.elim) (fun rv Gc_57 H locs hp hI => ?_)
      obtain ⟨rfl, pl6, hGc57⟩ := hp
      have yd_c57 : Gc_57 (r, 30, 0) = some ((L 30 0), .inr (8, [.ref (L 31 0), .ref (L 33 0), .int (nI (yF y))])) := by rw [hGc57, gset_ne (by simp; try omega), gset_ne (by simp; try omega)]; exact yd_G_1
      have ls_c57 : Gc_57 (r, 31, 0) = some ((L 31 0), .inr (0, [.int m1, .ref ar1, .int (nI (ySc y))])) := by rw [hGc57, gset_ne (by simp; try omega), gset_ne (by simp; try omega)]; exact ls_G_1
      have u_c57 : Gc_57 (r, 35, i) = some ((L 35 i), .inr (7, [.int (nI (sW (yS y i))), .int (nI (sH (yS y i))), .int (nI (sG (yS y i))), .int (sF (yS y i)), .ref (L 36 i), .int (nI (sT (yS y i)))])) := by rw [hGc57, gset_ne (by simp; try omega), gset_ne (by simp; try omega)]; exact u_G_1
      have v6_c57 : Gc_57 (r, 35, ySc y) = some (q_21, cMS (x, (sH (yS y i)), sG (yS y i), nI i, 0, []) pl6) := by rw [hGc57]; exact gset_eq _ _ _ _
      have lv6_c57 : Gc_57 (r, 36, ySc y) = some (pl6, cL (nI 0) K.2.2.1 0) := by rw [hGc57, gset_ne (by simp)]; exact gset_eq _ _ _ _
      refine W.eq (g2 := F0 m 60 ls [.ref q_21]) rfl ?_
      refine lv_astore (lv' := [(6, .ref q_21), (5, .int (nI (x + (yF y)))), (4, .ref (L 35 i)), (0, .ref (L 30 0)), (1, .int (nI i)), (2, .int (bI true)), (3, .int (nI x))]) hx hb dX7_cut_60 hl (by decide) rfl (fun ls hl => ?_)
      refine g_new S hE hI hA (C := RX6) (T := TX6) (N := 6) (ci := 7) (fun w h => (List.mem_cons_of_mem _ (List.mem_append_left _ (List.mem_append_right _ h)))) tyX6 tyX6_ok (List.mem_cons_of_mem _ (List.mem_append_left _ (List.mem_append_left _ (List.mem_append_left _ (List.mem_append_left _ (List.mem_of_getElem? (i := 1) rfl)))))) (List.mem_cons_of_mem _ (List.mem_append_left _ (List.mem_append_left _ (List.mem_append_left _ (List.mem_append_left _ (List.mem_of_getElem? (i := 4) rfl)))))) (List.mem_cons_of_mem _ (List.mem_append_left _ (List.mem_append_left _ (List.mem_append_left _ (List.mem_append_left _ (List.mem_of_getElem? (i := 5) rfl)))))) rfl (fs := [.int (nI 0), .int (nI 0), .int (nI 0), .int (nI 0), .null, .int (nI 0)]) (fun j hj => by rcases (show j = 0 ∨ j = 1 ∨ j = 2 ∨ j = 3 ∨ j = 4 ∨ j = 5 by omega) with rfl | rfl | rfl | rfl | rfl | rfl <;> rfl) (r, 35, ySc y + 1) (by show _ ≤ 24; omega) (by show _ ≤ 270; omega) dX7_cut_62 (fun q_62 H hq_62 hI => ?_)
      obtain ⟨G_2, hG_2⟩ : ∃ z, z = gset Gc_57 (r, 35, ySc y + 1) q_62 (.inr (7, [.int (nI 0), .int (nI 0), .int (nI 0), .int (nI 0), .null, .int (nI 0)])) := ⟨_, rfl⟩
      have hI : gI K A s G_2 H locs := by rw [hG_2]; exact hI
      have yd_G_2 : G_2 (r, 30, 0) = some ((L 30 0), .inr (8, [.ref (L 31 0), .ref (L 33 0), .int (nI (yF y))])) := by rw [hG_2, gset_ne (by simp <;> omega)]; exact yd_c57
      have ls_G_2 : G_2 (r, 31, 0) = some ((L 31 0), .inr (0, [.int m1, .ref ar1, .int (nI (ySc y))])) := by rw [hG_2, gset_ne (by simp <;> omega)]; exact ls_c57
      have u_G_2 : G_2 (r, 35, i) = some ((L 35 i), .inr (7, [.int (nI (sW (yS y i))), .int (nI (sH (yS y i))), .int (nI (sG (yS y i))), .int (sF (yS y i)), .ref (L 36 i), .int (nI (sT (yS y i)))])) := by rw [hG_2, gset_ne (by simp <;> omega)]; exact u_c57
      have v6_G_2 : G_2 (r, 35, ySc y) = some (q_21, .inr (7, [.int (nI x), .int (nI (sH (yS y i))), .int (nI (sG (yS y i))), .int (nI i), .ref pl6, .int (nI 0)])) := by rw [hG_2, gset_ne (by simp <;> omega)]; exact v6_c57
      have lv6_G_2 : G_2 (r, 36, ySc y) = some (pl6, .inr (0, [.int (nI 0), .ref K.2.2.1, .int (nI 0)])) := by rw [hG_2, gset_ne (by simp <;> omega)]; exact lv6_c57
      have v7_G_2 : G_2 (r, 35, ySc y + 1) = some (q_62, .inr (7, [.int (nI 0), .int (nI 0), .int (nI 0), .int (nI 0), .null, .int (nI 0)])) := by rw [hG_2]; exact gset_eq _ _ _ _
      refine lv_dup hx hb dX7_cut_65 rfl ?_
      refine lv_iload_n hx hb dX7_cut_66 rfl (lv_at hl 5 rfl) ?_
      refine lv_if_eq (tgt := 81) hx hb dX7_cut_67 (by decide) (fun c_67 => ?_) (fun c_67 => ?_)
      · skip
        have c_67 : true = false := bI_0.mp c_67
        exact absurd c_67 (by decide)
      · skip
        have c_67 : true = true := bI_1.mp c_67
        refine lv_aload hx hb dX7_cut_70 (lv_at hl 2 rfl) ?_
        refine g_get S hE hI (C := RX6) (T := TX6) (N := 6) (ref := "StonecutterYardModel$Slab") (fun w h => (List.mem_cons_of_mem _ (List.mem_append_left _ (List.mem_append_right _ h)))) u_G_2 rfl 0 (by decide) (List.mem_cons_of_mem _ (List.mem_append_left _ (List.mem_append_left _ (List.mem_append_left _ (List.mem_append_left _ (List.mem_of_getElem? (i := 6) rfl)))))) (fun _ h9 => h9) (v := .int (nI (sW (yS y i)))) rfl dX7_cut_72 ?_
        refine lv_iload hx hb dX7_cut_75 (lv_at hl 1 rfl) ?_
        refine t_isub hx hb dX7_cut_77 (v := nI (sW (yS y i) - (x + yF y))) (pk_sub (by omega)) ?_
        refine lv_goto (tgt := 86) hx hb dX7_cut_78 (by decide) ?_
        refine lv_iload_n hx hb dX7_cut_86 rfl (lv_at hl 5 rfl) ?_
        refine lv_if_eq (tgt := 98) hx hb dX7_cut_87 (by decide) (fun c_87 => ?_) (fun c_87 => ?_)
        · skip
          have c_87 : true = false := bI_0.mp c_87
          exact absurd c_87 (by decide)
        · skip
          have c_87 : true = true := bI_1.mp c_87
          refine lv_aload hx hb dX7_cut_90 (lv_at hl 2 rfl) ?_
          refine g_get S hE hI (C := RX6) (T := TX6) (N := 6) (ref := "StonecutterYardModel$Slab") (fun w h => (List.mem_cons_of_mem _ (List.mem_append_left _ (List.mem_append_right _ h)))) u_G_2 rfl 1 (by decide) (List.mem_cons_of_mem _ (List.mem_append_left _ (List.mem_append_left _ (List.mem_append_left _ (List.mem_append_left _ (List.mem_of_getElem? (i := 7) rfl)))))) (fun _ h9 => h9) (v := .int (nI (sH (yS y i)))) rfl dX7_cut_92 ?_
          refine lv_goto (tgt := 106) hx hb dX7_cut_95 (by decide) ?_
          refine lv_aload hx hb dX7_cut_106 (lv_at hl 2 rfl) ?_
          refine g_get S hE hI (C := RX6) (T := TX6) (N := 6) (ref := "StonecutterYardModel$Slab") (fun w h => (List.mem_cons_of_mem _ (List.mem_append_left _ (List.mem_append_right _ h)))) u_G_2 rfl 2 (by decide) (List.mem_cons_of_mem _ (List.mem_append_left _ (List.mem_append_left _ (List.mem_append_left _ (List.mem_append_left _ (List.mem_of_getElem? (i := 8) rfl)))))) (fun _ h9 => h9) (v := .int (nI (sG (yS y i)))) rfl dX7_cut_108 ?_
          refine lv_iload_n hx hb dX7_cut_111 rfl (lv_at hl 4 rfl) ?_
          refine g_callI (As := [.int (nI (sW (yS y i) - (x + yF y))), .int (nI (sH (yS y i))), .int (nI (sG (yS y i))), .int (nI i)]) (rest := [.ref q_62]) (b := q_62) (n := 4) S hE hI hA (c_X6_init l K _ (r, 35, ySc y + 1) (r, 36, ySc y + 1) q_62 (sW (yS y i) - (x + yF y)) (sH (yS y i)) (sG (yS y i)) (nI i) v7_G_2 (by simp)) gX7_cut_X6_init rfl (List.mem_cons_of_mem _ (List.mem_append_left _ (List.mem_append_left _ (List.mem_append_left _ (List.mem_append_left _ (List.mem_of_getElem? (i := 5) rfl)))))) (List.mem_cons_of_mem _ (List.mem_append_left _ (List.mem_append_left _ (List.mem_append_left _ (List.mem_append_right _ (List.mem_append_left _ (List.mem_of_getElem? (i := 8) rfl))))))) (List.mem_cons_of_mem _ (List.mem_append_left _ (List.mem_append_left _ (List.mem_append_left _ (List.mem_append_right _ (List.mem_append_left _ (List.mem_of_getElem? (i := 9) rfl))))))) rfl (by decide +kernel) ⟨Nat.le_of_ble_eq_true rfl, Nat.le_of_ble_eq_true rfl⟩ rfl hl.1 rfl (Nat.le_of_ble_eq_true rfl) dX7_cut_112 ⟨by show _ ≤ 24; omega, by show _ ≤ 270; omega⟩ (fun E ce q9 Gx H1 locs1 hx9 => hx9.elim) (fun rv Gc_112 H locs hp hI => ?_)
          obtain ⟨rfl, pl7, hGc112⟩ := hp
          have yd_c112 : Gc_112 (r, 30, 0) = some ((L 30 0), .inr (8, [.ref (L 31 0), .ref (L 33 0), .int (nI (yF y))])) := by rw [hGc112, gset_ne (by simp; try omega), gset_ne (by simp; try omega)]; exact yd_G_2
          have ls_c112 : Gc_112 (r, 31, 0) = some ((L 31 0), .inr (0, [.int m1, .ref ar1, .int (nI (ySc y))])) := by rw [hGc112, gset_ne (by simp; try omega), gset_ne (by simp; try omega)]; exact ls_G_2
          have u_c112 : Gc_112 (r, 35, i) = some ((L 35 i), .inr (7, [.int (nI (sW (yS y i))), .int (nI (sH (yS y i))), .int (nI (sG (yS y i))), .int (sF (yS y i)), .ref (L 36 i), .int (nI (sT (yS y i)))])) := by rw [hGc112, gset_ne (by simp; try omega), gset_ne (by simp; try omega)]; exact u_G_2
          have v6_c112 : Gc_112 (r, 35, ySc y) = some (q_21, .inr (7, [.int (nI x), .int (nI (sH (yS y i))), .int (nI (sG (yS y i))), .int (nI i), .ref pl6, .int (nI 0)])) := by rw [hGc112, gset_ne (by simp; try omega), gset_ne (by simp; try omega)]; exact v6_G_2
          have lv6_c112 : Gc_112 (r, 36, ySc y) = some (pl6, .inr (0, [.int (nI 0), .ref K.2.2.1, .int (nI 0)])) := by rw [hGc112, gset_ne (by simp; try omega), gset_ne (by simp; try omega)]; exact lv6_G_2
          have v7_c112 : Gc_112 (r, 35, ySc y + 1) = some (q_62, cMS ((sW (yS y i) - (x + yF y)), (sH (yS y i)), sG (yS y i), nI i, 0, []) pl7) := by rw [hGc112]; exact gset_eq _ _ _ _
          have lv7_c112 : Gc_112 (r, 36, ySc y + 1) = some (pl7, cL (nI 0) K.2.2.1 0) := by rw [hGc112, gset_ne (by simp)]; exact gset_eq _ _ _ _
          refine W.eq (g2 := F0 m 115 ls [.ref q_62]) rfl ?_
          refine lv_astore (lv' := [(7, .ref q_62), (6, .ref q_21), (5, .int (nI (x + (yF y)))), (4, .ref (L 35 i)), (0, .ref (L 30 0)), (1, .int (nI i)), (2, .int (bI true)), (3, .int (nI x))]) hx hb dX7_cut_115 hl (by decide) rfl (fun ls hl => ?_)
          refine lv_iconst (v := nI 0) hx hb dX7_cut_117 (by decide) ?_
          have hof0 : ∀ v, offC r (ySc y) N v → Gc_112 v = G v := fun v hv => by rw [hGc112, gset_ne hv.2.1, gset_ne hv.2.2.2.1, hG_2, gset_ne hv.2.1, hGc57, gset_ne hv.1, gset_ne hv.2.2.1, hG_1, gset_ne hv.1]
          refine lv_istore (lv' := [(8, .int (nI 0)), (7, .ref q_62), (6, .ref q_21), (5, .int (nI (x + (yF y)))), (4, .ref (L 35 i)), (0, .ref (L 30 0)), (1, .int (nI i)), (2, .int (bI true)), (3, .int (nI x))]) hx hb dX7_cut_118 hl (by decide) rfl (fun ls hl => ?_)
          have L120 : ∀ (n : Nat) (q6 q7 pl6 pl7 k N1 : Nat) (G1 : gW) (H : Heap) (locs : List Loc) (ls : Array Slot) (hn : (sL (yS y i)).length - k < n) (hk : k ≤ (sL (yS y i)).length) (hN : N ≤ N1 ∧ N1 ≤ N + k) (h6 : G1 (r, 35, ySc y) = some (q6, cMS (x, (sH (yS y i)), sG (yS y i), nI i, 0, []) pl6)) (h7 : G1 (r, 35, ySc y + 1) = some (q7, cMS ((sW (yS y i) - (x + yF y)), (sH (yS y i)), sG (yS y i), nI i, 0, []) pl7)) (f6 : FLi K G1 (r, 36, ySc y) (tbF r (ySc y)) pl6 (pass ((sL (yS y i)).take k) 0 0 x (sH (yS y i))) N1) (f7 : FLi K G1 (r, 36, ySc y + 1) (tbF r (ySc y + 1)) pl7 (pass ((sL (yS y i)).take k) (x + yF y) 0 (sW (yS y i) - (x + yF y)) (sH (yS y i))) N1) (hof : ∀ v, offC r (ySc y) N v → G1 v = G v), gI K A s G1 H locs → lv_has ls 11 [(0, .ref (L 30 0)), (1, .int (nI i)), (2, .int (bI true)), (3, .int (nI x)), (4, .ref (L 35 i)), (5, .int (nI (x + yF y))), (6, .ref q6), (7, .ref q7), (8, .int (nI k))] → W p l e (gRoom 8 171 24 270) s m ([.ref (L 30 0), .int (nI i), .int (bI true), .int (nI x)] : List Value).toArray below meth c H locs (4 + 3 * k) (18 + 22 * k) (gEnd K below (fun r9 G1 => ∃ L2 N2, r9 = some (.int (nI (ySc y))) ∧ MY K r L2 G1 (yCut y i true x) N2 ∧ N ≤ N2 ∧ (∀ k j, (k ≠ 35 ∧ k ≠ 36) ∨ j < ySc y → L2 k j = L k j) ∧ (∀ v : gTag, v.1 ≠ r → v.1 ≠ 50 → G1 v = G v) ∧ ∀ m, m < N → G1 (50, 0, m) = G (50, 0, m)) (gNo) A ([.ref (L 30 0), .int (nI i), .int (bI true), .int (nI x)] : List Value).toArray s 24 270) (F0 m 120 ls []) := by
            clear hI hl
            intro n
            induction n with
            | zero =>
              intro q6 q7 pl6 pl7 k N1 G1 H locs ls hn hk hN h6 h7 f6 f7 hof hI hl
              exact absurd hn (Nat.not_lt_zero _)
            | succ n ih =>
              intro q6 q7 pl6 pl7 k N1 G1 H locs ls hn hk hN h6 h7 f6 f7 hof hI hl
              have hyd1 := (hof _ (offC_k (j := 0) (k := 30) hr50 (by decide))).trans hm.1.1
              have hls1 := (hof _ (offC_k (j := 0) (k := 31) hr50 (by decide))).trans hl1
              have hsu1 := (hof _ (offC_35 hr50 hi)).trans hsu0
              have hfu1 : FLi K G1 (r, 36, i) (tbF r i) (L 36 i) (sL (yS y i)) N := hflu.moved (hof _ (offC_36 hr50 hi)) (fun b => hof _ (offC_37 hr50 hi b)) (fun m hm9 => hof _ (offC_50 hr50 hm9))
              obtain ⟨-, -, Fu, gu, hALu, hFu⟩ := hfu1
              obtain ⟨mu, aru, hlu⟩ := hALu.obj
              obtain ⟨e61, e62, F6, g6, hAL6, hF6⟩ := id f6
              obtain ⟨e71, e72, F7, g7, hAL7, hF7⟩ := id f7
              obtain ⟨mo6, ar6, hl6⟩ := hAL6.obj
              obtain ⟨mo7, ar7, hl7⟩ := hAL7.obj
              refine lv_iload hx hb dX7_cut_120 (lv_at hl 8 rfl) ?_
              refine lv_aload hx hb dX7_cut_122 (lv_at hl 4 rfl) ?_
              refine g_get S hE hI (C := RX6) (T := TX6) (N := 6) (ref := "StonecutterYardModel$Slab") (fun w h => (List.mem_cons_of_mem _ (List.mem_append_left _ (List.mem_append_right _ h)))) hsu1 rfl 4 (by decide) (List.mem_cons_of_mem _ (List.mem_append_left _ (List.mem_append_left _ (List.mem_append_left _ (List.mem_append_left _ (List.mem_of_getElem? (i := 9) rfl)))))) (fun _ h9 => h9) (v := .ref (L 36 i)) rfl dX7_cut_124 ?_
              refine g_callV (As := []) (rest := [.int (nI k)]) (b := (L 36 i)) (n := 0) S hE hI hA (l_size l K _ (r, 36, i) (tbF r i) (L 36 i) (sL (yS y i)).length Fu hALu) gX7_cut_Jx4a65c_size_8abf5 rfl (by decide +kernel) ⟨Nat.le_of_ble_eq_true rfl, Nat.le_of_ble_eq_true rfl⟩ (g_hro hE hI hlu rfl) rfl hl.1 rfl (Nat.le_of_ble_eq_true rfl) dX7_cut_127 ⟨by show _ ≤ 24; omega, by show _ ≤ 270; omega⟩ (fun E ce q9 Gx H1 locs1 hx9 => hx9.elim) (fun rv Gc_127 H locs hp hI => ?_)
              obtain ⟨rfl, hq9⟩ := hp
              rw [hq9] at hI
              refine W.eq (g2 := F0 m 130 ls [.int (nI ((sL (yS y i)).length)), .int (nI k)]) rfl ?_
              refine lv_icmp_ge (tgt := 251) hx hb dX7_cut_130 (by decide) (fun c_130 => ?_) (fun c_130 => ?_)
              · skip
                have c_130 : ((sL (yS y i)).length) ≤ k := (nI_leI (a := ((sL (yS y i)).length)) (b := k) (by omega) (by omega)).mp c_130
                refine lv_aload hx hb dX7_cut_251 (lv_at hl 4 rfl) ?_
                refine lv_iconst (v := nI 1) hx hb dX7_cut_253 (by decide) ?_
                refine g_put S hE hI (C := RX6) (T := TX6) (N := 6) (ref := "StonecutterYardModel$Slab") (fun w h => (List.mem_cons_of_mem _ (List.mem_append_left _ (List.mem_append_right _ h)))) tyX6 tyX6_ok nmX6 hsu1 rfl 5 (by decide) (List.mem_cons_of_mem _ (List.mem_append_left _ (List.mem_append_left _ (List.mem_append_left _ (List.mem_append_left _ (List.mem_of_getElem? (i := 12) rfl)))))) (fun _ h9 => h9) rfl rfl rfl (Nat.le_of_ble_eq_true rfl) dX7_cut_254 (fun H locs hI => ?_)
                have hI : gI K A s (gset G1 (r, 35, i) (L 35 i) (.inr (7, [.int (nI (sW (yS y i))), .int (nI (sH (yS y i))), .int (nI (sG (yS y i))), .int (sF (yS y i)), .ref (L 36 i), .int (nI 1)]))) H locs := hI
                obtain ⟨G_3, hG_3⟩ : ∃ z, z = gset G1 (r, 35, i) (L 35 i) (.inr (7, [.int (nI (sW (yS y i))), .int (nI (sH (yS y i))), .int (nI (sG (yS y i))), .int (sF (yS y i)), .ref (L 36 i), .int (nI 1)])) := ⟨_, rfl⟩
                rw [← hG_3] at hI
                have yd_G_3 : G_3 (r, 30, 0) = some ((L 30 0), .inr (8, [.ref (L 31 0), .ref (L 33 0), .int (nI (yF y))])) := by rw [hG_3, gset_ne (by simp <;> omega)]; exact hyd1
                have v6_G_3 : G_3 (r, 35, ySc y) = some (q6, .inr (7, [.int (nI x), .int (nI (sH (yS y i))), .int (nI (sG (yS y i))), .int (nI i), .ref pl6, .int (nI 0)])) := by rw [hG_3, gset_ne (by simp <;> omega)]; exact h6
                have v7_G_3 : G_3 (r, 35, ySc y + 1) = some (q7, .inr (7, [.int (nI (sW (yS y i) - (x + yF y))), .int (nI (sH (yS y i))), .int (nI (sG (yS y i))), .int (nI i), .ref pl7, .int (nI 0)])) := by rw [hG_3, gset_ne (by simp <;> omega)]; exact h7
                have lu_G_3 : G_3 (r, 36, i) = some ((L 36 i), .inr (0, [.int mu, .ref aru, .int (nI ((sL (yS y i)).length))])) := by rw [hG_3, gset_ne (by simp <;> omega)]; exact hlu
                have l6_G_3 : G_3 (r, 36, ySc y) = some (pl6, .inr (0, [.int mo6, .ref ar6, .int (nI ((pass ((sL (yS y i)).take k) 0 0 x (sH (yS y i))).length))])) := by rw [hG_3, gset_ne (by simp <;> omega)]; exact hl6
                have l7_G_3 : G_3 (r, 36, ySc y + 1) = some (pl7, .inr (0, [.int mo7, .ref ar7, .int (nI ((pass ((sL (yS y i)).take k) (x + yF y) 0 (sW (yS y i) - (x + yF y)) (sH (yS y i))).length))])) := by rw [hG_3, gset_ne (by simp <;> omega)]; exact hl7
                have ls_G_3 : G_3 (r, 31, 0) = some ((L 31 0), .inr (0, [.int m1, .ref ar1, .int (nI (ySc y))])) := by rw [hG_3, gset_ne (by simp <;> omega)]; exact hls1
                have u_G_3 : G_3 (r, 35, i) = some ((L 35 i), .inr (7, [.int (nI (sW (yS y i))), .int (nI (sH (yS y i))), .int (nI (sG (yS y i))), .int (sF (yS y i)), .ref (L 36 i), .int (nI 1)])) := by rw [hG_3]; exact gset_eq _ _ _ _
                have hkk : k = (sL (yS y i)).length := by omega
                have hw2 : ∀ v : gTag, v ≠ (r, 35, i) → G_3 v = G1 v := fun v h9 => by rw [hG_3, gset_ne h9]
                have hsA : ∀ j, j < ySc y → ∃ u9 : SV, G_3 (r, 35, j) = some (L 35 j, cMS u9 (L 36 j)) := fun j hj => by
                  by_cases c9 : j = i
                  · subst c9; exact ⟨sState (yS y j) 1, u_G_3⟩
                  · exact ⟨_, (hw2 _ (by simp [c9])).trans ((hof _ (offC_35 hr50 hj)).trans (hm.2.2.2.1 j hj).1)⟩
                have hAL0 : ALg K (r, 31, 0) (tbL r 32) G_3 (L 31 0) (ySc y) (L 35) := hm.2.1.moved ((hw2 _ (by simp)).trans (hof _ (offC_k hr50 (by decide)))) (fun b => (hw2 _ (by unfold tbL; simp)).trans (hof _ (offC_k hr50 (by decide))))
                have h6w := (hw2 (r, 35, ySc y) (by simp; omega)).trans h6
                have h7w := (hw2 (r, 35, ySc y + 1) (by simp; omega)).trans h7
                refine lv_aload_n hx hb dX7_cut_257 rfl (lv_at hl 0 rfl) ?_
                refine g_get S hE hI (C := RX7) (T := TX7) (N := 3) (ref := "StonecutterYardModel$Yard") (fun w h => (List.mem_cons_of_mem _ (List.mem_append_left _ (List.mem_append_left _ (List.mem_append_right _ h))))) yd_G_3 rfl 0 (by decide) (List.mem_cons_of_mem _ (List.mem_append_left _ (List.mem_append_left _ (List.mem_append_left _ (List.mem_append_left _ (List.mem_of_getElem? (i := 0) rfl)))))) (fun _ h9 => h9) (v := .ref (L 31 0)) rfl dX7_cut_258 ?_
                refine lv_aload hx hb dX7_cut_261 (lv_at hl 6 rfl) ?_
                refine g_callV (As := [.ref q6]) (rest := []) (b := (L 31 0)) (n := 1) S hE hI hA (l_add l K _ (r, 31, 0) (tbL r 32) (L 31 0) (ySc y) (L 35) "StonecutterYardModel$Slab" q6 (r, 35, ySc y) _ hAL0 (apL1 r) (by omega) h6w isC_S (by simp) (ne35L (by decide)) (fun j hj => by obtain ⟨u9, hu9⟩ := hsA j hj; exact ⟨(r, 35, j), _, by simp, ne35L (by decide), hu9, isC_S⟩)) gX7_cut_Jx4a65c_add_9ea2d rfl (by decide +kernel) ⟨Nat.le_of_ble_eq_true rfl, Nat.le_of_ble_eq_true rfl⟩ (g_hro hE hI ls_G_3 rfl) rfl hl.1 rfl (Nat.le_of_ble_eq_true rfl) dX7_cut_263 ⟨by show _ ≤ 24; omega, by show _ ≤ 270; omega⟩ (fun E ce q9 Gx H1 locs1 hx9 => hx9.elim) (fun rv Gc_263 H locs hp hI => ?_)
                obtain ⟨rfl, hALa, hoa⟩ := hp
                obtain ⟨mA, arA, hls9⟩ := hALa.obj
                have hy9 := (hoa (r, 30, 0) (by simp) (fun b => by unfold tbL; simp)).trans yd_G_3
                refine W.eq (g2 := F0 m 266 ls [.int (nI 1)]) rfl ?_
                refine lv_pop hx hb dX7_cut_266 rfl ?_
                refine lv_aload_n hx hb dX7_cut_267 rfl (lv_at hl 0 rfl) ?_
                refine g_get S hE hI (C := RX7) (T := TX7) (N := 3) (ref := "StonecutterYardModel$Yard") (fun w h => (List.mem_cons_of_mem _ (List.mem_append_left _ (List.mem_append_left _ (List.mem_append_right _ h))))) hy9 rfl 0 (by decide) (List.mem_cons_of_mem _ (List.mem_append_left _ (List.mem_append_left _ (List.mem_append_left _ (List.mem_append_left _ (List.mem_of_getElem? (i := 0) rfl)))))) (fun _ h9 => h9) (v := .ref (L 31 0)) rfl dX7_cut_268 ?_
                refine lv_aload hx hb dX7_cut_271 (lv_at hl 7 rfl) ?_
                refine g_callV (As := [.ref q7]) (rest := []) (b := (L 31 0)) (n := 1) S hE hI hA (l_add l K _ (r, 31, 0) (tbL r 32) (L 31 0) (ySc y + 1) (fU (L 35) (ySc y) q6) "StonecutterYardModel$Slab" q7 (r, 35, ySc y + 1) _ hALa (apL1 r) (by omega) ((hoa _ (by simp) (ne35L (by decide))).trans h7w) isC_S (by simp) (ne35L (by decide)) (fun j hj => (Decidable.em (j = ySc y)).elim (fun c9 => by subst c9; rw [fU_eq]; exact ⟨(r, 35, ySc y), _, by simp, ne35L (by decide), (hoa _ (by simp) (ne35L (by decide))).trans h6w, isC_S⟩) (fun c9 => by rw [fU_ne c9]; obtain ⟨u9, hu9⟩ := hsA j (by omega); exact ⟨(r, 35, j), _, by simp, ne35L (by decide), (hoa _ (by simp) (ne35L (by decide))).trans hu9, isC_S⟩))) gX7_cut_Jx4a65c_add_9ea2d rfl (by decide +kernel) ⟨Nat.le_of_ble_eq_true rfl, Nat.le_of_ble_eq_true rfl⟩ (g_hro hE hI hls9 rfl) rfl hl.1 rfl (Nat.le_of_ble_eq_true rfl) dX7_cut_273 ⟨by show _ ≤ 24; omega, by show _ ≤ 270; omega⟩ (fun E ce q9 Gx H1 locs1 hx9 => hx9.elim) (fun rv Gc_273 H locs hp hI => ?_)
                obtain ⟨rfl, hALb, hob⟩ := hp
                obtain ⟨mB, arB, hls10⟩ := hALb.obj
                have hy10 := (hob (r, 30, 0) (by simp) (fun b => by unfold tbL; simp)).trans hy9
                refine W.eq (g2 := F0 m 276 ls [.int (nI 1)]) rfl ?_
                refine lv_pop hx hb dX7_cut_276 rfl ?_
                refine lv_aload_n hx hb dX7_cut_277 rfl (lv_at hl 0 rfl) ?_
                refine g_get S hE hI (C := RX7) (T := TX7) (N := 3) (ref := "StonecutterYardModel$Yard") (fun w h => (List.mem_cons_of_mem _ (List.mem_append_left _ (List.mem_append_left _ (List.mem_append_right _ h))))) hy10 rfl 0 (by decide) (List.mem_cons_of_mem _ (List.mem_append_left _ (List.mem_append_left _ (List.mem_append_left _ (List.mem_append_left _ (List.mem_of_getElem? (i := 0) rfl)))))) (fun _ h9 => h9) (v := .ref (L 31 0)) rfl dX7_cut_278 ?_
                refine g_callV (As := []) (rest := []) (b := (L 31 0)) (n := 0) S hE hI hA (l_size l K _ (r, 31, 0) (tbL r 32) (L 31 0) (ySc y + 1 + 1) (fU (fU (L 35) (ySc y) q6) (ySc y + 1) q7) hALb) gX7_cut_Jx4a65c_size_8abf5 rfl (by decide +kernel) ⟨Nat.le_of_ble_eq_true rfl, Nat.le_of_ble_eq_true rfl⟩ (g_hro hE hI hls10 rfl) rfl hl.1 rfl (Nat.le_of_ble_eq_true rfl) dX7_cut_281 ⟨by show _ ≤ 24; omega, by show _ ≤ 270; omega⟩ (fun E ce q9 Gx H1 locs1 hx9 => hx9.elim) (fun rv Gc_281 H locs hp hI => ?_)
                obtain ⟨rfl, hq9⟩ := hp
                rw [hq9] at hI
                refine W.eq (g2 := F0 m 284 ls [.int (nI (ySc y + 1 + 1))]) rfl ?_
                refine lv_iconst (v := nI 2) hx hb dX7_cut_284 (by decide) ?_
                refine t_isub hx hb dX7_cut_285 (v := nI (ySc y)) (pk_sub (a := ySc y + 1 + 1) (b := 2) (by omega)) ?_
                have hat : ∀ v : gTag, v ≠ (r, 31, 0) → (∀ b, v ≠ tbL r 32 b) → v ≠ (r, 35, i) → Gc_273 v = G1 v := fun v c1 c2 c3 => (hob v c1 c2).trans ((hoa v c1 c2).trans (hw2 v c3))
                have h50 : ∀ m, Gc_273 (50, 0, m) = G1 (50, 0, m) := fun m => hat _ (by simp [Ne.symm hr50]) (fun b => by unfold tbL; simp [Ne.symm hr50]) (by simp [Ne.symm hr50])
                have hfull : (sL (yS y i)).take k = sL (yS y i) := by rw [hkk, List.take_length]
                rw [hfull] at f6 f7
                obtain ⟨L2, hL2⟩ : ∃ z, z = (fun a b => if a = 35 ∧ b = ySc y then q6 else if a = 35 ∧ b = ySc y + 1 then q7 else if a = 36 ∧ b = ySc y then pl6 else if a = 36 ∧ b = ySc y + 1 then pl7 else L a b) := ⟨_, rfl⟩
                have hMY : MY K r L2 Gc_273 (yCut y i true x) N1 := mcut_fin true hm hi hcan hr50 hsc hL2 hN.1 hof hat hy10 hALb ((hob _ (by simp) (ne35L (by decide))).trans ((hoa _ (by simp) (ne35L (by decide))).trans u_G_3)) h6 h7 f6 f7
                exact g_iret S hI hr hlocks (by omega) (by omega) dX7_cut_286 ⟨L2, N1, rfl, hMY, hN.1, fun a b c9 => by rw [hL2]; show (if _ then _ else _) = _; rw [if_neg (by omega), if_neg (by omega), if_neg (by omega), if_neg (by omega)], fun v h9 h8 => (hat v (fun z9 => h9 (by rw [z9])) (fun b z9 => h9 (by rw [z9]; rfl)) (fun z9 => h9 (by rw [z9]))).trans (hof v (offC_o h9 h8)), fun m h9 => (h50 m).trans (hof _ (offC_50 hr50 h9))⟩
              · skip
                have c_130 : k < ((sL (yS y i)).length) := Nat.not_le.mp (fun z => c_130 ((nI_leI (a := ((sL (yS y i)).length)) (b := k) (by omega) (by omega)).mpr z))
                obtain ⟨m9, hm9, hf9, hg0, hg1⟩ := hFu k c_130
                obtain ⟨x9, hx9⟩ : ∃ z, z = ((sL (yS y i)).getD k (0, 0)).1 := ⟨_, rfl⟩
                obtain ⟨y9, hy9⟩ : ∃ z, z = ((sL (yS y i)).getD k (0, 0)).2 := ⟨_, rfl⟩
                rw [← hx9] at hg0
                rw [← hy9] at hg1
                have hmm : (sL (yS y i)).getD k (0, 0) ∈ sL (yS y i) := by simp [List.getD, List.getElem?_eq_getElem c_130]
                have hbb := s8 _ hmm
                rw [← hx9, ← hy9] at hbb
                have hb9 : x9 < 24 ∧ y9 < 24 := by omega
                have hp6 := pass_lt (l := 0) (t := 0) (w := x) (h := (sH (yS y i))) c_130
                have hp7 := pass_lt (l := (x + yF y)) (t := 0) (w := (sW (yS y i) - (x + yF y))) (h := (sH (yS y i))) c_130
                refine lv_aload hx hb dX7_cut_133 (lv_at hl 4 rfl) ?_
                refine g_get S hE hI (C := RX6) (T := TX6) (N := 6) (ref := "StonecutterYardModel$Slab") (fun w h => (List.mem_cons_of_mem _ (List.mem_append_left _ (List.mem_append_right _ h)))) hsu1 rfl 4 (by decide) (List.mem_cons_of_mem _ (List.mem_append_left _ (List.mem_append_left _ (List.mem_append_left _ (List.mem_append_left _ (List.mem_of_getElem? (i := 9) rfl)))))) (fun _ h9 => h9) (v := .ref (L 36 i)) rfl dX7_cut_135 ?_
                refine lv_iload hx hb dX7_cut_138 (lv_at hl 8 rfl) ?_
                refine g_callV (As := [.int (nI k)]) (rest := []) (b := (L 36 i)) (n := 1) S hE hI hA (l_get l K _ (r, 36, i) (tbF r i) (L 36 i) (sL (yS y i)).length Fu k hALu c_130) gX7_cut_Jx4a65c_get_915e3 rfl (by decide +kernel) ⟨Nat.le_of_ble_eq_true rfl, Nat.le_of_ble_eq_true rfl⟩ (g_hro hE hI hlu rfl) rfl hl.1 rfl (Nat.le_of_ble_eq_true rfl) dX7_cut_140 ⟨by show _ ≤ 24; omega, by show _ ≤ 270; omega⟩ (fun E ce q9 Gx H1 locs1 hx9 => hx9.elim) (fun rv Gc_140 H locs hp hI => ?_)
                obtain ⟨rfl, hq9⟩ := hp
                rw [hq9] at hI
                refine W.eq (g2 := F0 m 143 ls [.ref (Fu k)]) rfl ?_
                refine g_cast S (List.mem_cons_of_mem _ (List.mem_append_left _ (List.mem_append_left _ (List.mem_append_left _ (List.mem_append_left _ (List.mem_of_getElem? (i := 10) rfl)))))) (g_hra hE hI (k := 0) (ty := .int) hf9 rfl rfl) dX7_cut_143 ?_
                refine lv_astore (lv' := [(9, .ref (Fu k)), (0, .ref (L 30 0)), (1, .int (nI i)), (2, .int (bI true)), (3, .int (nI x)), (4, .ref (L 35 i)), (5, .int (nI (x + yF y))), (6, .ref q6), (7, .ref q7), (8, .int (nI k))]) hx hb dX7_cut_146 hl (by decide) rfl (fun ls hl => ?_)
                refine lv_iload_n hx hb dX7_cut_148 rfl (lv_at hl 3 rfl) ?_
                refine lv_if_eq (tgt := 159) hx hb dX7_cut_149 (by decide) (fun c_149 => ?_) (fun c_149 => ?_)
                · skip
                  have c_149 : true = false := bI_0.mp c_149
                  exact absurd c_149 (by decide)
                · skip
                  have c_149 : true = true := bI_1.mp c_149
                  refine lv_aload hx hb dX7_cut_152 (lv_at hl 0 rfl) ?_
                  refine lv_iconst (v := nI 0) hx hb dX7_cut_154 (by decide) ?_
                  refine g_iald S hE hI (j := 0) (f := (gu k)) hf9 rfl (by omega) (by decide) dX7_cut_155 ?_
                  refine W.eq (g2 := F0 m 156 ls [.int (nI x9)]) (by rw [hg0]) ?_
                  refine lv_goto (tgt := 163) hx hb dX7_cut_156 (by decide) ?_
                  refine lv_istore (lv' := [(10, .int (nI x9)), (9, .ref (Fu k)), (0, .ref (L 30 0)), (1, .int (nI i)), (2, .int (bI true)), (3, .int (nI x)), (4, .ref (L 35 i)), (5, .int (nI (x + yF y))), (6, .ref q6), (7, .ref q7), (8, .int (nI k))]) hx hb dX7_cut_163 hl (by decide) rfl (fun ls hl => ?_)
                  refine lv_iload hx hb dX7_cut_165 (lv_at hl 0 rfl) ?_
                  refine lv_iload_n hx hb dX7_cut_167 rfl (lv_at hl 5 rfl) ?_
                  refine lv_icmp_ge (tgt := 182) hx hb dX7_cut_168 (by decide) (fun c_168 => ?_) (fun c_168 => ?_)
                  · skip
                    have c_168 : x ≤ x9 := (nI_leI (a := x) (b := x9) (by omega) (by omega)).mp c_168
                    refine lv_iload hx hb dX7_cut_182 (lv_at hl 0 rfl) ?_
                    refine lv_iload hx hb dX7_cut_184 (lv_at hl 7 rfl) ?_
                    refine lv_icmp_lt (tgt := 245) hx hb dX7_cut_186 (by decide) (fun c_186 => ?_) (fun c_186 => ?_)
                    · skip
                      have c_186 : x9 < (x + yF y) := (nI_ltI (a := x9) (b := (x + yF y)) (by omega) (by omega)).mp c_186
                      have h6n := h6
                      have h7n := h7
                      have f6n : FLi K G1 (r, 36, ySc y) (tbF r (ySc y)) pl6 (pass ((sL (yS y i)).take (k + 1)) 0 0 x (sH (yS y i))) N1 := by rw [← pass_no c_130 hx9 hy9 (by show ¬ (0 ≤ x9 ∧ x9 - 0 < x ∧ 0 ≤ y9 ∧ y9 - 0 < (sH (yS y i))); omega)]; exact f6
                      have f7n : FLi K G1 (r, 36, ySc y + 1) (tbF r (ySc y + 1)) pl7 (pass ((sL (yS y i)).take (k + 1)) (x + yF y) 0 (sW (yS y i) - (x + yF y)) (sH (yS y i))) N1 := by rw [← pass_no c_130 hx9 hy9 (by show ¬ ((x + yF y) ≤ x9 ∧ x9 - (x + yF y) < (sW (yS y i) - (x + yF y)) ∧ 0 ≤ y9 ∧ y9 - 0 < (sH (yS y i))); omega)]; exact f7
                      have hofn := hof
                      refine lv_iinc (v := nI (k + 1)) (lv' := [(8, .int (nI (k + 1))), (10, .int (nI x9)), (9, .ref (Fu k)), (0, .ref (L 30 0)), (1, .int (nI i)), (2, .int (bI true)), (3, .int (nI x)), (4, .ref (L 35 i)), (5, .int (nI (x + yF y))), (6, .ref q6), (7, .ref q7)]) hx hb dX7_cut_245 hl (k := 10) rfl (nI_add _ 1) (by decide) rfl (fun ls hl => ?_)
                      refine lv_goto (tgt := 120) hx hb dX7_cut_248 (by decide) ?_
                      exact W.widen (by omega) (by omega) (ih q6 q7 pl6 pl7 (k + 1) N1 G1 H locs ls (by omega) (by omega) (by omega) h6n h7n f6n f7n hofn hI (lv_sub hl [3,4,5,6,7,8,9,10,0] rfl))
                    · skip
                      have c_186 : (x + yF y) ≤ x9 := Nat.not_lt.mp (fun z => c_186 ((nI_ltI (a := x9) (b := (x + yF y)) (by omega) (by omega)).mpr z))
                      refine lv_aload hx hb dX7_cut_189 (lv_at hl 9 rfl) ?_
                      refine g_get S hE hI (C := RX6) (T := TX6) (N := 6) (ref := "StonecutterYardModel$Slab") (fun w h => (List.mem_cons_of_mem _ (List.mem_append_left _ (List.mem_append_right _ h)))) h7 rfl 4 (by decide) (List.mem_cons_of_mem _ (List.mem_append_left _ (List.mem_append_left _ (List.mem_append_left _ (List.mem_append_left _ (List.mem_of_getElem? (i := 9) rfl)))))) (fun _ h9 => h9) (v := .ref pl7) rfl dX7_cut_191 ?_
                      refine lv_iload_n hx hb dX7_cut_194 rfl (lv_at hl 4 rfl) ?_
                      refine lv_if_eq (tgt := 221) hx hb dX7_cut_195 (by decide) (fun c_195 => ?_) (fun c_195 => ?_)
                      · skip
                        have c_195 : true = false := bI_0.mp c_195
                        exact absurd c_195 (by decide)
                      · skip
                        have c_195 : true = true := bI_1.mp c_195
                        refine lv_iconst (v := nI 2) hx hb dX7_cut_198 (by decide) ?_
                        refine g_newI S hE hI hA (List.mem_cons_of_mem _ (List.mem_append_left _ (List.mem_append_left _ (List.mem_append_left _ (List.mem_append_left _ (List.mem_of_getElem? (i := 11) rfl)))))) (N' := 2) rfl (by omega) (50, 0, N1) (by show _ ≤ 24; omega) (by show _ ≤ 270; omega) dX7_cut_199 (fun q_199 H hq_199 hI => ?_)
                        obtain ⟨G_4, hG_4⟩ : ∃ z, z = gset G1 (50, 0, N1) q_199 (.inl (K.2.1 0, 2, .inl (fun _ => 0))) := ⟨_, rfl⟩
                        have hI : gI K A s G_4 H locs := by rw [hG_4]; exact hI
                        have yd_G_4 : G_4 (r, 30, 0) = some ((L 30 0), .inr (8, [.ref (L 31 0), .ref (L 33 0), .int (nI (yF y))])) := by rw [hG_4, gset_ne (by simp [hr50])]; exact hyd1
                        have u_G_4 : G_4 (r, 35, i) = some ((L 35 i), .inr (7, [.int (nI (sW (yS y i))), .int (nI (sH (yS y i))), .int (nI (sG (yS y i))), .int (sF (yS y i)), .ref (L 36 i), .int (nI (sT (yS y i)))])) := by rw [hG_4, gset_ne (by simp [hr50])]; exact hsu1
                        have v6_G_4 : G_4 (r, 35, ySc y) = some (q6, .inr (7, [.int (nI x), .int (nI (sH (yS y i))), .int (nI (sG (yS y i))), .int (nI i), .ref pl6, .int (nI 0)])) := by rw [hG_4, gset_ne (by simp [hr50])]; exact h6
                        have v7_G_4 : G_4 (r, 35, ySc y + 1) = some (q7, .inr (7, [.int (nI (sW (yS y i) - (x + yF y))), .int (nI (sH (yS y i))), .int (nI (sG (yS y i))), .int (nI i), .ref pl7, .int (nI 0)])) := by rw [hG_4, gset_ne (by simp [hr50])]; exact h7
                        have lu_G_4 : G_4 (r, 36, i) = some ((L 36 i), .inr (0, [.int mu, .ref aru, .int (nI ((sL (yS y i)).length))])) := by rw [hG_4, gset_ne (by simp [hr50])]; exact hlu
                        have l6_G_4 : G_4 (r, 36, ySc y) = some (pl6, .inr (0, [.int mo6, .ref ar6, .int (nI ((pass ((sL (yS y i)).take k) 0 0 x (sH (yS y i))).length))])) := by rw [hG_4, gset_ne (by simp [hr50])]; exact hl6
                        have l7_G_4 : G_4 (r, 36, ySc y + 1) = some (pl7, .inr (0, [.int mo7, .ref ar7, .int (nI ((pass ((sL (yS y i)).take k) (x + yF y) 0 (sW (yS y i) - (x + yF y)) (sH (yS y i))).length))])) := by rw [hG_4, gset_ne (by simp [hr50])]; exact hl7
                        have ls_G_4 : G_4 (r, 31, 0) = some ((L 31 0), .inr (0, [.int m1, .ref ar1, .int (nI (ySc y))])) := by rw [hG_4, gset_ne (by simp [hr50])]; exact hls1
                        have f_G_4 : G_4 (50, 0, m9) = some ((Fu k), cI K 2 (gu k)) := by rw [hG_4, gset_ne (by simp <;> omega)]; exact hf9
                        have nf_G_4 : G_4 (50, 0, N1) = some (q_199, .inl (K.2.1 0, 2, .inl (fun _ => 0))) := by rw [hG_4]; exact gset_eq _ _ _ _
                        refine lv_dup hx hb dX7_cut_201 rfl ?_
                        refine lv_iconst (v := nI 0) hx hb dX7_cut_202 (by decide) ?_
                        refine lv_aload hx hb dX7_cut_203 (lv_at hl 1 rfl) ?_
                        refine lv_iconst (v := nI 0) hx hb dX7_cut_205 (by decide) ?_
                        refine g_iald S hE hI (j := 0) (f := (gu k)) f_G_4 rfl (by omega) (by decide) dX7_cut_206 ?_
                        refine W.eq (g2 := F0 m 207 ls [.int (nI x9), .int (nI 0), .ref q_199, .ref q_199, .ref pl7]) (by rw [hg0]) ?_
                        refine lv_iload hx hb dX7_cut_207 (lv_at hl 7 rfl) ?_
                        refine t_isub hx hb dX7_cut_209 (v := nI (x9 - (x + yF y))) (pk_sub (by omega)) ?_
                        refine g_iast S hE hI (j := 0) (f := (fun _ => 0)) nf_G_4 rfl (by omega) (Nat.le_of_ble_eq_true rfl) dX7_cut_210 (fun H locs hI => ?_)
                        have hI : gI K A s (gset G_4 (50, 0, N1) q_199 (.inl (K.2.1 0, 2, .inl (upd (fun _ => 0) 0 (nI (x9 - (x + yF y))))))) H locs := hI
                        obtain ⟨G_5, hG_5⟩ : ∃ z, z = gset G_4 (50, 0, N1) q_199 (.inl (K.2.1 0, 2, .inl (upd (fun _ => 0) 0 (nI (x9 - (x + yF y)))))) := ⟨_, rfl⟩
                        rw [← hG_5] at hI
                        have yd_G_5 : G_5 (r, 30, 0) = some ((L 30 0), .inr (8, [.ref (L 31 0), .ref (L 33 0), .int (nI (yF y))])) := by rw [hG_5, gset_ne (by simp [hr50])]; exact yd_G_4
                        have u_G_5 : G_5 (r, 35, i) = some ((L 35 i), .inr (7, [.int (nI (sW (yS y i))), .int (nI (sH (yS y i))), .int (nI (sG (yS y i))), .int (sF (yS y i)), .ref (L 36 i), .int (nI (sT (yS y i)))])) := by rw [hG_5, gset_ne (by simp [hr50])]; exact u_G_4
                        have v6_G_5 : G_5 (r, 35, ySc y) = some (q6, .inr (7, [.int (nI x), .int (nI (sH (yS y i))), .int (nI (sG (yS y i))), .int (nI i), .ref pl6, .int (nI 0)])) := by rw [hG_5, gset_ne (by simp [hr50])]; exact v6_G_4
                        have v7_G_5 : G_5 (r, 35, ySc y + 1) = some (q7, .inr (7, [.int (nI (sW (yS y i) - (x + yF y))), .int (nI (sH (yS y i))), .int (nI (sG (yS y i))), .int (nI i), .ref pl7, .int (nI 0)])) := by rw [hG_5, gset_ne (by simp [hr50])]; exact v7_G_4
                        have lu_G_5 : G_5 (r, 36, i) = some ((L 36 i), .inr (0, [.int mu, .ref aru, .int (nI ((sL (yS y i)).length))])) := by rw [hG_5, gset_ne (by simp [hr50])]; exact lu_G_4
                        have l6_G_5 : G_5 (r, 36, ySc y) = some (pl6, .inr (0, [.int mo6, .ref ar6, .int (nI ((pass ((sL (yS y i)).take k) 0 0 x (sH (yS y i))).length))])) := by rw [hG_5, gset_ne (by simp [hr50])]; exact l6_G_4
                        have l7_G_5 : G_5 (r, 36, ySc y + 1) = some (pl7, .inr (0, [.int mo7, .ref ar7, .int (nI ((pass ((sL (yS y i)).take k) (x + yF y) 0 (sW (yS y i) - (x + yF y)) (sH (yS y i))).length))])) := by rw [hG_5, gset_ne (by simp [hr50])]; exact l7_G_4
                        have ls_G_5 : G_5 (r, 31, 0) = some ((L 31 0), .inr (0, [.int m1, .ref ar1, .int (nI (ySc y))])) := by rw [hG_5, gset_ne (by simp [hr50])]; exact ls_G_4
                        have f_G_5 : G_5 (50, 0, m9) = some ((Fu k), cI K 2 (gu k)) := by rw [hG_5, gset_ne (by simp <;> omega)]; exact f_G_4
                        have nf_G_5 : G_5 (50, 0, N1) = some (q_199, .inl (K.2.1 0, 2, .inl (upd (fun _ => 0) 0 (nI (x9 - (x + yF y)))))) := by rw [hG_5]; exact gset_eq _ _ _ _
                        refine lv_dup hx hb dX7_cut_211 rfl ?_
                        refine lv_iconst (v := nI 1) hx hb dX7_cut_212 (by decide) ?_
                        refine lv_aload hx hb dX7_cut_213 (lv_at hl 1 rfl) ?_
                        refine lv_iconst (v := nI 1) hx hb dX7_cut_215 (by decide) ?_
                        refine g_iald S hE hI (j := 1) (f := (gu k)) f_G_5 rfl (by omega) (by decide) dX7_cut_216 ?_
                        refine W.eq (g2 := F0 m 217 ls [.int (nI y9), .int (nI 1), .ref q_199, .ref q_199, .ref pl7]) (by rw [hg1]) ?_
                        refine g_iast S hE hI (j := 1) (f := upd (fun _ => 0) 0 (nI (x9 - (x + yF y)))) nf_G_5 rfl (by omega) (Nat.le_of_ble_eq_true rfl) dX7_cut_217 (fun H locs hI => ?_)
                        have hI : gI K A s (gset G_5 (50, 0, N1) q_199 (.inl (K.2.1 0, 2, .inl (upd (upd (fun _ => 0) 0 (nI (x9 - (x + yF y)))) 1 (nI y9))))) H locs := hI
                        obtain ⟨G_6, hG_6⟩ : ∃ z, z = gset G_5 (50, 0, N1) q_199 (.inl (K.2.1 0, 2, .inl (upd (upd (fun _ => 0) 0 (nI (x9 - (x + yF y)))) 1 (nI y9)))) := ⟨_, rfl⟩
                        rw [← hG_6] at hI
                        have yd_G_6 : G_6 (r, 30, 0) = some ((L 30 0), .inr (8, [.ref (L 31 0), .ref (L 33 0), .int (nI (yF y))])) := by rw [hG_6, gset_ne (by simp [hr50])]; exact yd_G_5
                        have u_G_6 : G_6 (r, 35, i) = some ((L 35 i), .inr (7, [.int (nI (sW (yS y i))), .int (nI (sH (yS y i))), .int (nI (sG (yS y i))), .int (sF (yS y i)), .ref (L 36 i), .int (nI (sT (yS y i)))])) := by rw [hG_6, gset_ne (by simp [hr50])]; exact u_G_5
                        have v6_G_6 : G_6 (r, 35, ySc y) = some (q6, .inr (7, [.int (nI x), .int (nI (sH (yS y i))), .int (nI (sG (yS y i))), .int (nI i), .ref pl6, .int (nI 0)])) := by rw [hG_6, gset_ne (by simp [hr50])]; exact v6_G_5
                        have v7_G_6 : G_6 (r, 35, ySc y + 1) = some (q7, .inr (7, [.int (nI (sW (yS y i) - (x + yF y))), .int (nI (sH (yS y i))), .int (nI (sG (yS y i))), .int (nI i), .ref pl7, .int (nI 0)])) := by rw [hG_6, gset_ne (by simp [hr50])]; exact v7_G_5
                        have lu_G_6 : G_6 (r, 36, i) = some ((L 36 i), .inr (0, [.int mu, .ref aru, .int (nI ((sL (yS y i)).length))])) := by rw [hG_6, gset_ne (by simp [hr50])]; exact lu_G_5
                        have l6_G_6 : G_6 (r, 36, ySc y) = some (pl6, .inr (0, [.int mo6, .ref ar6, .int (nI ((pass ((sL (yS y i)).take k) 0 0 x (sH (yS y i))).length))])) := by rw [hG_6, gset_ne (by simp [hr50])]; exact l6_G_5
                        have l7_G_6 : G_6 (r, 36, ySc y + 1) = some (pl7, .inr (0, [.int mo7, .ref ar7, .int (nI ((pass ((sL (yS y i)).take k) (x + yF y) 0 (sW (yS y i) - (x + yF y)) (sH (yS y i))).length))])) := by rw [hG_6, gset_ne (by simp [hr50])]; exact l7_G_5
                        have ls_G_6 : G_6 (r, 31, 0) = some ((L 31 0), .inr (0, [.int m1, .ref ar1, .int (nI (ySc y))])) := by rw [hG_6, gset_ne (by simp [hr50])]; exact ls_G_5
                        have f_G_6 : G_6 (50, 0, m9) = some ((Fu k), cI K 2 (gu k)) := by rw [hG_6, gset_ne (by simp <;> omega)]; exact f_G_5
                        have nf_G_6 : G_6 (50, 0, N1) = some (q_199, .inl (K.2.1 0, 2, .inl (upd (upd (fun _ => 0) 0 (nI (x9 - (x + yF y)))) 1 (nI y9)))) := by rw [hG_6]; exact gset_eq _ _ _ _
                        refine lv_goto (tgt := 241) hx hb dX7_cut_218 (by decide) ?_
                        have hgt : G_6 = gset G1 (50, 0, N1) q_199 (cI K 2 (upd (upd (fun _ => 0) 0 (nI (x9 - (x + yF y)))) 1 (nI y9))) := by rw [hG_6, hG_5, hG_4, gset_gset, gset_gset]
                        have hw : ∀ v : gTag, v ≠ (50, 0, N1) → G_6 v = G1 v := fun v h9 => by rw [hgt, gset_ne h9]
                        have hALw : ALg K (r, 36, ySc y + 1) (tbF r (ySc y + 1)) G_6 pl7 (pass ((sL (yS y i)).take k) (x + yF y) 0 (sW (yS y i) - (x + yF y)) (sH (yS y i))).length F7 := hAL7.moved (hw _ (by simp [hr50])) (fun b => hw _ (by unfold tbF; simp [hr50]))
                        have hnew : G_6 (50, 0, N1) = some (q_199, cI K 2 (upd (upd (fun _ => 0) 0 (nI (x9 - (x + yF y)))) 1 (nI y9))) := by rw [hgt]; exact gset_eq _ _ _ _
                        refine g_callV (As := [.ref q_199]) (rest := []) (b := pl7) (n := 1) S hE hI hA (l_addS l K _ (r, 36, ySc y + 1) (tbF r (ySc y + 1)) pl7 (pass ((sL (yS y i)).take k) (x + yF y) 0 (sW (yS y i) - (x + yF y)) (sH (yS y i))).length F7 "[I" q_199 (50, 0, N1) _ hALw (apF r (ySc y + 1)) (by omega) hnew isC_I (by simp [Ne.symm hr50]) (fun b => by unfold tbF; simp [Ne.symm hr50])) gX7_cut_Jx4a65c_add_9ea2d rfl (by decide +kernel) ⟨Nat.le_of_ble_eq_true rfl, Nat.le_of_ble_eq_true rfl⟩ (g_hro hE hI l7_G_6 rfl) rfl hl.1 rfl (Nat.le_of_ble_eq_true rfl) dX7_cut_241 ⟨by show _ ≤ 24; omega, by show _ ≤ 270; omega⟩ (fun E ce q9 Gx H1 locs1 hx9 => hx9.elim) (fun rv Gc_241 H locs hp hI => ?_)
                        obtain ⟨rfl, hALn, ho⟩ := hp
                        have h58 : ∀ m, Gc_241 (50, 0, m) = G_6 (50, 0, m) := fun m => ho _ (by simp [Ne.symm hr50]) (fun b => by unfold tbF; simp [Ne.symm hr50])
                        have h59 : ∀ m, m < N1 → G_6 (50, 0, m) = G1 (50, 0, m) := fun m h9 => hw _ (by simp; omega)
                        have h6n := (ho (r, 35, ySc y) (by simp) (fun b => by unfold tbF; simp)).trans ((hw _ (by simp [hr50])).trans h6)
                        have h7n := (ho (r, 35, ySc y + 1) (by simp) (fun b => by unfold tbF; simp)).trans ((hw _ (by simp [hr50])).trans h7)
                        have f6n : FLi K Gc_241 (r, 36, ySc y) (tbF r (ySc y)) pl6 (pass ((sL (yS y i)).take (k + 1)) 0 0 x (sH (yS y i))) (N1 + 1) := by rw [← pass_no c_130 hx9 hy9 (by show ¬ (0 ≤ x9 ∧ x9 - 0 < x ∧ 0 ≤ y9 ∧ y9 - 0 < (sH (yS y i))); omega)]; exact (f6.moved ((ho _ (by simp) (fun b => by unfold tbF; simp)).trans (hw _ (by simp [hr50]))) (fun b9 => (ho _ (by unfold tbF; simp) (fun b => by unfold tbF; cases b <;> cases b9 <;> simp <;> omega)).trans (hw _ (by unfold tbF; simp [hr50]))) (fun m h9 => (h58 m).trans (h59 m h9))).more (Nat.le_succ _)
                        have f7n : FLi K Gc_241 (r, 36, ySc y + 1) (tbF r (ySc y + 1)) pl7 (pass ((sL (yS y i)).take (k + 1)) (x + yF y) 0 (sW (yS y i) - (x + yF y)) (sH (yS y i))) (N1 + 1) := by rw [← pass_yes c_130 hx9 hy9 (by show (x + yF y) ≤ x9 ∧ x9 - (x + yF y) < (sW (yS y i) - (x + yF y)) ∧ 0 ≤ y9 ∧ y9 - 0 < (sH (yS y i)); omega)]; exact FLi.add (a := (x9 - (x + yF y))) (b := (y9 - 0)) (by omega) e72 (fun j hj => by obtain ⟨m2, z1, z2, z3⟩ := hF7 j hj; exact ⟨m2, by omega, (h59 m2 z1).trans z2, z3⟩) hALn ho (Nat.lt_succ_self _) hnew rfl rfl (by omega) (by show r ≠ 50; exact hr50) (fun b => hr50)
                        have hofn : ∀ v, offC r (ySc y) N v → Gc_241 v = G v := fun v hv => (ho v hv.2.2.2.1 hv.2.2.2.2.2.1).trans ((hw v (hv.2.2.2.2.2.2 N1 hN.1)).trans (hof v hv))
                        refine W.eq (g2 := F0 m 244 ls [.int (nI 1)]) rfl ?_
                        refine lv_pop hx hb dX7_cut_244 rfl ?_
                        refine lv_iinc (v := nI (k + 1)) (lv' := [(8, .int (nI (k + 1))), (10, .int (nI x9)), (9, .ref (Fu k)), (0, .ref (L 30 0)), (1, .int (nI i)), (2, .int (bI true)), (3, .int (nI x)), (4, .ref (L 35 i)), (5, .int (nI (x + yF y))), (6, .ref q6), (7, .ref q7)]) hx hb dX7_cut_245 hl (k := 10) rfl (nI_add _ 1) (by decide) rfl (fun ls hl => ?_)
                        refine lv_goto (tgt := 120) hx hb dX7_cut_248 (by decide) ?_
                        exact W.widen (by omega) (by omega) (ih q6 q7 pl6 pl7 (k + 1) (N1 + 1) Gc_241 H locs ls (by omega) (by omega) (by omega) h6n h7n f6n f7n hofn hI (lv_sub hl [3,4,5,6,7,8,9,10,0] rfl))
                  · skip
                    have c_168 : x9 < x := Nat.not_le.mp (fun z => c_168 ((nI_leI (a := x) (b := x9) (by omega) (by omega)).mpr z))
                    refine lv_aload hx hb dX7_cut_171 (lv_at hl 8 rfl) ?_
                    refine g_get S hE hI (C := RX6) (T := TX6) (N := 6) (ref := "StonecutterYardModel$Slab") (fun w h => (List.mem_cons_of_mem _ (List.mem_append_left _ (List.mem_append_right _ h)))) h6 rfl 4 (by decide) (List.mem_cons_of_mem _ (List.mem_append_left _ (List.mem_append_left _ (List.mem_append_left _ (List.mem_append_left _ (List.mem_of_getElem? (i := 9) rfl)))))) (fun _ h9 => h9) (v := .ref pl6) rfl dX7_cut_173 ?_
                    refine lv_aload hx hb dX7_cut_176 (lv_at hl 1 rfl) ?_
                    refine g_callV (As := [.ref (Fu k)]) (rest := []) (b := pl6) (n := 1) S hE hI hA (l_addS l K _ (r, 36, ySc y) (tbF r (ySc y)) pl6 (pass ((sL (yS y i)).take k) 0 0 x (sH (yS y i))).length F6 "[I" (Fu k) (50, 0, m9) _ hAL6 (apF r (ySc y)) (by omega) hf9 isC_I (by simp [Ne.symm hr50]) (fun b => by unfold tbF; simp [Ne.symm hr50])) gX7_cut_Jx4a65c_add_9ea2d rfl (by decide +kernel) ⟨Nat.le_of_ble_eq_true rfl, Nat.le_of_ble_eq_true rfl⟩ (g_hro hE hI hl6 rfl) rfl hl.1 rfl (Nat.le_of_ble_eq_true rfl) dX7_cut_178 ⟨by show _ ≤ 24; omega, by show _ ≤ 270; omega⟩ (fun E ce q9 Gx H1 locs1 hx9 => hx9.elim) (fun rv Gc_178 H locs hp hI => ?_)
                    obtain ⟨rfl, hALn, ho⟩ := hp
                    have h6n := (ho (r, 35, ySc y) (by simp) (fun b => by unfold tbF; simp)).trans h6
                    have h7n := (ho (r, 35, ySc y + 1) (by simp) (fun b => by unfold tbF; simp)).trans h7
                    have hu8 := (ho (r, 35, i) (by simp) (fun b => by unfold tbF; simp)).trans hsu1
                    have hy8 := (ho (r, 30, 0) (by simp) (fun b => by unfold tbF; simp)).trans hyd1
                    have hlu8 := (ho (r, 36, i) (by simp; omega) (fun b => by unfold tbF; simp)).trans hlu
                    have h58 : ∀ m, Gc_178 (50, 0, m) = G1 (50, 0, m) := fun m => ho _ (by simp [Ne.symm hr50]) (fun b => by unfold tbF; simp [Ne.symm hr50])
                    have hf8 := (h58 m9).trans hf9
                    have f6n : FLi K Gc_178 (r, 36, ySc y) (tbF r (ySc y)) pl6 (pass ((sL (yS y i)).take (k + 1)) 0 0 x (sH (yS y i))) N1 := by rw [← pass_yes c_130 hx9 hy9 (by show 0 ≤ x9 ∧ x9 - 0 < x ∧ 0 ≤ y9 ∧ y9 - 0 < (sH (yS y i)); omega), Nat.sub_zero, Nat.sub_zero]; exact FLi.add (by omega) e62 hF6 hALn ho (by omega) hf9 hg0 hg1 hb9 (by show r ≠ 50; exact hr50) (fun b => hr50)
                    have f7n : FLi K Gc_178 (r, 36, ySc y + 1) (tbF r (ySc y + 1)) pl7 (pass ((sL (yS y i)).take (k + 1)) (x + yF y) 0 (sW (yS y i) - (x + yF y)) (sH (yS y i))) N1 := by rw [← pass_no c_130 hx9 hy9 (by show ¬ ((x + yF y) ≤ x9 ∧ x9 - (x + yF y) < (sW (yS y i) - (x + yF y)) ∧ 0 ≤ y9 ∧ y9 - 0 < (sH (yS y i))); omega)]; exact f7.moved (ho _ (by simp) (fun b => by unfold tbF; simp)) (fun b9 => ho _ (by unfold tbF; simp) (fun b => by unfold tbF; cases b <;> cases b9 <;> simp <;> omega)) (fun m _ => h58 m)
                    have hofn : ∀ v, offC r (ySc y) N v → Gc_178 v = G v := fun v hv => (ho v hv.2.2.1 hv.2.2.2.2.1).trans (hof v hv)
                    refine W.eq (g2 := F0 m 181 ls [.int (nI 1)]) rfl ?_
                    refine lv_pop hx hb dX7_cut_181 rfl ?_
                    refine lv_iload hx hb dX7_cut_182 (lv_at hl 0 rfl) ?_
                    refine lv_iload hx hb dX7_cut_184 (lv_at hl 7 rfl) ?_
                    refine lv_icmp_lt (tgt := 245) hx hb dX7_cut_186 (by decide) (fun c_186 => ?_) (fun c_186 => ?_)
                    · skip
                      have c_186 : x9 < (x + yF y) := (nI_ltI (a := x9) (b := (x + yF y)) (by omega) (by omega)).mp c_186
                      refine lv_iinc (v := nI (k + 1)) (lv' := [(8, .int (nI (k + 1))), (10, .int (nI x9)), (9, .ref (Fu k)), (0, .ref (L 30 0)), (1, .int (nI i)), (2, .int (bI true)), (3, .int (nI x)), (4, .ref (L 35 i)), (5, .int (nI (x + yF y))), (6, .ref q6), (7, .ref q7)]) hx hb dX7_cut_245 hl (k := 10) rfl (nI_add _ 1) (by decide) rfl (fun ls hl => ?_)
                      refine lv_goto (tgt := 120) hx hb dX7_cut_248 (by decide) ?_
                      exact W.widen (by omega) (by omega) (ih q6 q7 pl6 pl7 (k + 1) N1 Gc_178 H locs ls (by omega) (by omega) (by omega) h6n h7n f6n f7n hofn hI (lv_sub hl [3,4,5,6,7,8,9,10,0] rfl))
                    · skip
                      have c_186 : (x + yF y) ≤ x9 := Nat.not_lt.mp (fun z => c_186 ((nI_ltI (a := x9) (b := (x + yF y)) (by omega) (by omega)).mpr z))
                      exact absurd c_186 (by omega)
          exact W.widen (by omega) (by omega) (L120 _ q_21 q_62 pl6 pl7 0 N Gc_112 H locs ls (Nat.lt_succ_self _) (Nat.zero_le _) ⟨Nat.le_refl _, Nat.le_refl _⟩ v6_c112 v7_c112 (by rw [List.take_zero]; exact FLi.nil lv6_c112) (by rw [List.take_zero]; exact FLi.nil lv7_c112) hof0 hI (lv_sub hl [5,6,7,8,4,3,2,1,0] rfl))
set_option maxHeartbeats 4000000 in
set_option maxRecDepth 100000 in
/-- Yard.cut(slab, false, place) -/
theorem c_mcutA (l : Launch) (K : gK) (G : gW) (r : Nat) (L : Nat → Nat → Nat) (y : YV) (N : Nat) (i x : Nat) (hm : MY K r L G y N) (hi : i < ySc y) (hcan : canC (yLen (yS y i) false) (yF y) x = true) (hsc : ySc y ≤ 42) (hr50 : r ≠ 50) : gM l yX7_cut wsX7_cut 8 171 24 270 K [.ref (L 30 0), .int (nI i), .int (bI false), .int (nI x)] G (fun r9 G1 => ∃ L2 N2, r9 = some (.int (nI (ySc y))) ∧ MY K r L2 G1 (yCut y i false x) N2 ∧ N ≤ N2 ∧ (∀ k j, (k ≠ 35 ∧ k ≠ 36) ∨ j < ySc y → L2 k j = L k j) ∧ (∀ v : gTag, v.1 ≠ r → v.1 ≠ 50 → G1 v = G v) ∧ ∀ m, m < N → G1 (50, 0, m) = G (50, 0, m)) (gNo) := by
  refine gM.of (cc := cX7_cut) (maxL := 11) (ret := (some .int)) (by decide) rfl (Nat.le_of_ble_eq_true rfl) ?_
  intro p e s m below meth c A S hr hlocks htab hname hE hA hI ls hl
  have hx := S.1
  have hb := S.2.1
  have hml := S.2.2.1
  have hl : lv_has ls 11 [(0, .ref (L 30 0)), (1, .int (nI i)), (2, .int (bI false)), (3, .int (nI x))] := hl
  have h44 := hm.1.2.2.1
  have h6 := hm.1.2.2.2
  have hf2 := hm.1.2.1
  obtain ⟨m1, ar1, hl1⟩ := hm.2.1.obj
  have hyd0 := hm.1.1
  obtain ⟨hsu0, hflu, hsok⟩ := hm.2.2.2.1 i hi
  obtain ⟨s1, s2, s3, s4, s5, s6, s7, s8⟩ := id hsok
  have hcn : 1 ≤ x ∧ x + yF y < sH (yS y i) := of_decide_eq_true hcan
  obtain ⟨H, hHe⟩ : ∃ z, z = s.heap := ⟨_, rfl⟩
  obtain ⟨locs, hLe⟩ : ∃ z : List Loc, z = [] := ⟨_, rfl⟩
  rw [← hHe, ← hLe]
  have hI : gI K A s G H locs := by rw [hHe, hLe]; exact hI
  clear hHe hLe
  refine lv_aload_n hx hb dX7_cut_0 rfl (lv_at hl 0 rfl) ?_
  refine g_get S hE hI (C := RX7) (T := TX7) (N := 3) (ref := "StonecutterYardModel$Yard") (fun w h => (List.mem_cons_of_mem _ (List.mem_append_left _ (List.mem_append_left _ (List.mem_append_right _ h))))) hyd0 rfl 0 (by decide) (List.mem_cons_of_mem _ (List.mem_append_left _ (List.mem_append_left _ (List.mem_append_left _ (List.mem_append_left _ (List.mem_of_getElem? (i := 0) rfl)))))) (fun _ h9 => h9) (v := .ref (L 31 0)) rfl dX7_cut_1 ?_
  refine lv_iload_n hx hb dX7_cut_4 rfl (lv_at hl 1 rfl) ?_
  refine g_callV (As := [.int (nI i)]) (rest := []) (b := (L 31 0)) (n := 1) S hE hI hA (l_get l K _ (r, 31, 0) (tbL r 32) (L 31 0) (ySc y) (L 35) i hm.2.1 hi) gX7_cut_Jx4a65c_get_915e3 rfl (by decide +kernel) ⟨Nat.le_of_ble_eq_true rfl, Nat.le_of_ble_eq_true rfl⟩ (g_hro hE hI hl1 rfl) rfl hl.1 rfl (Nat.le_of_ble_eq_true rfl) dX7_cut_5 ⟨Nat.le_of_ble_eq_true rfl, Nat.le_of_ble_eq_true rfl⟩ (fun E ce q9 Gx H1 locs1 hx9 => hx9.elim) (fun rv Gc_5 H locs hp hI => ?_)
  obtain ⟨rfl, hq9⟩ := hp
  rw [hq9] at hI
  refine W.eq (g2 := F0 m 8 ls [.ref (L 35 i)]) rfl ?_
  refine g_cast S (List.mem_cons_of_mem _ (List.mem_append_left _ (List.mem_append_left _ (List.mem_append_left _ (List.mem_append_left _ (List.mem_of_getElem? (i := 1) rfl)))))) (g_hro hE hI hsu0 rfl) dX7_cut_8 ?_
  refine lv_astore (lv' := [(4, .ref (L 35 i)), (0, .ref (L 30 0)), (1, .int (nI i)), (2, .int (bI false)), (3, .int (nI x))]) hx hb dX7_cut_11 hl (by decide) rfl (fun ls hl => ?_)
  refine lv_iload_n hx hb dX7_cut_13 rfl (lv_at hl 4 rfl) ?_
  refine lv_aload_n hx hb dX7_cut_14 rfl (lv_at hl 1 rfl) ?_
  refine g_get S hE hI (C := RX7) (T := TX7) (N := 3) (ref := "StonecutterYardModel$Yard") (fun w h => (List.mem_cons_of_mem _ (List.mem_append_left _ (List.mem_append_left _ (List.mem_append_right _ h))))) hyd0 rfl 2 (by decide) (List.mem_cons_of_mem _ (List.mem_append_left _ (List.mem_append_left _ (List.mem_append_left _ (List.mem_append_left _ (List.mem_of_getElem? (i := 2) rfl)))))) (fun _ h9 => h9) (v := .int (nI (yF y))) rfl dX7_cut_15 ?_
  refine t_iadd hx hb dX7_cut_18 (nI_add _ _) ?_
  refine lv_istore (lv' := [(5, .int (nI (x + (yF y)))), (4, .ref (L 35 i)), (0, .ref (L 30 0)), (1, .int (nI i)), (2, .int (bI false)), (3, .int (nI x))]) hx hb dX7_cut_19 hl (by decide) rfl (fun ls hl => ?_)
  refine g_new S hE hI hA (C := RX6) (T := TX6) (N := 6) (ci := 7) (fun w h => (List.mem_cons_of_mem _ (List.mem_append_left _ (List.mem_append_right _ h)))) tyX6 tyX6_ok (List.mem_cons_of_mem _ (List.mem_append_left _ (List.mem_append_left _ (List.mem_append_left _ (List.mem_append_left _ (List.mem_of_getElem? (i := 1) rfl)))))) (List.mem_cons_of_mem _ (List.mem_append_left _ (List.mem_append_left _ (List.mem_append_left _ (List.mem_append_left _ (List.mem_of_getElem? (i := 4) rfl)))))) (List.mem_cons_of_mem _ (List.mem_append_left _ (List.mem_append_left _ (List.mem_append_left _ (List.mem_append_left _ (List.mem_of_getElem? (i := 5) rfl)))))) rfl (fs := [.int (nI 0), .int (nI 0), .int (nI 0), .int (nI 0), .null, .int (nI 0)]) (fun j hj => by rcases (show j = 0 ∨ j = 1 ∨ j = 2 ∨ j = 3 ∨ j = 4 ∨ j = 5 by omega) with rfl | rfl | rfl | rfl | rfl | rfl <;> rfl) (r, 35, ySc y) (by show _ ≤ 24; omega) (by show _ ≤ 270; omega) dX7_cut_21 (fun q_21 H hq_21 hI => ?_)
  obtain ⟨G_1, hG_1⟩ : ∃ z, z = gset G (r, 35, ySc y) q_21 (.inr (7, [.int (nI 0), .int (nI 0), .int (nI 0), .int (nI 0), .null, .int (nI 0)])) := ⟨_, rfl⟩
  have hI : gI K A s G_1 H locs := by rw [hG_1]; exact hI
  have yd_G_1 : G_1 (r, 30, 0) = some ((L 30 0), .inr (8, [.ref (L 31 0), .ref (L 33 0), .int (nI (yF y))])) := by rw [hG_1, gset_ne (by simp <;> omega)]; exact hyd0
  have ls_G_1 : G_1 (r, 31, 0) = some ((L 31 0), .inr (0, [.int m1, .ref ar1, .int (nI (ySc y))])) := by rw [hG_1, gset_ne (by simp <;> omega)]; exact hl1
  have u_G_1 : G_1 (r, 35, i) = some ((L 35 i), .inr (7, [.int (nI (sW (yS y i))), .int (nI (sH (yS y i))), .int (nI (sG (yS y i))), .int (sF (yS y i)), .ref (L 36 i), .int (nI (sT (yS y i)))])) := by rw [hG_1, gset_ne (by simp <;> omega)]; exact hsu0
  have v6_G_1 : G_1 (r, 35, ySc y) = some (q_21, .inr (7, [.int (nI 0), .int (nI 0), .int (nI 0), .int (nI 0), .null, .int (nI 0)])) := by rw [hG_1]; exact gset_eq _ _ _ _
  refine lv_dup hx hb dX7_cut_24 rfl ?_
  refine lv_iload_n hx hb dX7_cut_25 rfl (lv_at hl 4 rfl) ?_
  refine lv_if_eq (tgt := 33) hx hb dX7_cut_26 (by decide) (fun c_26 => ?_) (fun c_26 => ?_)
  · skip
    have c_26 : false = false := bI_0.mp c_26
    refine lv_aload hx hb dX7_cut_33 (lv_at hl 1 rfl) ?_
    refine g_get S hE hI (C := RX6) (T := TX6) (N := 6) (ref := "StonecutterYardModel$Slab") (fun w h => (List.mem_cons_of_mem _ (List.mem_append_left _ (List.mem_append_right _ h)))) u_G_1 rfl 0 (by decide) (List.mem_cons_of_mem _ (List.mem_append_left _ (List.mem_append_left _ (List.mem_append_left _ (List.mem_append_left _ (List.mem_of_getElem? (i := 6) rfl)))))) (fun _ h9 => h9) (v := .int (nI (sW (yS y i)))) rfl dX7_cut_35 ?_
    refine lv_iload_n hx hb dX7_cut_38 rfl (lv_at hl 4 rfl) ?_
    refine lv_if_eq (tgt := 50) hx hb dX7_cut_39 (by decide) (fun c_39 => ?_) (fun c_39 => ?_)
    · skip
      have c_39 : false = false := bI_0.mp c_39
      refine lv_iload_n hx hb dX7_cut_50 rfl (lv_at hl 5 rfl) ?_
      refine lv_aload hx hb dX7_cut_51 (lv_at hl 1 rfl) ?_
      refine g_get S hE hI (C := RX6) (T := TX6) (N := 6) (ref := "StonecutterYardModel$Slab") (fun w h => (List.mem_cons_of_mem _ (List.mem_append_left _ (List.mem_append_right _ h)))) u_G_1 rfl 2 (by decide) (List.mem_cons_of_mem _ (List.mem_append_left _ (List.mem_append_left _ (List.mem_append_left _ (List.mem_append_left _ (List.mem_of_getElem? (i := 8) rfl)))))) (fun _ h9 => h9) (v := .int (nI (sG (yS y i)))) rfl dX7_cut_53 ?_
      refine lv_iload_n hx hb dX7_cut_56 rfl (lv_at hl 3 rfl) ?_
      refine g_callI (As := [.int (nI (sW (yS y i))), .int (nI x), .int (nI (sG (yS y i))), .int (nI i)]) (rest := [.ref q_21]) (b := q_21) (n := 4) S hE hI hA (c_X6_init l K _ (r, 35, ySc y) (r, 36, ySc y) q_21 (sW (yS y i)) x (sG (yS y i)) (nI i) v6_G_1 (by simp)) gX7_cut_X6_init rfl (List.mem_cons_of_mem _ (List.mem_append_left _ (List.mem_append_left _ (List.mem_append_left _ (List.mem_append_left _ (List.mem_of_getElem? (i := 5) rfl)))))) (List.mem_cons_of_mem _ (List.mem_append_left _ (List.mem_append_left _ (List.mem_append_left _ (List.mem_append_right _ (List.mem_append_left _ (List.mem_of_getElem? (i := 8) rfl))))))) (List.mem_cons_of_mem _ (List.mem_append_left _ (List.mem_append_left _ (List.mem_append_left _ (List.mem_append_right _ (List.mem_append_left _ (List.mem_of_getElem? (i := 9) rfl))))))) rfl (by decide +kernel) ⟨Nat.le_of_ble_eq_true rfl, Nat.le_of_ble_eq_true rfl⟩ rfl hl.1 rfl (Nat.le_of_ble_eq_true rfl) dX7_cut_57 ⟨by show _ ≤ 24; omega, by show _ ≤ 270; omega⟩ (fun E ce q9 Gx H1 locs1 hx9 => hx9.elim) (fun rv Gc_57 H locs hp hI => ?_)
      obtain ⟨rfl, pl6, hGc57⟩ := hp
      have yd_c57 : Gc_57 (r, 30, 0) = some ((L 30 0), .inr (8, [.ref (L 31 0), .ref (L 33 0), .int (nI (yF y))])) := by rw [hGc57, gset_ne (by simp; try omega), gset_ne (by simp; try omega)]; exact yd_G_1
      have ls_c57 : Gc_57 (r, 31, 0) = some ((L 31 0), .inr (0, [.int m1, .ref ar1, .int (nI (ySc y))])) := by rw [hGc57, gset_ne (by simp; try omega), gset_ne (by simp; try omega)]; exact ls_G_1
      have u_c57 : Gc_57 (r, 35, i) = some ((L 35 i), .inr (7, [.int (nI (sW (yS y i))), .int (nI (sH (yS y i))), .int (nI (sG (yS y i))), .int (sF (yS y i)), .ref (L 36 i), .int (nI (sT (yS y i)))])) := by rw [hGc57, gset_ne (by simp; try omega), gset_ne (by simp; try omega)]; exact u_G_1
      have v6_c57 : Gc_57 (r, 35, ySc y) = some (q_21, cMS ((sW (yS y i)), x, sG (yS y i), nI i, 0, []) pl6) := by rw [hGc57]; exact gset_eq _ _ _ _
      have lv6_c57 : Gc_57 (r, 36, ySc y) = some (pl6, cL (nI 0) K.2.2.1 0) := by rw [hGc57, gset_ne (by simp)]; exact gset_eq _ _ _ _
      refine W.eq (g2 := F0 m 60 ls [.ref q_21]) rfl ?_
      refine lv_astore (lv' := [(6, .ref q_21), (5, .int (nI (x + (yF y)))), (4, .ref (L 35 i)), (0, .ref (L 30 0)), (1, .int (nI i)), (2, .int (bI false)), (3, .int (nI x))]) hx hb dX7_cut_60 hl (by decide) rfl (fun ls hl => ?_)
      refine g_new S hE hI hA (C := RX6) (T := TX6) (N := 6) (ci := 7) (fun w h => (List.mem_cons_of_mem _ (List.mem_append_left _ (List.mem_append_right _ h)))) tyX6 tyX6_ok (List.mem_cons_of_mem _ (List.mem_append_left _ (List.mem_append_left _ (List.mem_append_left _ (List.mem_append_left _ (List.mem_of_getElem? (i := 1) rfl)))))) (List.mem_cons_of_mem _ (List.mem_append_left _ (List.mem_append_left _ (List.mem_append_left _ (List.mem_append_left _ (List.mem_of_getElem? (i := 4) rfl)))))) (List.mem_cons_of_mem _ (List.mem_append_left _ (List.mem_append_left _ (List.mem_append_left _ (List.mem_append_left _ (List.mem_of_getElem? (i := 5) rfl)))))) rfl (fs := [.int (nI 0), .int (nI 0), .int (nI 0), .int (nI 0), .null, .int (nI 0)]) (fun j hj => by rcases (show j = 0 ∨ j = 1 ∨ j = 2 ∨ j = 3 ∨ j = 4 ∨ j = 5 by omega) with rfl | rfl | rfl | rfl | rfl | rfl <;> rfl) (r, 35, ySc y + 1) (by show _ ≤ 24; omega) (by show _ ≤ 270; omega) dX7_cut_62 (fun q_62 H hq_62 hI => ?_)
      obtain ⟨G_2, hG_2⟩ : ∃ z, z = gset Gc_57 (r, 35, ySc y + 1) q_62 (.inr (7, [.int (nI 0), .int (nI 0), .int (nI 0), .int (nI 0), .null, .int (nI 0)])) := ⟨_, rfl⟩
      have hI : gI K A s G_2 H locs := by rw [hG_2]; exact hI
      have yd_G_2 : G_2 (r, 30, 0) = some ((L 30 0), .inr (8, [.ref (L 31 0), .ref (L 33 0), .int (nI (yF y))])) := by rw [hG_2, gset_ne (by simp <;> omega)]; exact yd_c57
      have ls_G_2 : G_2 (r, 31, 0) = some ((L 31 0), .inr (0, [.int m1, .ref ar1, .int (nI (ySc y))])) := by rw [hG_2, gset_ne (by simp <;> omega)]; exact ls_c57
      have u_G_2 : G_2 (r, 35, i) = some ((L 35 i), .inr (7, [.int (nI (sW (yS y i))), .int (nI (sH (yS y i))), .int (nI (sG (yS y i))), .int (sF (yS y i)), .ref (L 36 i), .int (nI (sT (yS y i)))])) := by rw [hG_2, gset_ne (by simp <;> omega)]; exact u_c57
      have v6_G_2 : G_2 (r, 35, ySc y) = some (q_21, .inr (7, [.int (nI (sW (yS y i))), .int (nI x), .int (nI (sG (yS y i))), .int (nI i), .ref pl6, .int (nI 0)])) := by rw [hG_2, gset_ne (by simp <;> omega)]; exact v6_c57
      have lv6_G_2 : G_2 (r, 36, ySc y) = some (pl6, .inr (0, [.int (nI 0), .ref K.2.2.1, .int (nI 0)])) := by rw [hG_2, gset_ne (by simp <;> omega)]; exact lv6_c57
      have v7_G_2 : G_2 (r, 35, ySc y + 1) = some (q_62, .inr (7, [.int (nI 0), .int (nI 0), .int (nI 0), .int (nI 0), .null, .int (nI 0)])) := by rw [hG_2]; exact gset_eq _ _ _ _
      refine lv_dup hx hb dX7_cut_65 rfl ?_
      refine lv_iload_n hx hb dX7_cut_66 rfl (lv_at hl 5 rfl) ?_
      refine lv_if_eq (tgt := 81) hx hb dX7_cut_67 (by decide) (fun c_67 => ?_) (fun c_67 => ?_)
      · skip
        have c_67 : false = false := bI_0.mp c_67
        refine lv_aload hx hb dX7_cut_81 (lv_at hl 2 rfl) ?_
        refine g_get S hE hI (C := RX6) (T := TX6) (N := 6) (ref := "StonecutterYardModel$Slab") (fun w h => (List.mem_cons_of_mem _ (List.mem_append_left _ (List.mem_append_right _ h)))) u_G_2 rfl 0 (by decide) (List.mem_cons_of_mem _ (List.mem_append_left _ (List.mem_append_left _ (List.mem_append_left _ (List.mem_append_left _ (List.mem_of_getElem? (i := 6) rfl)))))) (fun _ h9 => h9) (v := .int (nI (sW (yS y i)))) rfl dX7_cut_83 ?_
        refine lv_iload_n hx hb dX7_cut_86 rfl (lv_at hl 5 rfl) ?_
        refine lv_if_eq (tgt := 98) hx hb dX7_cut_87 (by decide) (fun c_87 => ?_) (fun c_87 => ?_)
        · skip
          have c_87 : false = false := bI_0.mp c_87
          refine lv_aload hx hb dX7_cut_98 (lv_at hl 2 rfl) ?_
          refine g_get S hE hI (C := RX6) (T := TX6) (N := 6) (ref := "StonecutterYardModel$Slab") (fun w h => (List.mem_cons_of_mem _ (List.mem_append_left _ (List.mem_append_right _ h)))) u_G_2 rfl 1 (by decide) (List.mem_cons_of_mem _ (List.mem_append_left _ (List.mem_append_left _ (List.mem_append_left _ (List.mem_append_left _ (List.mem_of_getElem? (i := 7) rfl)))))) (fun _ h9 => h9) (v := .int (nI (sH (yS y i)))) rfl dX7_cut_100 ?_
          refine lv_iload hx hb dX7_cut_103 (lv_at hl 1 rfl) ?_
          refine t_isub hx hb dX7_cut_105 (v := nI (sH (yS y i) - (x + yF y))) (pk_sub (by omega)) ?_
          refine lv_aload hx hb dX7_cut_106 (lv_at hl 2 rfl) ?_
          refine g_get S hE hI (C := RX6) (T := TX6) (N := 6) (ref := "StonecutterYardModel$Slab") (fun w h => (List.mem_cons_of_mem _ (List.mem_append_left _ (List.mem_append_right _ h)))) u_G_2 rfl 2 (by decide) (List.mem_cons_of_mem _ (List.mem_append_left _ (List.mem_append_left _ (List.mem_append_left _ (List.mem_append_left _ (List.mem_of_getElem? (i := 8) rfl)))))) (fun _ h9 => h9) (v := .int (nI (sG (yS y i)))) rfl dX7_cut_108 ?_
          refine lv_iload_n hx hb dX7_cut_111 rfl (lv_at hl 4 rfl) ?_
          refine g_callI (As := [.int (nI (sW (yS y i))), .int (nI (sH (yS y i) - (x + yF y))), .int (nI (sG (yS y i))), .int (nI i)]) (rest := [.ref q_62]) (b := q_62) (n := 4) S hE hI hA (c_X6_init l K _ (r, 35, ySc y + 1) (r, 36, ySc y + 1) q_62 (sW (yS y i)) (sH (yS y i) - (x + yF y)) (sG (yS y i)) (nI i) v7_G_2 (by simp)) gX7_cut_X6_init rfl (List.mem_cons_of_mem _ (List.mem_append_left _ (List.mem_append_left _ (List.mem_append_left _ (List.mem_append_left _ (List.mem_of_getElem? (i := 5) rfl)))))) (List.mem_cons_of_mem _ (List.mem_append_left _ (List.mem_append_left _ (List.mem_append_left _ (List.mem_append_right _ (List.mem_append_left _ (List.mem_of_getElem? (i := 8) rfl))))))) (List.mem_cons_of_mem _ (List.mem_append_left _ (List.mem_append_left _ (List.mem_append_left _ (List.mem_append_right _ (List.mem_append_left _ (List.mem_of_getElem? (i := 9) rfl))))))) rfl (by decide +kernel) ⟨Nat.le_of_ble_eq_true rfl, Nat.le_of_ble_eq_true rfl⟩ rfl hl.1 rfl (Nat.le_of_ble_eq_true rfl) dX7_cut_112 ⟨by show _ ≤ 24; omega, by show _ ≤ 270; omega⟩ (fun E ce q9 Gx H1 locs1 hx9 => hx9.elim) (fun rv Gc_112 H locs hp hI => ?_)
          obtain ⟨rfl, pl7, hGc112⟩ := hp
          have yd_c112 : Gc_112 (r, 30, 0) = some ((L 30 0), .inr (8, [.ref (L 31 0), .ref (L 33 0), .int (nI (yF y))])) := by rw [hGc112, gset_ne (by simp; try omega), gset_ne (by simp; try omega)]; exact yd_G_2
          have ls_c112 : Gc_112 (r, 31, 0) = some ((L 31 0), .inr (0, [.int m1, .ref ar1, .int (nI (ySc y))])) := by rw [hGc112, gset_ne (by simp; try omega), gset_ne (by simp; try omega)]; exact ls_G_2
          have u_c112 : Gc_112 (r, 35, i) = some ((L 35 i), .inr (7, [.int (nI (sW (yS y i))), .int (nI (sH (yS y i))), .int (nI (sG (yS y i))), .int (sF (yS y i)), .ref (L 36 i), .int (nI (sT (yS y i)))])) := by rw [hGc112, gset_ne (by simp; try omega), gset_ne (by simp; try omega)]; exact u_G_2
          have v6_c112 : Gc_112 (r, 35, ySc y) = some (q_21, .inr (7, [.int (nI (sW (yS y i))), .int (nI x), .int (nI (sG (yS y i))), .int (nI i), .ref pl6, .int (nI 0)])) := by rw [hGc112, gset_ne (by simp; try omega), gset_ne (by simp; try omega)]; exact v6_G_2
          have lv6_c112 : Gc_112 (r, 36, ySc y) = some (pl6, .inr (0, [.int (nI 0), .ref K.2.2.1, .int (nI 0)])) := by rw [hGc112, gset_ne (by simp; try omega), gset_ne (by simp; try omega)]; exact lv6_G_2
          have v7_c112 : Gc_112 (r, 35, ySc y + 1) = some (q_62, cMS ((sW (yS y i)), (sH (yS y i) - (x + yF y)), sG (yS y i), nI i, 0, []) pl7) := by rw [hGc112]; exact gset_eq _ _ _ _
          have lv7_c112 : Gc_112 (r, 36, ySc y + 1) = some (pl7, cL (nI 0) K.2.2.1 0) := by rw [hGc112, gset_ne (by simp)]; exact gset_eq _ _ _ _
          refine W.eq (g2 := F0 m 115 ls [.ref q_62]) rfl ?_
          refine lv_astore (lv' := [(7, .ref q_62), (6, .ref q_21), (5, .int (nI (x + (yF y)))), (4, .ref (L 35 i)), (0, .ref (L 30 0)), (1, .int (nI i)), (2, .int (bI false)), (3, .int (nI x))]) hx hb dX7_cut_115 hl (by decide) rfl (fun ls hl => ?_)
          refine lv_iconst (v := nI 0) hx hb dX7_cut_117 (by decide) ?_
          have hof0 : ∀ v, offC r (ySc y) N v → Gc_112 v = G v := fun v hv => by rw [hGc112, gset_ne hv.2.1, gset_ne hv.2.2.2.1, hG_2, gset_ne hv.2.1, hGc57, gset_ne hv.1, gset_ne hv.2.2.1, hG_1, gset_ne hv.1]
          refine lv_istore (lv' := [(8, .int (nI 0)), (7, .ref q_62), (6, .ref q_21), (5, .int (nI (x + (yF y)))), (4, .ref (L 35 i)), (0, .ref (L 30 0)), (1, .int (nI i)), (2, .int (bI false)), (3, .int (nI x))]) hx hb dX7_cut_118 hl (by decide) rfl (fun ls hl => ?_)
          have L120 : ∀ (n : Nat) (q6 q7 pl6 pl7 k N1 : Nat) (G1 : gW) (H : Heap) (locs : List Loc) (ls : Array Slot) (hn : (sL (yS y i)).length - k < n) (hk : k ≤ (sL (yS y i)).length) (hN : N ≤ N1 ∧ N1 ≤ N + k) (h6 : G1 (r, 35, ySc y) = some (q6, cMS ((sW (yS y i)), x, sG (yS y i), nI i, 0, []) pl6)) (h7 : G1 (r, 35, ySc y + 1) = some (q7, cMS ((sW (yS y i)), (sH (yS y i) - (x + yF y)), sG (yS y i), nI i, 0, []) pl7)) (f6 : FLi K G1 (r, 36, ySc y) (tbF r (ySc y)) pl6 (pass ((sL (yS y i)).take k) 0 0 (sW (yS y i)) x) N1) (f7 : FLi K G1 (r, 36, ySc y + 1) (tbF r (ySc y + 1)) pl7 (pass ((sL (yS y i)).take k) 0 (x + yF y) (sW (yS y i)) (sH (yS y i) - (x + yF y))) N1) (hof : ∀ v, offC r (ySc y) N v → G1 v = G v), gI K A s G1 H locs → lv_has ls 11 [(0, .ref (L 30 0)), (1, .int (nI i)), (2, .int (bI false)), (3, .int (nI x)), (4, .ref (L 35 i)), (5, .int (nI (x + yF y))), (6, .ref q6), (7, .ref q7), (8, .int (nI k))] → W p l e (gRoom 8 171 24 270) s m ([.ref (L 30 0), .int (nI i), .int (bI false), .int (nI x)] : List Value).toArray below meth c H locs (4 + 3 * k) (18 + 22 * k) (gEnd K below (fun r9 G1 => ∃ L2 N2, r9 = some (.int (nI (ySc y))) ∧ MY K r L2 G1 (yCut y i false x) N2 ∧ N ≤ N2 ∧ (∀ k j, (k ≠ 35 ∧ k ≠ 36) ∨ j < ySc y → L2 k j = L k j) ∧ (∀ v : gTag, v.1 ≠ r → v.1 ≠ 50 → G1 v = G v) ∧ ∀ m, m < N → G1 (50, 0, m) = G (50, 0, m)) (gNo) A ([.ref (L 30 0), .int (nI i), .int (bI false), .int (nI x)] : List Value).toArray s 24 270) (F0 m 120 ls []) := by
            clear hI hl
            intro n
            induction n with
            | zero =>
              intro q6 q7 pl6 pl7 k N1 G1 H locs ls hn hk hN h6 h7 f6 f7 hof hI hl
              exact absurd hn (Nat.not_lt_zero _)
            | succ n ih =>
              intro q6 q7 pl6 pl7 k N1 G1 H locs ls hn hk hN h6 h7 f6 f7 hof hI hl
              have hyd1 := (hof _ (offC_k (j := 0) (k := 30) hr50 (by decide))).trans hm.1.1
              have hls1 := (hof _ (offC_k (j := 0) (k := 31) hr50 (by decide))).trans hl1
              have hsu1 := (hof _ (offC_35 hr50 hi)).trans hsu0
              have hfu1 : FLi K G1 (r, 36, i) (tbF r i) (L 36 i) (sL (yS y i)) N := hflu.moved (hof _ (offC_36 hr50 hi)) (fun b => hof _ (offC_37 hr50 hi b)) (fun m hm9 => hof _ (offC_50 hr50 hm9))
              obtain ⟨-, -, Fu, gu, hALu, hFu⟩ := hfu1
              obtain ⟨mu, aru, hlu⟩ := hALu.obj
              obtain ⟨e61, e62, F6, g6, hAL6, hF6⟩ := id f6
              obtain ⟨e71, e72, F7, g7, hAL7, hF7⟩ := id f7
              obtain ⟨mo6, ar6, hl6⟩ := hAL6.obj
              obtain ⟨mo7, ar7, hl7⟩ := hAL7.obj
              refine lv_iload hx hb dX7_cut_120 (lv_at hl 8 rfl) ?_
              refine lv_aload hx hb dX7_cut_122 (lv_at hl 4 rfl) ?_
              refine g_get S hE hI (C := RX6) (T := TX6) (N := 6) (ref := "StonecutterYardModel$Slab") (fun w h => (List.mem_cons_of_mem _ (List.mem_append_left _ (List.mem_append_right _ h)))) hsu1 rfl 4 (by decide) (List.mem_cons_of_mem _ (List.mem_append_left _ (List.mem_append_left _ (List.mem_append_left _ (List.mem_append_left _ (List.mem_of_getElem? (i := 9) rfl)))))) (fun _ h9 => h9) (v := .ref (L 36 i)) rfl dX7_cut_124 ?_
              refine g_callV (As := []) (rest := [.int (nI k)]) (b := (L 36 i)) (n := 0) S hE hI hA (l_size l K _ (r, 36, i) (tbF r i) (L 36 i) (sL (yS y i)).length Fu hALu) gX7_cut_Jx4a65c_size_8abf5 rfl (by decide +kernel) ⟨Nat.le_of_ble_eq_true rfl, Nat.le_of_ble_eq_true rfl⟩ (g_hro hE hI hlu rfl) rfl hl.1 rfl (Nat.le_of_ble_eq_true rfl) dX7_cut_127 ⟨by show _ ≤ 24; omega, by show _ ≤ 270; omega⟩ (fun E ce q9 Gx H1 locs1 hx9 => hx9.elim) (fun rv Gc_127 H locs hp hI => ?_)
              obtain ⟨rfl, hq9⟩ := hp
              rw [hq9] at hI
              refine W.eq (g2 := F0 m 130 ls [.int (nI ((sL (yS y i)).length)), .int (nI k)]) rfl ?_
              refine lv_icmp_ge (tgt := 251) hx hb dX7_cut_130 (by decide) (fun c_130 => ?_) (fun c_130 => ?_)
              · skip
                have c_130 : ((sL (yS y i)).length) ≤ k := (nI_leI (a := ((sL (yS y i)).length)) (b := k) (by omega) (by omega)).mp c_130
                refine lv_aload hx hb dX7_cut_251 (lv_at hl 4 rfl) ?_
                refine lv_iconst (v := nI 1) hx hb dX7_cut_253 (by decide) ?_
                refine g_put S hE hI (C := RX6) (T := TX6) (N := 6) (ref := "StonecutterYardModel$Slab") (fun w h => (List.mem_cons_of_mem _ (List.mem_append_left _ (List.mem_append_right _ h)))) tyX6 tyX6_ok nmX6 hsu1 rfl 5 (by decide) (List.mem_cons_of_mem _ (List.mem_append_left _ (List.mem_append_left _ (List.mem_append_left _ (List.mem_append_left _ (List.mem_of_getElem? (i := 12) rfl)))))) (fun _ h9 => h9) rfl rfl rfl (Nat.le_of_ble_eq_true rfl) dX7_cut_254 (fun H locs hI => ?_)
                have hI : gI K A s (gset G1 (r, 35, i) (L 35 i) (.inr (7, [.int (nI (sW (yS y i))), .int (nI (sH (yS y i))), .int (nI (sG (yS y i))), .int (sF (yS y i)), .ref (L 36 i), .int (nI 1)]))) H locs := hI
                obtain ⟨G_3, hG_3⟩ : ∃ z, z = gset G1 (r, 35, i) (L 35 i) (.inr (7, [.int (nI (sW (yS y i))), .int (nI (sH (yS y i))), .int (nI (sG (yS y i))), .int (sF (yS y i)), .ref (L 36 i), .int (nI 1)])) := ⟨_, rfl⟩
                rw [← hG_3] at hI
                have yd_G_3 : G_3 (r, 30, 0) = some ((L 30 0), .inr (8, [.ref (L 31 0), .ref (L 33 0), .int (nI (yF y))])) := by rw [hG_3, gset_ne (by simp <;> omega)]; exact hyd1
                have v6_G_3 : G_3 (r, 35, ySc y) = some (q6, .inr (7, [.int (nI (sW (yS y i))), .int (nI x), .int (nI (sG (yS y i))), .int (nI i), .ref pl6, .int (nI 0)])) := by rw [hG_3, gset_ne (by simp <;> omega)]; exact h6
                have v7_G_3 : G_3 (r, 35, ySc y + 1) = some (q7, .inr (7, [.int (nI (sW (yS y i))), .int (nI (sH (yS y i) - (x + yF y))), .int (nI (sG (yS y i))), .int (nI i), .ref pl7, .int (nI 0)])) := by rw [hG_3, gset_ne (by simp <;> omega)]; exact h7
                have lu_G_3 : G_3 (r, 36, i) = some ((L 36 i), .inr (0, [.int mu, .ref aru, .int (nI ((sL (yS y i)).length))])) := by rw [hG_3, gset_ne (by simp <;> omega)]; exact hlu
                have l6_G_3 : G_3 (r, 36, ySc y) = some (pl6, .inr (0, [.int mo6, .ref ar6, .int (nI ((pass ((sL (yS y i)).take k) 0 0 (sW (yS y i)) x).length))])) := by rw [hG_3, gset_ne (by simp <;> omega)]; exact hl6
                have l7_G_3 : G_3 (r, 36, ySc y + 1) = some (pl7, .inr (0, [.int mo7, .ref ar7, .int (nI ((pass ((sL (yS y i)).take k) 0 (x + yF y) (sW (yS y i)) (sH (yS y i) - (x + yF y))).length))])) := by rw [hG_3, gset_ne (by simp <;> omega)]; exact hl7
                have ls_G_3 : G_3 (r, 31, 0) = some ((L 31 0), .inr (0, [.int m1, .ref ar1, .int (nI (ySc y))])) := by rw [hG_3, gset_ne (by simp <;> omega)]; exact hls1
                have u_G_3 : G_3 (r, 35, i) = some ((L 35 i), .inr (7, [.int (nI (sW (yS y i))), .int (nI (sH (yS y i))), .int (nI (sG (yS y i))), .int (sF (yS y i)), .ref (L 36 i), .int (nI 1)])) := by rw [hG_3]; exact gset_eq _ _ _ _
                have hkk : k = (sL (yS y i)).length := by omega
                have hw2 : ∀ v : gTag, v ≠ (r, 35, i) → G_3 v = G1 v := fun v h9 => by rw [hG_3, gset_ne h9]
                have hsA : ∀ j, j < ySc y → ∃ u9 : SV, G_3 (r, 35, j) = some (L 35 j, cMS u9 (L 36 j)) := fun j hj => by
                  by_cases c9 : j = i
                  · subst c9; exact ⟨sState (yS y j) 1, u_G_3⟩
                  · exact ⟨_, (hw2 _ (by simp [c9])).trans ((hof _ (offC_35 hr50 hj)).trans (hm.2.2.2.1 j hj).1)⟩
                have hAL0 : ALg K (r, 31, 0) (tbL r 32) G_3 (L 31 0) (ySc y) (L 35) := hm.2.1.moved ((hw2 _ (by simp)).trans (hof _ (offC_k hr50 (by decide)))) (fun b => (hw2 _ (by unfold tbL; simp)).trans (hof _ (offC_k hr50 (by decide))))
                have h6w := (hw2 (r, 35, ySc y) (by simp; omega)).trans h6
                have h7w := (hw2 (r, 35, ySc y + 1) (by simp; omega)).trans h7
                refine lv_aload_n hx hb dX7_cut_257 rfl (lv_at hl 0 rfl) ?_
                refine g_get S hE hI (C := RX7) (T := TX7) (N := 3) (ref := "StonecutterYardModel$Yard") (fun w h => (List.mem_cons_of_mem _ (List.mem_append_left _ (List.mem_append_left _ (List.mem_append_right _ h))))) yd_G_3 rfl 0 (by decide) (List.mem_cons_of_mem _ (List.mem_append_left _ (List.mem_append_left _ (List.mem_append_left _ (List.mem_append_left _ (List.mem_of_getElem? (i := 0) rfl)))))) (fun _ h9 => h9) (v := .ref (L 31 0)) rfl dX7_cut_258 ?_
                refine lv_aload hx hb dX7_cut_261 (lv_at hl 6 rfl) ?_
                refine g_callV (As := [.ref q6]) (rest := []) (b := (L 31 0)) (n := 1) S hE hI hA (l_add l K _ (r, 31, 0) (tbL r 32) (L 31 0) (ySc y) (L 35) "StonecutterYardModel$Slab" q6 (r, 35, ySc y) _ hAL0 (apL1 r) (by omega) h6w isC_S (by simp) (ne35L (by decide)) (fun j hj => by obtain ⟨u9, hu9⟩ := hsA j hj; exact ⟨(r, 35, j), _, by simp, ne35L (by decide), hu9, isC_S⟩)) gX7_cut_Jx4a65c_add_9ea2d rfl (by decide +kernel) ⟨Nat.le_of_ble_eq_true rfl, Nat.le_of_ble_eq_true rfl⟩ (g_hro hE hI ls_G_3 rfl) rfl hl.1 rfl (Nat.le_of_ble_eq_true rfl) dX7_cut_263 ⟨by show _ ≤ 24; omega, by show _ ≤ 270; omega⟩ (fun E ce q9 Gx H1 locs1 hx9 => hx9.elim) (fun rv Gc_263 H locs hp hI => ?_)
                obtain ⟨rfl, hALa, hoa⟩ := hp
                obtain ⟨mA, arA, hls9⟩ := hALa.obj
                have hy9 := (hoa (r, 30, 0) (by simp) (fun b => by unfold tbL; simp)).trans yd_G_3
                refine W.eq (g2 := F0 m 266 ls [.int (nI 1)]) rfl ?_
                refine lv_pop hx hb dX7_cut_266 rfl ?_
                refine lv_aload_n hx hb dX7_cut_267 rfl (lv_at hl 0 rfl) ?_
                refine g_get S hE hI (C := RX7) (T := TX7) (N := 3) (ref := "StonecutterYardModel$Yard") (fun w h => (List.mem_cons_of_mem _ (List.mem_append_left _ (List.mem_append_left _ (List.mem_append_right _ h))))) hy9 rfl 0 (by decide) (List.mem_cons_of_mem _ (List.mem_append_left _ (List.mem_append_left _ (List.mem_append_left _ (List.mem_append_left _ (List.mem_of_getElem? (i := 0) rfl)))))) (fun _ h9 => h9) (v := .ref (L 31 0)) rfl dX7_cut_268 ?_
                refine lv_aload hx hb dX7_cut_271 (lv_at hl 7 rfl) ?_
                refine g_callV (As := [.ref q7]) (rest := []) (b := (L 31 0)) (n := 1) S hE hI hA (l_add l K _ (r, 31, 0) (tbL r 32) (L 31 0) (ySc y + 1) (fU (L 35) (ySc y) q6) "StonecutterYardModel$Slab" q7 (r, 35, ySc y + 1) _ hALa (apL1 r) (by omega) ((hoa _ (by simp) (ne35L (by decide))).trans h7w) isC_S (by simp) (ne35L (by decide)) (fun j hj => (Decidable.em (j = ySc y)).elim (fun c9 => by subst c9; rw [fU_eq]; exact ⟨(r, 35, ySc y), _, by simp, ne35L (by decide), (hoa _ (by simp) (ne35L (by decide))).trans h6w, isC_S⟩) (fun c9 => by rw [fU_ne c9]; obtain ⟨u9, hu9⟩ := hsA j (by omega); exact ⟨(r, 35, j), _, by simp, ne35L (by decide), (hoa _ (by simp) (ne35L (by decide))).trans hu9, isC_S⟩))) gX7_cut_Jx4a65c_add_9ea2d rfl (by decide +kernel) ⟨Nat.le_of_ble_eq_true rfl, Nat.le_of_ble_eq_true rfl⟩ (g_hro hE hI hls9 rfl) rfl hl.1 rfl (Nat.le_of_ble_eq_true rfl) dX7_cut_273 ⟨by show _ ≤ 24; omega, by show _ ≤ 270; omega⟩ (fun E ce q9 Gx H1 locs1 hx9 => hx9.elim) (fun rv Gc_273 H locs hp hI => ?_)
                obtain ⟨rfl, hALb, hob⟩ := hp
                obtain ⟨mB, arB, hls10⟩ := hALb.obj
                have hy10 := (hob (r, 30, 0) (by simp) (fun b => by unfold tbL; simp)).trans hy9
                refine W.eq (g2 := F0 m 276 ls [.int (nI 1)]) rfl ?_
                refine lv_pop hx hb dX7_cut_276 rfl ?_
                refine lv_aload_n hx hb dX7_cut_277 rfl (lv_at hl 0 rfl) ?_
                refine g_get S hE hI (C := RX7) (T := TX7) (N := 3) (ref := "StonecutterYardModel$Yard") (fun w h => (List.mem_cons_of_mem _ (List.mem_append_left _ (List.mem_append_left _ (List.mem_append_right _ h))))) hy10 rfl 0 (by decide) (List.mem_cons_of_mem _ (List.mem_append_left _ (List.mem_append_left _ (List.mem_append_left _ (List.mem_append_left _ (List.mem_of_getElem? (i := 0) rfl)))))) (fun _ h9 => h9) (v := .ref (L 31 0)) rfl dX7_cut_278 ?_
                refine g_callV (As := []) (rest := []) (b := (L 31 0)) (n := 0) S hE hI hA (l_size l K _ (r, 31, 0) (tbL r 32) (L 31 0) (ySc y + 1 + 1) (fU (fU (L 35) (ySc y) q6) (ySc y + 1) q7) hALb) gX7_cut_Jx4a65c_size_8abf5 rfl (by decide +kernel) ⟨Nat.le_of_ble_eq_true rfl, Nat.le_of_ble_eq_true rfl⟩ (g_hro hE hI hls10 rfl) rfl hl.1 rfl (Nat.le_of_ble_eq_true rfl) dX7_cut_281 ⟨by show _ ≤ 24; omega, by show _ ≤ 270; omega⟩ (fun E ce q9 Gx H1 locs1 hx9 => hx9.elim) (fun rv Gc_281 H locs hp hI => ?_)
                obtain ⟨rfl, hq9⟩ := hp
                rw [hq9] at hI
                refine W.eq (g2 := F0 m 284 ls [.int (nI (ySc y + 1 + 1))]) rfl ?_
                refine lv_iconst (v := nI 2) hx hb dX7_cut_284 (by decide) ?_
                refine t_isub hx hb dX7_cut_285 (v := nI (ySc y)) (pk_sub (a := ySc y + 1 + 1) (b := 2) (by omega)) ?_
                have hat : ∀ v : gTag, v ≠ (r, 31, 0) → (∀ b, v ≠ tbL r 32 b) → v ≠ (r, 35, i) → Gc_273 v = G1 v := fun v c1 c2 c3 => (hob v c1 c2).trans ((hoa v c1 c2).trans (hw2 v c3))
                have h50 : ∀ m, Gc_273 (50, 0, m) = G1 (50, 0, m) := fun m => hat _ (by simp [Ne.symm hr50]) (fun b => by unfold tbL; simp [Ne.symm hr50]) (by simp [Ne.symm hr50])
                have hfull : (sL (yS y i)).take k = sL (yS y i) := by rw [hkk, List.take_length]
                rw [hfull] at f6 f7
                obtain ⟨L2, hL2⟩ : ∃ z, z = (fun a b => if a = 35 ∧ b = ySc y then q6 else if a = 35 ∧ b = ySc y + 1 then q7 else if a = 36 ∧ b = ySc y then pl6 else if a = 36 ∧ b = ySc y + 1 then pl7 else L a b) := ⟨_, rfl⟩
                have hMY : MY K r L2 Gc_273 (yCut y i false x) N1 := mcut_fin false hm hi hcan hr50 hsc hL2 hN.1 hof hat hy10 hALb ((hob _ (by simp) (ne35L (by decide))).trans ((hoa _ (by simp) (ne35L (by decide))).trans u_G_3)) h6 h7 f6 f7
                exact g_iret S hI hr hlocks (by omega) (by omega) dX7_cut_286 ⟨L2, N1, rfl, hMY, hN.1, fun a b c9 => by rw [hL2]; show (if _ then _ else _) = _; rw [if_neg (by omega), if_neg (by omega), if_neg (by omega), if_neg (by omega)], fun v h9 h8 => (hat v (fun z9 => h9 (by rw [z9])) (fun b z9 => h9 (by rw [z9]; rfl)) (fun z9 => h9 (by rw [z9]))).trans (hof v (offC_o h9 h8)), fun m h9 => (h50 m).trans (hof _ (offC_50 hr50 h9))⟩
              · skip
                have c_130 : k < ((sL (yS y i)).length) := Nat.not_le.mp (fun z => c_130 ((nI_leI (a := ((sL (yS y i)).length)) (b := k) (by omega) (by omega)).mpr z))
                obtain ⟨m9, hm9, hf9, hg0, hg1⟩ := hFu k c_130
                obtain ⟨x9, hx9⟩ : ∃ z, z = ((sL (yS y i)).getD k (0, 0)).1 := ⟨_, rfl⟩
                obtain ⟨y9, hy9⟩ : ∃ z, z = ((sL (yS y i)).getD k (0, 0)).2 := ⟨_, rfl⟩
                rw [← hx9] at hg0
                rw [← hy9] at hg1
                have hmm : (sL (yS y i)).getD k (0, 0) ∈ sL (yS y i) := by simp [List.getD, List.getElem?_eq_getElem c_130]
                have hbb := s8 _ hmm
                rw [← hx9, ← hy9] at hbb
                have hb9 : x9 < 24 ∧ y9 < 24 := by omega
                have hp6 := pass_lt (l := 0) (t := 0) (w := (sW (yS y i))) (h := x) c_130
                have hp7 := pass_lt (l := 0) (t := (x + yF y)) (w := (sW (yS y i))) (h := (sH (yS y i) - (x + yF y))) c_130
                refine lv_aload hx hb dX7_cut_133 (lv_at hl 4 rfl) ?_
                refine g_get S hE hI (C := RX6) (T := TX6) (N := 6) (ref := "StonecutterYardModel$Slab") (fun w h => (List.mem_cons_of_mem _ (List.mem_append_left _ (List.mem_append_right _ h)))) hsu1 rfl 4 (by decide) (List.mem_cons_of_mem _ (List.mem_append_left _ (List.mem_append_left _ (List.mem_append_left _ (List.mem_append_left _ (List.mem_of_getElem? (i := 9) rfl)))))) (fun _ h9 => h9) (v := .ref (L 36 i)) rfl dX7_cut_135 ?_
                refine lv_iload hx hb dX7_cut_138 (lv_at hl 8 rfl) ?_
                refine g_callV (As := [.int (nI k)]) (rest := []) (b := (L 36 i)) (n := 1) S hE hI hA (l_get l K _ (r, 36, i) (tbF r i) (L 36 i) (sL (yS y i)).length Fu k hALu c_130) gX7_cut_Jx4a65c_get_915e3 rfl (by decide +kernel) ⟨Nat.le_of_ble_eq_true rfl, Nat.le_of_ble_eq_true rfl⟩ (g_hro hE hI hlu rfl) rfl hl.1 rfl (Nat.le_of_ble_eq_true rfl) dX7_cut_140 ⟨by show _ ≤ 24; omega, by show _ ≤ 270; omega⟩ (fun E ce q9 Gx H1 locs1 hx9 => hx9.elim) (fun rv Gc_140 H locs hp hI => ?_)
                obtain ⟨rfl, hq9⟩ := hp
                rw [hq9] at hI
                refine W.eq (g2 := F0 m 143 ls [.ref (Fu k)]) rfl ?_
                refine g_cast S (List.mem_cons_of_mem _ (List.mem_append_left _ (List.mem_append_left _ (List.mem_append_left _ (List.mem_append_left _ (List.mem_of_getElem? (i := 10) rfl)))))) (g_hra hE hI (k := 0) (ty := .int) hf9 rfl rfl) dX7_cut_143 ?_
                refine lv_astore (lv' := [(9, .ref (Fu k)), (0, .ref (L 30 0)), (1, .int (nI i)), (2, .int (bI false)), (3, .int (nI x)), (4, .ref (L 35 i)), (5, .int (nI (x + yF y))), (6, .ref q6), (7, .ref q7), (8, .int (nI k))]) hx hb dX7_cut_146 hl (by decide) rfl (fun ls hl => ?_)
                refine lv_iload_n hx hb dX7_cut_148 rfl (lv_at hl 3 rfl) ?_
                refine lv_if_eq (tgt := 159) hx hb dX7_cut_149 (by decide) (fun c_149 => ?_) (fun c_149 => ?_)
                · skip
                  have c_149 : false = false := bI_0.mp c_149
                  refine lv_aload hx hb dX7_cut_159 (lv_at hl 0 rfl) ?_
                  refine lv_iconst (v := nI 1) hx hb dX7_cut_161 (by decide) ?_
                  refine g_iald S hE hI (j := 1) (f := (gu k)) hf9 rfl (by omega) (by decide) dX7_cut_162 ?_
                  refine W.eq (g2 := F0 m 163 ls [.int (nI y9)]) (by rw [hg1]) ?_
                  refine lv_istore (lv' := [(10, .int (nI y9)), (9, .ref (Fu k)), (0, .ref (L 30 0)), (1, .int (nI i)), (2, .int (bI false)), (3, .int (nI x)), (4, .ref (L 35 i)), (5, .int (nI (x + yF y))), (6, .ref q6), (7, .ref q7), (8, .int (nI k))]) hx hb dX7_cut_163 hl (by decide) rfl (fun ls hl => ?_)
                  refine lv_iload hx hb dX7_cut_165 (lv_at hl 0 rfl) ?_
                  refine lv_iload_n hx hb dX7_cut_167 rfl (lv_at hl 5 rfl) ?_
                  refine lv_icmp_ge (tgt := 182) hx hb dX7_cut_168 (by decide) (fun c_168 => ?_) (fun c_168 => ?_)
                  · skip
                    have c_168 : x ≤ y9 := (nI_leI (a := x) (b := y9) (by omega) (by omega)).mp c_168
                    refine lv_iload hx hb dX7_cut_182 (lv_at hl 0 rfl) ?_
                    refine lv_iload hx hb dX7_cut_184 (lv_at hl 7 rfl) ?_
                    refine lv_icmp_lt (tgt := 245) hx hb dX7_cut_186 (by decide) (fun c_186 => ?_) (fun c_186 => ?_)
                    · skip
                      have c_186 : y9 < (x + yF y) := (nI_ltI (a := y9) (b := (x + yF y)) (by omega) (by omega)).mp c_186
                      have h6n := h6
                      have h7n := h7
                      have f6n : FLi K G1 (r, 36, ySc y) (tbF r (ySc y)) pl6 (pass ((sL (yS y i)).take (k + 1)) 0 0 (sW (yS y i)) x) N1 := by rw [← pass_no c_130 hx9 hy9 (by show ¬ (0 ≤ x9 ∧ x9 - 0 < (sW (yS y i)) ∧ 0 ≤ y9 ∧ y9 - 0 < x); omega)]; exact f6
                      have f7n : FLi K G1 (r, 36, ySc y + 1) (tbF r (ySc y + 1)) pl7 (pass ((sL (yS y i)).take (k + 1)) 0 (x + yF y) (sW (yS y i)) (sH (yS y i) - (x + yF y))) N1 := by rw [← pass_no c_130 hx9 hy9 (by show ¬ (0 ≤ x9 ∧ x9 - 0 < (sW (yS y i)) ∧ (x + yF y) ≤ y9 ∧ y9 - (x + yF y) < (sH (yS y i) - (x + yF y))); omega)]; exact f7
                      have hofn := hof
                      refine lv_iinc (v := nI (k + 1)) (lv' := [(8, .int (nI (k + 1))), (10, .int (nI y9)), (9, .ref (Fu k)), (0, .ref (L 30 0)), (1, .int (nI i)), (2, .int (bI false)), (3, .int (nI x)), (4, .ref (L 35 i)), (5, .int (nI (x + yF y))), (6, .ref q6), (7, .ref q7)]) hx hb dX7_cut_245 hl (k := 10) rfl (nI_add _ 1) (by decide) rfl (fun ls hl => ?_)
                      refine lv_goto (tgt := 120) hx hb dX7_cut_248 (by decide) ?_
                      exact W.widen (by omega) (by omega) (ih q6 q7 pl6 pl7 (k + 1) N1 G1 H locs ls (by omega) (by omega) (by omega) h6n h7n f6n f7n hofn hI (lv_sub hl [3,4,5,6,7,8,9,10,0] rfl))
                    · skip
                      have c_186 : (x + yF y) ≤ y9 := Nat.not_lt.mp (fun z => c_186 ((nI_ltI (a := y9) (b := (x + yF y)) (by omega) (by omega)).mpr z))
                      refine lv_aload hx hb dX7_cut_189 (lv_at hl 9 rfl) ?_
                      refine g_get S hE hI (C := RX6) (T := TX6) (N := 6) (ref := "StonecutterYardModel$Slab") (fun w h => (List.mem_cons_of_mem _ (List.mem_append_left _ (List.mem_append_right _ h)))) h7 rfl 4 (by decide) (List.mem_cons_of_mem _ (List.mem_append_left _ (List.mem_append_left _ (List.mem_append_left _ (List.mem_append_left _ (List.mem_of_getElem? (i := 9) rfl)))))) (fun _ h9 => h9) (v := .ref pl7) rfl dX7_cut_191 ?_
                      refine lv_iload_n hx hb dX7_cut_194 rfl (lv_at hl 4 rfl) ?_
                      refine lv_if_eq (tgt := 221) hx hb dX7_cut_195 (by decide) (fun c_195 => ?_) (fun c_195 => ?_)
                      · skip
                        have c_195 : false = false := bI_0.mp c_195
                        refine lv_iconst (v := nI 2) hx hb dX7_cut_221 (by decide) ?_
                        refine g_newI S hE hI hA (List.mem_cons_of_mem _ (List.mem_append_left _ (List.mem_append_left _ (List.mem_append_left _ (List.mem_append_left _ (List.mem_of_getElem? (i := 11) rfl)))))) (N' := 2) rfl (by omega) (50, 0, N1) (by show _ ≤ 24; omega) (by show _ ≤ 270; omega) dX7_cut_222 (fun q_222 H hq_222 hI => ?_)
                        obtain ⟨G_4, hG_4⟩ : ∃ z, z = gset G1 (50, 0, N1) q_222 (.inl (K.2.1 0, 2, .inl (fun _ => 0))) := ⟨_, rfl⟩
                        have hI : gI K A s G_4 H locs := by rw [hG_4]; exact hI
                        have yd_G_4 : G_4 (r, 30, 0) = some ((L 30 0), .inr (8, [.ref (L 31 0), .ref (L 33 0), .int (nI (yF y))])) := by rw [hG_4, gset_ne (by simp [hr50])]; exact hyd1
                        have u_G_4 : G_4 (r, 35, i) = some ((L 35 i), .inr (7, [.int (nI (sW (yS y i))), .int (nI (sH (yS y i))), .int (nI (sG (yS y i))), .int (sF (yS y i)), .ref (L 36 i), .int (nI (sT (yS y i)))])) := by rw [hG_4, gset_ne (by simp [hr50])]; exact hsu1
                        have v6_G_4 : G_4 (r, 35, ySc y) = some (q6, .inr (7, [.int (nI (sW (yS y i))), .int (nI x), .int (nI (sG (yS y i))), .int (nI i), .ref pl6, .int (nI 0)])) := by rw [hG_4, gset_ne (by simp [hr50])]; exact h6
                        have v7_G_4 : G_4 (r, 35, ySc y + 1) = some (q7, .inr (7, [.int (nI (sW (yS y i))), .int (nI (sH (yS y i) - (x + yF y))), .int (nI (sG (yS y i))), .int (nI i), .ref pl7, .int (nI 0)])) := by rw [hG_4, gset_ne (by simp [hr50])]; exact h7
                        have lu_G_4 : G_4 (r, 36, i) = some ((L 36 i), .inr (0, [.int mu, .ref aru, .int (nI ((sL (yS y i)).length))])) := by rw [hG_4, gset_ne (by simp [hr50])]; exact hlu
                        have l6_G_4 : G_4 (r, 36, ySc y) = some (pl6, .inr (0, [.int mo6, .ref ar6, .int (nI ((pass ((sL (yS y i)).take k) 0 0 (sW (yS y i)) x).length))])) := by rw [hG_4, gset_ne (by simp [hr50])]; exact hl6
                        have l7_G_4 : G_4 (r, 36, ySc y + 1) = some (pl7, .inr (0, [.int mo7, .ref ar7, .int (nI ((pass ((sL (yS y i)).take k) 0 (x + yF y) (sW (yS y i)) (sH (yS y i) - (x + yF y))).length))])) := by rw [hG_4, gset_ne (by simp [hr50])]; exact hl7
                        have ls_G_4 : G_4 (r, 31, 0) = some ((L 31 0), .inr (0, [.int m1, .ref ar1, .int (nI (ySc y))])) := by rw [hG_4, gset_ne (by simp [hr50])]; exact hls1
                        have f_G_4 : G_4 (50, 0, m9) = some ((Fu k), cI K 2 (gu k)) := by rw [hG_4, gset_ne (by simp <;> omega)]; exact hf9
                        have nf_G_4 : G_4 (50, 0, N1) = some (q_222, .inl (K.2.1 0, 2, .inl (fun _ => 0))) := by rw [hG_4]; exact gset_eq _ _ _ _
                        refine lv_dup hx hb dX7_cut_224 rfl ?_
                        refine lv_iconst (v := nI 0) hx hb dX7_cut_225 (by decide) ?_
                        refine lv_aload hx hb dX7_cut_226 (lv_at hl 1 rfl) ?_
                        refine lv_iconst (v := nI 0) hx hb dX7_cut_228 (by decide) ?_
                        refine g_iald S hE hI (j := 0) (f := (gu k)) f_G_4 rfl (by omega) (by decide) dX7_cut_229 ?_
                        refine W.eq (g2 := F0 m 230 ls [.int (nI x9), .int (nI 0), .ref q_222, .ref q_222, .ref pl7]) (by rw [hg0]) ?_
                        refine g_iast S hE hI (j := 0) (f := (fun _ => 0)) nf_G_4 rfl (by omega) (Nat.le_of_ble_eq_true rfl) dX7_cut_230 (fun H locs hI => ?_)
                        have hI : gI K A s (gset G_4 (50, 0, N1) q_222 (.inl (K.2.1 0, 2, .inl (upd (fun _ => 0) 0 (nI x9))))) H locs := hI
                        obtain ⟨G_5, hG_5⟩ : ∃ z, z = gset G_4 (50, 0, N1) q_222 (.inl (K.2.1 0, 2, .inl (upd (fun _ => 0) 0 (nI x9)))) := ⟨_, rfl⟩
                        rw [← hG_5] at hI
                        have yd_G_5 : G_5 (r, 30, 0) = some ((L 30 0), .inr (8, [.ref (L 31 0), .ref (L 33 0), .int (nI (yF y))])) := by rw [hG_5, gset_ne (by simp [hr50])]; exact yd_G_4
                        have u_G_5 : G_5 (r, 35, i) = some ((L 35 i), .inr (7, [.int (nI (sW (yS y i))), .int (nI (sH (yS y i))), .int (nI (sG (yS y i))), .int (sF (yS y i)), .ref (L 36 i), .int (nI (sT (yS y i)))])) := by rw [hG_5, gset_ne (by simp [hr50])]; exact u_G_4
                        have v6_G_5 : G_5 (r, 35, ySc y) = some (q6, .inr (7, [.int (nI (sW (yS y i))), .int (nI x), .int (nI (sG (yS y i))), .int (nI i), .ref pl6, .int (nI 0)])) := by rw [hG_5, gset_ne (by simp [hr50])]; exact v6_G_4
                        have v7_G_5 : G_5 (r, 35, ySc y + 1) = some (q7, .inr (7, [.int (nI (sW (yS y i))), .int (nI (sH (yS y i) - (x + yF y))), .int (nI (sG (yS y i))), .int (nI i), .ref pl7, .int (nI 0)])) := by rw [hG_5, gset_ne (by simp [hr50])]; exact v7_G_4
                        have lu_G_5 : G_5 (r, 36, i) = some ((L 36 i), .inr (0, [.int mu, .ref aru, .int (nI ((sL (yS y i)).length))])) := by rw [hG_5, gset_ne (by simp [hr50])]; exact lu_G_4
                        have l6_G_5 : G_5 (r, 36, ySc y) = some (pl6, .inr (0, [.int mo6, .ref ar6, .int (nI ((pass ((sL (yS y i)).take k) 0 0 (sW (yS y i)) x).length))])) := by rw [hG_5, gset_ne (by simp [hr50])]; exact l6_G_4
                        have l7_G_5 : G_5 (r, 36, ySc y + 1) = some (pl7, .inr (0, [.int mo7, .ref ar7, .int (nI ((pass ((sL (yS y i)).take k) 0 (x + yF y) (sW (yS y i)) (sH (yS y i) - (x + yF y))).length))])) := by rw [hG_5, gset_ne (by simp [hr50])]; exact l7_G_4
                        have ls_G_5 : G_5 (r, 31, 0) = some ((L 31 0), .inr (0, [.int m1, .ref ar1, .int (nI (ySc y))])) := by rw [hG_5, gset_ne (by simp [hr50])]; exact ls_G_4
                        have f_G_5 : G_5 (50, 0, m9) = some ((Fu k), cI K 2 (gu k)) := by rw [hG_5, gset_ne (by simp <;> omega)]; exact f_G_4
                        have nf_G_5 : G_5 (50, 0, N1) = some (q_222, .inl (K.2.1 0, 2, .inl (upd (fun _ => 0) 0 (nI x9)))) := by rw [hG_5]; exact gset_eq _ _ _ _
                        refine lv_dup hx hb dX7_cut_231 rfl ?_
                        refine lv_iconst (v := nI 1) hx hb dX7_cut_232 (by decide) ?_
                        refine lv_aload hx hb dX7_cut_233 (lv_at hl 1 rfl) ?_
                        refine lv_iconst (v := nI 1) hx hb dX7_cut_235 (by decide) ?_
                        refine g_iald S hE hI (j := 1) (f := (gu k)) f_G_5 rfl (by omega) (by decide) dX7_cut_236 ?_
                        refine W.eq (g2 := F0 m 237 ls [.int (nI y9), .int (nI 1), .ref q_222, .ref q_222, .ref pl7]) (by rw [hg1]) ?_
                        refine lv_iload hx hb dX7_cut_237 (lv_at hl 7 rfl) ?_
                        refine t_isub hx hb dX7_cut_239 (v := nI (y9 - (x + yF y))) (pk_sub (by omega)) ?_
                        refine g_iast S hE hI (j := 1) (f := upd (fun _ => 0) 0 (nI x9)) nf_G_5 rfl (by omega) (Nat.le_of_ble_eq_true rfl) dX7_cut_240 (fun H locs hI => ?_)
                        have hI : gI K A s (gset G_5 (50, 0, N1) q_222 (.inl (K.2.1 0, 2, .inl (upd (upd (fun _ => 0) 0 (nI x9)) 1 (nI (y9 - (x + yF y))))))) H locs := hI
                        obtain ⟨G_6, hG_6⟩ : ∃ z, z = gset G_5 (50, 0, N1) q_222 (.inl (K.2.1 0, 2, .inl (upd (upd (fun _ => 0) 0 (nI x9)) 1 (nI (y9 - (x + yF y)))))) := ⟨_, rfl⟩
                        rw [← hG_6] at hI
                        have yd_G_6 : G_6 (r, 30, 0) = some ((L 30 0), .inr (8, [.ref (L 31 0), .ref (L 33 0), .int (nI (yF y))])) := by rw [hG_6, gset_ne (by simp [hr50])]; exact yd_G_5
                        have u_G_6 : G_6 (r, 35, i) = some ((L 35 i), .inr (7, [.int (nI (sW (yS y i))), .int (nI (sH (yS y i))), .int (nI (sG (yS y i))), .int (sF (yS y i)), .ref (L 36 i), .int (nI (sT (yS y i)))])) := by rw [hG_6, gset_ne (by simp [hr50])]; exact u_G_5
                        have v6_G_6 : G_6 (r, 35, ySc y) = some (q6, .inr (7, [.int (nI (sW (yS y i))), .int (nI x), .int (nI (sG (yS y i))), .int (nI i), .ref pl6, .int (nI 0)])) := by rw [hG_6, gset_ne (by simp [hr50])]; exact v6_G_5
                        have v7_G_6 : G_6 (r, 35, ySc y + 1) = some (q7, .inr (7, [.int (nI (sW (yS y i))), .int (nI (sH (yS y i) - (x + yF y))), .int (nI (sG (yS y i))), .int (nI i), .ref pl7, .int (nI 0)])) := by rw [hG_6, gset_ne (by simp [hr50])]; exact v7_G_5
                        have lu_G_6 : G_6 (r, 36, i) = some ((L 36 i), .inr (0, [.int mu, .ref aru, .int (nI ((sL (yS y i)).length))])) := by rw [hG_6, gset_ne (by simp [hr50])]; exact lu_G_5
                        have l6_G_6 : G_6 (r, 36, ySc y) = some (pl6, .inr (0, [.int mo6, .ref ar6, .int (nI ((pass ((sL (yS y i)).take k) 0 0 (sW (yS y i)) x).length))])) := by rw [hG_6, gset_ne (by simp [hr50])]; exact l6_G_5
                        have l7_G_6 : G_6 (r, 36, ySc y + 1) = some (pl7, .inr (0, [.int mo7, .ref ar7, .int (nI ((pass ((sL (yS y i)).take k) 0 (x + yF y) (sW (yS y i)) (sH (yS y i) - (x + yF y))).length))])) := by rw [hG_6, gset_ne (by simp [hr50])]; exact l7_G_5
                        have ls_G_6 : G_6 (r, 31, 0) = some ((L 31 0), .inr (0, [.int m1, .ref ar1, .int (nI (ySc y))])) := by rw [hG_6, gset_ne (by simp [hr50])]; exact ls_G_5
                        have f_G_6 : G_6 (50, 0, m9) = some ((Fu k), cI K 2 (gu k)) := by rw [hG_6, gset_ne (by simp <;> omega)]; exact f_G_5
                        have nf_G_6 : G_6 (50, 0, N1) = some (q_222, .inl (K.2.1 0, 2, .inl (upd (upd (fun _ => 0) 0 (nI x9)) 1 (nI (y9 - (x + yF y)))))) := by rw [hG_6]; exact gset_eq _ _ _ _
                        have hgt : G_6 = gset G1 (50, 0, N1) q_222 (cI K 2 (upd (upd (fun _ => 0) 0 (nI x9)) 1 (nI (y9 - (x + yF y))))) := by rw [hG_6, hG_5, hG_4, gset_gset, gset_gset]
                        have hw : ∀ v : gTag, v ≠ (50, 0, N1) → G_6 v = G1 v := fun v h9 => by rw [hgt, gset_ne h9]
                        have hALw : ALg K (r, 36, ySc y + 1) (tbF r (ySc y + 1)) G_6 pl7 (pass ((sL (yS y i)).take k) 0 (x + yF y) (sW (yS y i)) (sH (yS y i) - (x + yF y))).length F7 := hAL7.moved (hw _ (by simp [hr50])) (fun b => hw _ (by unfold tbF; simp [hr50]))
                        have hnew : G_6 (50, 0, N1) = some (q_222, cI K 2 (upd (upd (fun _ => 0) 0 (nI x9)) 1 (nI (y9 - (x + yF y))))) := by rw [hgt]; exact gset_eq _ _ _ _
                        refine g_callV (As := [.ref q_222]) (rest := []) (b := pl7) (n := 1) S hE hI hA (l_addS l K _ (r, 36, ySc y + 1) (tbF r (ySc y + 1)) pl7 (pass ((sL (yS y i)).take k) 0 (x + yF y) (sW (yS y i)) (sH (yS y i) - (x + yF y))).length F7 "[I" q_222 (50, 0, N1) _ hALw (apF r (ySc y + 1)) (by omega) hnew isC_I (by simp [Ne.symm hr50]) (fun b => by unfold tbF; simp [Ne.symm hr50])) gX7_cut_Jx4a65c_add_9ea2d rfl (by decide +kernel) ⟨Nat.le_of_ble_eq_true rfl, Nat.le_of_ble_eq_true rfl⟩ (g_hro hE hI l7_G_6 rfl) rfl hl.1 rfl (Nat.le_of_ble_eq_true rfl) dX7_cut_241 ⟨by show _ ≤ 24; omega, by show _ ≤ 270; omega⟩ (fun E ce q9 Gx H1 locs1 hx9 => hx9.elim) (fun rv Gc_241 H locs hp hI => ?_)
                        obtain ⟨rfl, hALn, ho⟩ := hp
                        have h58 : ∀ m, Gc_241 (50, 0, m) = G_6 (50, 0, m) := fun m => ho _ (by simp [Ne.symm hr50]) (fun b => by unfold tbF; simp [Ne.symm hr50])
                        have h59 : ∀ m, m < N1 → G_6 (50, 0, m) = G1 (50, 0, m) := fun m h9 => hw _ (by simp; omega)
                        have h6n := (ho (r, 35, ySc y) (by simp) (fun b => by unfold tbF; simp)).trans ((hw _ (by simp [hr50])).trans h6)
                        have h7n := (ho (r, 35, ySc y + 1) (by simp) (fun b => by unfold tbF; simp)).trans ((hw _ (by simp [hr50])).trans h7)
                        have f6n : FLi K Gc_241 (r, 36, ySc y) (tbF r (ySc y)) pl6 (pass ((sL (yS y i)).take (k + 1)) 0 0 (sW (yS y i)) x) (N1 + 1) := by rw [← pass_no c_130 hx9 hy9 (by show ¬ (0 ≤ x9 ∧ x9 - 0 < (sW (yS y i)) ∧ 0 ≤ y9 ∧ y9 - 0 < x); omega)]; exact (f6.moved ((ho _ (by simp) (fun b => by unfold tbF; simp)).trans (hw _ (by simp [hr50]))) (fun b9 => (ho _ (by unfold tbF; simp) (fun b => by unfold tbF; cases b <;> cases b9 <;> simp <;> omega)).trans (hw _ (by unfold tbF; simp [hr50]))) (fun m h9 => (h58 m).trans (h59 m h9))).more (Nat.le_succ _)
                        have f7n : FLi K Gc_241 (r, 36, ySc y + 1) (tbF r (ySc y + 1)) pl7 (pass ((sL (yS y i)).take (k + 1)) 0 (x + yF y) (sW (yS y i)) (sH (yS y i) - (x + yF y))) (N1 + 1) := by rw [← pass_yes c_130 hx9 hy9 (by show 0 ≤ x9 ∧ x9 - 0 < (sW (yS y i)) ∧ (x + yF y) ≤ y9 ∧ y9 - (x + yF y) < (sH (yS y i) - (x + yF y)); omega)]; exact FLi.add (a := (x9 - 0)) (b := (y9 - (x + yF y))) (by omega) e72 (fun j hj => by obtain ⟨m2, z1, z2, z3⟩ := hF7 j hj; exact ⟨m2, by omega, (h59 m2 z1).trans z2, z3⟩) hALn ho (Nat.lt_succ_self _) hnew rfl rfl (by omega) (by show r ≠ 50; exact hr50) (fun b => hr50)
                        have hofn : ∀ v, offC r (ySc y) N v → Gc_241 v = G v := fun v hv => (ho v hv.2.2.2.1 hv.2.2.2.2.2.1).trans ((hw v (hv.2.2.2.2.2.2 N1 hN.1)).trans (hof v hv))
                        refine W.eq (g2 := F0 m 244 ls [.int (nI 1)]) rfl ?_
                        refine lv_pop hx hb dX7_cut_244 rfl ?_
                        refine lv_iinc (v := nI (k + 1)) (lv' := [(8, .int (nI (k + 1))), (10, .int (nI y9)), (9, .ref (Fu k)), (0, .ref (L 30 0)), (1, .int (nI i)), (2, .int (bI false)), (3, .int (nI x)), (4, .ref (L 35 i)), (5, .int (nI (x + yF y))), (6, .ref q6), (7, .ref q7)]) hx hb dX7_cut_245 hl (k := 10) rfl (nI_add _ 1) (by decide) rfl (fun ls hl => ?_)
                        refine lv_goto (tgt := 120) hx hb dX7_cut_248 (by decide) ?_
                        exact W.widen (by omega) (by omega) (ih q6 q7 pl6 pl7 (k + 1) (N1 + 1) Gc_241 H locs ls (by omega) (by omega) (by omega) h6n h7n f6n f7n hofn hI (lv_sub hl [3,4,5,6,7,8,9,10,0] rfl))
                      · skip
                        have c_195 : false = true := bI_1.mp c_195
                        exact absurd c_195 (by decide)
                  · skip
                    have c_168 : y9 < x := Nat.not_le.mp (fun z => c_168 ((nI_leI (a := x) (b := y9) (by omega) (by omega)).mpr z))
                    refine lv_aload hx hb dX7_cut_171 (lv_at hl 8 rfl) ?_
                    refine g_get S hE hI (C := RX6) (T := TX6) (N := 6) (ref := "StonecutterYardModel$Slab") (fun w h => (List.mem_cons_of_mem _ (List.mem_append_left _ (List.mem_append_right _ h)))) h6 rfl 4 (by decide) (List.mem_cons_of_mem _ (List.mem_append_left _ (List.mem_append_left _ (List.mem_append_left _ (List.mem_append_left _ (List.mem_of_getElem? (i := 9) rfl)))))) (fun _ h9 => h9) (v := .ref pl6) rfl dX7_cut_173 ?_
                    refine lv_aload hx hb dX7_cut_176 (lv_at hl 1 rfl) ?_
                    refine g_callV (As := [.ref (Fu k)]) (rest := []) (b := pl6) (n := 1) S hE hI hA (l_addS l K _ (r, 36, ySc y) (tbF r (ySc y)) pl6 (pass ((sL (yS y i)).take k) 0 0 (sW (yS y i)) x).length F6 "[I" (Fu k) (50, 0, m9) _ hAL6 (apF r (ySc y)) (by omega) hf9 isC_I (by simp [Ne.symm hr50]) (fun b => by unfold tbF; simp [Ne.symm hr50])) gX7_cut_Jx4a65c_add_9ea2d rfl (by decide +kernel) ⟨Nat.le_of_ble_eq_true rfl, Nat.le_of_ble_eq_true rfl⟩ (g_hro hE hI hl6 rfl) rfl hl.1 rfl (Nat.le_of_ble_eq_true rfl) dX7_cut_178 ⟨by show _ ≤ 24; omega, by show _ ≤ 270; omega⟩ (fun E ce q9 Gx H1 locs1 hx9 => hx9.elim) (fun rv Gc_178 H locs hp hI => ?_)
                    obtain ⟨rfl, hALn, ho⟩ := hp
                    have h6n := (ho (r, 35, ySc y) (by simp) (fun b => by unfold tbF; simp)).trans h6
                    have h7n := (ho (r, 35, ySc y + 1) (by simp) (fun b => by unfold tbF; simp)).trans h7
                    have hu8 := (ho (r, 35, i) (by simp) (fun b => by unfold tbF; simp)).trans hsu1
                    have hy8 := (ho (r, 30, 0) (by simp) (fun b => by unfold tbF; simp)).trans hyd1
                    have hlu8 := (ho (r, 36, i) (by simp; omega) (fun b => by unfold tbF; simp)).trans hlu
                    have h58 : ∀ m, Gc_178 (50, 0, m) = G1 (50, 0, m) := fun m => ho _ (by simp [Ne.symm hr50]) (fun b => by unfold tbF; simp [Ne.symm hr50])
                    have hf8 := (h58 m9).trans hf9
                    have f6n : FLi K Gc_178 (r, 36, ySc y) (tbF r (ySc y)) pl6 (pass ((sL (yS y i)).take (k + 1)) 0 0 (sW (yS y i)) x) N1 := by rw [← pass_yes c_130 hx9 hy9 (by show 0 ≤ x9 ∧ x9 - 0 < (sW (yS y i)) ∧ 0 ≤ y9 ∧ y9 - 0 < x; omega), Nat.sub_zero, Nat.sub_zero]; exact FLi.add (by omega) e62 hF6 hALn ho (by omega) hf9 hg0 hg1 hb9 (by show r ≠ 50; exact hr50) (fun b => hr50)
                    have f7n : FLi K Gc_178 (r, 36, ySc y + 1) (tbF r (ySc y + 1)) pl7 (pass ((sL (yS y i)).take (k + 1)) 0 (x + yF y) (sW (yS y i)) (sH (yS y i) - (x + yF y))) N1 := by rw [← pass_no c_130 hx9 hy9 (by show ¬ (0 ≤ x9 ∧ x9 - 0 < (sW (yS y i)) ∧ (x + yF y) ≤ y9 ∧ y9 - (x + yF y) < (sH (yS y i) - (x + yF y))); omega)]; exact f7.moved (ho _ (by simp) (fun b => by unfold tbF; simp)) (fun b9 => ho _ (by unfold tbF; simp) (fun b => by unfold tbF; cases b <;> cases b9 <;> simp <;> omega)) (fun m _ => h58 m)
                    have hofn : ∀ v, offC r (ySc y) N v → Gc_178 v = G v := fun v hv => (ho v hv.2.2.1 hv.2.2.2.2.1).trans (hof v hv)
                    refine W.eq (g2 := F0 m 181 ls [.int (nI 1)]) rfl ?_
                    refine lv_pop hx hb dX7_cut_181 rfl ?_
                    refine lv_iload hx hb dX7_cut_182 (lv_at hl 0 rfl) ?_
                    refine lv_iload hx hb dX7_cut_184 (lv_at hl 7 rfl) ?_
                    refine lv_icmp_lt (tgt := 245) hx hb dX7_cut_186 (by decide) (fun c_186 => ?_) (fun c_186 => ?_)
                    · skip
                      have c_186 : y9 < (x + yF y) := (nI_ltI (a := y9) (b := (x + yF y)) (by omega) (by omega)).mp c_186
                      refine lv_iinc (v := nI (k + 1)) (lv' := [(8, .int (nI (k + 1))), (10, .int (nI y9)), (9, .ref (Fu k)), (0, .ref (L 30 0)), (1, .int (nI i)), (2, .int (bI false)), (3, .int (nI x)), (4, .ref (L 35 i)), (5, .int (nI (x + yF y))), (6, .ref q6), (7, .ref q7)]) hx hb dX7_cut_245 hl (k := 10) rfl (nI_add _ 1) (by decide) rfl (fun ls hl => ?_)
                      refine lv_goto (tgt := 120) hx hb dX7_cut_248 (by decide) ?_
                      exact W.widen (by omega) (by omega) (ih q6 q7 pl6 pl7 (k + 1) N1 Gc_178 H locs ls (by omega) (by omega) (by omega) h6n h7n f6n f7n hofn hI (lv_sub hl [3,4,5,6,7,8,9,10,0] rfl))
                    · skip
                      have c_186 : (x + yF y) ≤ y9 := Nat.not_lt.mp (fun z => c_186 ((nI_ltI (a := y9) (b := (x + yF y)) (by omega) (by omega)).mpr z))
                      exact absurd c_186 (by omega)
                · skip
                  have c_149 : false = true := bI_1.mp c_149
                  exact absurd c_149 (by decide)
          exact W.widen (by omega) (by omega) (L120 _ q_21 q_62 pl6 pl7 0 N Gc_112 H locs ls (Nat.lt_succ_self _) (Nat.zero_le _) ⟨Nat.le_refl _, Nat.le_refl _⟩ v6_c112 v7_c112 (by rw [List.take_zero]; exact FLi.nil lv6_c112) (by rw [List.take_zero]; exact FLi.nil lv7_c112) hof0 hI (lv_sub hl [5,6,7,8,4,3,2,1,0] rfl))
        · skip
          have c_87 : false = true := bI_1.mp c_87
          exact absurd c_87 (by decide)
      · skip
        have c_67 : false = true := bI_1.mp c_67
        exact absurd c_67 (by decide)
    · skip
      have c_39 : false = true := bI_1.mp c_39
      exact absurd c_39 (by decide)
  · skip
    have c_26 : false = true := bI_1.mp c_26
    exact absurd c_26 (by decide)
