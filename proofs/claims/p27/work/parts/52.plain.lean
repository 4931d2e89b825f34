theorem gM.ok2 {l : Launch} {ym : MethodName} {ws : List Cond} {fr lo mc ms : Nat} {K : gK} {av : List Value} {G : gW} {L1 L2 : Nat → Nat → Nat} {M : Nat → Nat} {hy : Nat} {y' : YV} {o : oT} {ex : Nat → String} {v : Int32} (h : gM l ym ws fr lo mc ms K av G (oPost K L1 L2 M hy G o) (oX K L1 L2 M hy G o ex)) (e : o = (0, v, y')) : gM l ym ws fr lo mc ms K av G (fun r G1 => r = some (.int v) ∧ YardC K L1 L2 M hy G1 y' ∧ AgY G G1) gNo := by
  subst e
  exact h.mono (fun r G1 hp => ⟨hp.2.1, hp.2.2.1, hp.2.2.2⟩) (fun E G1 hp => hp.1 rfl)
theorem gM.val {l : Launch} {ym : MethodName} {ws : List Cond} {fr lo mc ms : Nat} {K : gK} {av : List Value} {G : gW} {L1 L2 : Nat → Nat → Nat} {M : Nat → Nat} {hy : Nat} {y' : YV} {v v' : Int32} (h : gM l ym ws fr lo mc ms K av G (fun r G1 => r = some (.int v) ∧ YardC K L1 L2 M hy G1 y' ∧ AgY G G1) gNo) (e : v = v') : gM l ym ws fr lo mc ms K av G (fun r G1 => r = some (.int v') ∧ YardC K L1 L2 M hy G1 y' ∧ AgY G G1) gNo := by
  subst e
  exact h
theorem e_many0 (l : Launch) (K : gK) (G : gW) (L1 L2 : Nat → Nat → Nat) (M : Nat → Nat) (hy : Nat) (y : YV)  (hlS : l.stackTraces = false) (hy0 : YardC K L1 L2 M hy G y)  : gM l yX4_many wsX4_many 5 107 0 0 K [.ref hy, .int (nI 0)] G (fun r G1 => r = some (.int (nI (ySc y))) ∧ YardC K L1 L2 M hy G1 (y) ∧ AgY G G1) gNo := by
  have h44 := hy0.2.1.1.2.2.2.1
  have h6 := hy0.2.1.1.2.2.2.2.1
  have hf2 := hy0.2.1.1.2.2.2.2.2
  exact d_many l K G L1 L2 M hy y 0 hlS hy0 (by decide)
theorem e_many4 (l : Launch) (K : gK) (G : gW) (L1 L2 : Nat → Nat → Nat) (M : Nat → Nat) (hy : Nat) (y : YV)  (hlS : l.stackTraces = false) (hy0 : YardC K L1 L2 M hy G y)  : gM l yX4_many wsX4_many 5 107 0 0 K [.ref hy, .int (nI 4)] G (fun r G1 => r = some (.int (nI (yPaid y))) ∧ YardC K L1 L2 M hy G1 (y) ∧ AgY G G1) gNo := by
  have h44 := hy0.2.1.1.2.2.2.1
  have h6 := hy0.2.1.1.2.2.2.2.1
  have hf2 := hy0.2.1.1.2.2.2.2.2
  exact d_many l K G L1 L2 M hy y 4 hlS hy0 (by decide)
theorem e_many5 (l : Launch) (K : gK) (G : gW) (L1 L2 : Nat → Nat → Nat) (M : Nat → Nat) (hy : Nat) (y : YV)  (hlS : l.stackTraces = false) (hy0 : YardC K L1 L2 M hy G y) (hPI : PI y) : gM l yX4_many wsX4_many 5 107 0 0 K [.ref hy, .int (nI 5)] G (fun r G1 => r = some (.int (nI (wst y))) ∧ YardC K L1 L2 M hy G1 (y) ∧ AgY G G1) gNo := by
  have h44 := hy0.2.1.1.2.2.2.1
  have h6 := hy0.2.1.1.2.2.2.2.1
  have hf2 := hy0.2.1.1.2.2.2.2.2
  exact gM.val (d_many l K G L1 L2 M hy y 5 hlS hy0 (by decide)) (yWaste_n hPI)
theorem e_many7 (l : Launch) (K : gK) (G : gW) (L1 L2 : Nat → Nat → Nat) (M : Nat → Nat) (hy : Nat) (y : YV)  (hlS : l.stackTraces = false) (hy0 : YardC K L1 L2 M hy G y)  : gM l yX4_many wsX4_many 5 107 0 0 K [.ref hy, .int (nI 7)] G (fun r G1 => r = some (.int (nI (yAreaT y))) ∧ YardC K L1 L2 M hy G1 (y) ∧ AgY G G1) gNo := by
  have h44 := hy0.2.1.1.2.2.2.1
  have h6 := hy0.2.1.1.2.2.2.2.1
  have hf2 := hy0.2.1.1.2.2.2.2.2
  exact d_many l K G L1 L2 M hy y 7 hlS hy0 (by decide)
theorem e_slab (l : Launch) (K : gK) (G : gW) (L1 L2 : Nat → Nat → Nat) (M : Nat → Nat) (hy : Nat) (y : YV) (w h g : Nat) (hlS : l.stackTraces = false) (hy0 : YardC K L1 L2 M hy G y) (hb9 : (1 ≤ w ∧ w ≤ 24) ∧ (1 ≤ h ∧ h ≤ 24) ∧ g ≤ 1) (hroom : ySc y < 40) : gM l yX4_slab wsX4_slab 4 89 0 0 K [.ref hy, .int (nI w), .int (nI h), .int (nI g)] G (fun r G1 => r = some (.int (nI (ySc y))) ∧ YardC K L1 L2 M hy G1 (yAddS y (w, h, g, -1, 0, [])) ∧ AgY G G1) gNo := by
  have h44 := hy0.2.1.1.2.2.2.1
  have h6 := hy0.2.1.1.2.2.2.2.1
  have hf2 := hy0.2.1.1.2.2.2.2.2
  exact gM.ok2 (c_slabC l K G L1 L2 M hy y w h g hlS hy0 hb9 hroom) (by unfold oSlab; rw [if_pos (inP_nI hb9), if_pos hroom, iN_nI (by omega), iN_nI (by omega), iN_nI (by omega)])
theorem e_flaw (l : Launch) (K : gK) (G : gW) (L1 L2 : Nat → Nat → Nat) (M : Nat → Nat) (hy : Nat) (y : YV) (i a b : Nat) (hlS : l.stackTraces = false) (hy0 : YardC K L1 L2 M hy G y) (hi : i < ySc y) (hab : a < sW (yS y i) ∧ b < sH (yS y i)) (hcond : sT (yS y i) = 0 ∧ (sL (yS y i)).length < 6) : gM l yX4_flaw wsX4_flaw 4 83 0 0 K [.ref hy, .int (nI i), .int (nI a), .int (nI b)] G (fun r G1 => r = some (.int (nI ((sL (yS y i)).length + 1))) ∧ YardC K L1 L2 M hy G1 (ySetS y i (sPut (yS y i) a b)) ∧ AgY G G1) gNo := by
  have h44 := hy0.2.1.1.2.2.2.1
  have h6 := hy0.2.1.1.2.2.2.2.1
  have hf2 := hy0.2.1.1.2.2.2.2.2
  obtain ⟨P, -, -, -, hsok⟩ := hy0.2.1.slab hi
  have hsok9 := hsok
  obtain ⟨s1, s2, s3, s4, -⟩ := hsok9
  exact gM.ok2 (c_flawD l K G L1 L2 M hy y i a b hlS hy0 hi hab hcond) (by unfold oFlaw; rw [if_pos (inR_nI hi (by omega)), iN_nI (by omega), if_pos (inPt_nI hsok hab.1 hab.2), if_pos hcond, iN_nI (by omega), iN_nI (by omega)])
theorem e_cut (l : Launch) (K : gK) (G : gW) (L1 L2 : Nat → Nat → Nat) (M : Nat → Nat) (hy : Nat) (y : YV) (i : Nat) (dn : Bool) (x : Nat) (hlS : l.stackTraces = false) (hy0 : YardC K L1 L2 M hy G y) (hi : i < ySc y) (hx24 : x ≤ 24) (hcan : canC (yLen (yS y i) dn) (yF y) x = true) (hcond : sT (yS y i) = 0 ∧ ySc y ≤ 38) : gM l yX4_cut wsX4_cut 5 117 0 0 K [.ref hy, .int (nI i), .int (bI dn), .int (nI x)] G (fun r G1 => r = some (.int (nI (ySc y))) ∧ YardC K L1 L2 M hy G1 (yCut y i dn x) ∧ AgY G G1) gNo := by
  have h44 := hy0.2.1.1.2.2.2.1
  have h6 := hy0.2.1.1.2.2.2.2.1
  have hf2 := hy0.2.1.1.2.2.2.2.2
  exact gM.ok2 (c_cut4 l K G L1 L2 M hy y i dn x hlS hy0 hi hx24 hcan hcond) (by unfold oCut; rw [if_pos (inR_nI hi (by omega)), iN_nI (by omega), if_pos (by rw [canI_nI (by omega)]; exact hcan), if_pos hcond, iN_nI (by omega)])
theorem e_cutD (l : Launch) (K : gK) (G : gW) (L1 L2 : Nat → Nat → Nat) (M : Nat → Nat) (hy : Nat) (y : YV) (i x : Nat) (hlS : l.stackTraces = false) (hy0 : YardC K L1 L2 M hy G y) (hi : i < ySc y) (hx24 : x ≤ 24) (hcan : canC (yLen (yS y i) true) (yF y) x = true) (hcond : sT (yS y i) = 0 ∧ ySc y ≤ 38) : gM l yX4_cut wsX4_cut 5 117 0 0 K [.ref hy, .int (nI i), .int (nI 1), .int (nI x)] G (fun r G1 => r = some (.int (nI (ySc y))) ∧ YardC K L1 L2 M hy G1 (yCut y i true x) ∧ AgY G G1) gNo := by
  have h44 := hy0.2.1.1.2.2.2.1
  have h6 := hy0.2.1.1.2.2.2.2.1
  have hf2 := hy0.2.1.1.2.2.2.2.2
  exact e_cut l K G L1 L2 M hy y i true x hlS hy0 hi hx24 hcan hcond
theorem e_cutA (l : Launch) (K : gK) (G : gW) (L1 L2 : Nat → Nat → Nat) (M : Nat → Nat) (hy : Nat) (y : YV) (i x : Nat) (hlS : l.stackTraces = false) (hy0 : YardC K L1 L2 M hy G y) (hi : i < ySc y) (hx24 : x ≤ 24) (hcan : canC (yLen (yS y i) false) (yF y) x = true) (hcond : sT (yS y i) = 0 ∧ ySc y ≤ 38) : gM l yX4_cut wsX4_cut 5 117 0 0 K [.ref hy, .int (nI i), .int (nI 0), .int (nI x)] G (fun r G1 => r = some (.int (nI (ySc y))) ∧ YardC K L1 L2 M hy G1 (yCut y i false x) ∧ AgY G G1) gNo := by
  have h44 := hy0.2.1.1.2.2.2.1
  have h6 := hy0.2.1.1.2.2.2.2.1
  have hf2 := hy0.2.1.1.2.2.2.2.2
  exact e_cut l K G L1 L2 M hy y i false x hlS hy0 hi hx24 hcan hcond
theorem e_kind (l : Launch) (K : gK) (G : gW) (L1 L2 : Nat → Nat → Nat) (M : Nat → Nat) (hy : Nat) (y : YV) (a b q : Nat) (hlS : l.stackTraces = false) (hy0 : YardC K L1 L2 M hy G y) (hb9 : (1 ≤ a ∧ a ≤ 24) ∧ (1 ≤ b ∧ b ≤ 24) ∧ 1 ≤ q ∧ q ≤ 999) (hroom : yKc y < 6) : gM l yX4_kind wsX4_kind 4 87 0 0 K [.ref hy, .int (nI a), .int (nI b), .int (nI q)] G (fun r G1 => r = some (.int (nI (yKc y))) ∧ YardC K L1 L2 M hy G1 (yAddK y (a, b, 0, 0, q, 0, 0, 0)) ∧ AgY G G1) gNo := by
  have h44 := hy0.2.1.1.2.2.2.1
  have h6 := hy0.2.1.1.2.2.2.2.1
  have hf2 := hy0.2.1.1.2.2.2.2.2
  have hx1 : inB (nI a) 1 24 = true := by rw [inB_nI (by omega)]; exact decide_eq_true (by omega)
  have hx2 : inB (nI b) 1 24 = true := by rw [inB_nI (by omega)]; exact decide_eq_true (by omega)
  have hx3 : inB (nI q) 1 999 = true := by rw [inB_nI (by omega)]; exact decide_eq_true (by omega)
  exact gM.ok2 (c_kindC l K G L1 L2 M hy y a b q hlS hy0 hb9 hroom) (by unfold oKind; rw [hx1, hx2, hx3, iN_nI (by omega), iN_nI (by omega), iN_nI (by omega)]; exact if_pos hroom)
theorem e_let (l : Launch) (K : gK) (G : gW) (L1 L2 : Nat → Nat → Nat) (M : Nat → Nat) (hy : Nat) (y : YV) (i w q : Nat) (hlS : l.stackTraces = false) (hy0 : YardC K L1 L2 M hy G y) (hi : i < yKc y) (hb9 : w ≤ 2 ∧ q ≤ 3) : gM l yX4_let wsX4_let 4 83 0 0 K [.ref hy, .int (nI i), .int (nI w), .int (nI q)] G (fun r G1 => r = some (.int (nI (kW (yK y i)))) ∧ YardC K L1 L2 M hy G1 (ySetK y i (kLet (yK y i) w q)) ∧ AgY G G1) gNo := by
  have h44 := hy0.2.1.1.2.2.2.1
  have h6 := hy0.2.1.1.2.2.2.2.1
  have hf2 := hy0.2.1.1.2.2.2.2.2
  exact gM.ok2 (c_letC l K G L1 L2 M hy y i w q hlS hy0 hi hb9) (by unfold oLet; rw [if_pos (inR_nI hi (by omega)), iN_nI (by omega), if_pos (by rw [inB_nI (by omega), inB_nI (by omega), decide_eq_true (by omega), decide_eq_true (by omega)]; rfl), iN_nI (by omega), iN_nI (by omega)])
theorem e_order (l : Launch) (K : gK) (G : gW) (L1 L2 : Nat → Nat → Nat) (M : Nat → Nat) (hy : Nat) (y : YV) (i q : Nat) (hlS : l.stackTraces = false) (hy0 : YardC K L1 L2 M hy G y) (hi : i < yKc y) (hb9 : 1 ≤ q ∧ q + kN (yK y i) ≤ 20) : gM l yX4_order wsX4_order 4 83 0 0 K [.ref hy, .int (nI i), .int (nI q)] G (fun r G1 => r = some (.int (nI (kN (yK y i) + q))) ∧ YardC K L1 L2 M hy G1 (ySetK y i (kOrd (yK y i) q)) ∧ AgY G G1) gNo := by
  have h44 := hy0.2.1.1.2.2.2.1
  have h6 := hy0.2.1.1.2.2.2.2.1
  have hf2 := hy0.2.1.1.2.2.2.2.2
  exact gM.ok2 (c_orderC l K G L1 L2 M hy y i q hlS hy0 hi hb9) (by unfold oOrder; rw [if_pos (inR_nI hi (by omega)), iN_nI (by omega), if_pos (by rw [inB_nI (by omega)]; exact decide_eq_true (by omega)), iN_nI (by omega)])
theorem e_take (l : Launch) (K : gK) (G : gW) (L1 L2 : Nat → Nat → Nat) (M : Nat → Nat) (hy : Nat) (y : YV) (i j mn : Nat) (hlS : l.stackTraces = false) (hy0 : YardC K L1 L2 M hy G y) (hi : i < ySc y) (hj : j < yKc y) (hfit : sFits (yS y i) (yK y j) = some mn) (hroom : ySc y ≤ 36) : gM l yX4_take wsX4_take 6 145 0 0 K [.ref hy, .int (nI i), .int (nI j)] G (fun r G1 => r = some (.int (nI (sellP (yK y j)))) ∧ YardC K L1 L2 M hy G1 (yTake y i j mn) ∧ AgY G G1) gNo := by
  have h44 := hy0.2.1.1.2.2.2.1
  have h6 := hy0.2.1.1.2.2.2.2.1
  have hf2 := hy0.2.1.1.2.2.2.2.2
  exact gM.ok2 (c_takeE l K G L1 L2 M hy y i j mn hlS hy0 hi hj hfit hroom) (by unfold oTake; rw [if_pos (by rw [inR_nI hi (by omega), inR_nI hj (by omega)]; rfl), iN_nI (by omega), iN_nI (by omega), hfit]; exact if_pos hroom)
theorem e_plan (l : Launch) (K : gK) (G : gW) (L1 L2 : Nat → Nat → Nat) (M : Nat → Nat) (hy : Nat) (y : YV) (q : Nat) (hlS : l.stackTraces = false) (hy0 : YardC K L1 L2 M hy G y) (hn9 : 1 ≤ q ∧ q ≤ 20) : gM l yX4_plan wsX4_plan 7 169 0 0 K [.ref hy, .int (nI q)] G (fun r G1 => r = some (.int (nI (yPlan q y).1)) ∧ YardC K L1 L2 M hy G1 ((yPlan q y).2) ∧ AgY G G1) gNo := by
  have h44 := hy0.2.1.1.2.2.2.1
  have h6 := hy0.2.1.1.2.2.2.2.1
  have hf2 := hy0.2.1.1.2.2.2.2.2
  exact gM.ok2 (c_planB l K G L1 L2 M hy y q hlS hy0 hn9) (by unfold oPlan; rw [if_pos (by rw [inB_nI (by omega)]; exact decide_eq_true (by omega)), iN_nI (by omega)])
theorem e_root (l : Launch) (K : gK) (G : gW) (L1 L2 : Nat → Nat → Nat) (M : Nat → Nat) (hy : Nat) (y : YV) (i : Nat) (hlS : l.stackTraces = false) (hy0 : YardC K L1 L2 M hy G y) (hi : i < ySc y) (hfr : yFr y) : gM l yX4_root wsX4_root 4 83 0 0 K [.ref hy, .int (nI i)] G (fun r G1 => r = some (.int (nI (yRoot y 40 i))) ∧ YardC K L1 L2 M hy G1 (y) ∧ AgY G G1) gNo := by
  have h44 := hy0.2.1.1.2.2.2.1
  have h6 := hy0.2.1.1.2.2.2.2.1
  have hf2 := hy0.2.1.1.2.2.2.2.2
  exact gM.ok2 (c_rootB l K G L1 L2 M hy y i hlS hy0 hi hfr) (by unfold oRoot; rw [if_pos (inR_nI hi (by omega)), iN_nI (by omega)])
theorem e_column (l : Launch) (K : gK) (G : gW) (L1 L2 : Nat → Nat → Nat) (M : Nat → Nat) (hy : Nat) (y : YV) (w h g i : Nat) (hlS : l.stackTraces = false) (hy0 : YardC K L1 L2 M hy G y) (hi : i < yKc y) (hb9 : (1 ≤ w ∧ w ≤ 24) ∧ (1 ≤ h ∧ h ≤ 24) ∧ g ≤ 1) : gM l yX4_column wsX4_column 6 144 0 0 K [.ref hy, .int (nI w), .int (nI h), .int (nI g), .int (nI i)] G (fun r G1 => r = some (.int (nI (nV (ySt2 y g) (yF y) i w h))) ∧ YardC K L1 L2 M hy G1 (y) ∧ AgY G G1) gNo := by
  have h44 := hy0.2.1.1.2.2.2.1
  have h6 := hy0.2.1.1.2.2.2.2.1
  have hf2 := hy0.2.1.1.2.2.2.2.2
  exact gM.ok2 (c_columnC l K G L1 L2 M hy y w h g i hlS hy0 hi hb9) (by unfold oColumn; rw [if_pos (inR_nI hi (by omega)), if_pos (inP_nI hb9), iN_nI (by omega), iN_nI (by omega), iN_nI (by omega), iN_nI (by omega)])
theorem e_more (l : Launch) (K : gK) (G : gW) (L1 L2 : Nat → Nat → Nat) (M : Nat → Nat) (hy : Nat) (y : YV) (i q : Nat) (hlS : l.stackTraces = false) (hy0 : YardC K L1 L2 M hy G y) (hi : i < yKc y) (hb9 : 1 ≤ q ∧ q ≤ 999) : gM l yX4_worthMore wsX4_worthMore 7 169 0 0 K [.ref hy, .int (nI i), .int (nI q)] G (fun r G1 => r = some (.int (nI (yAll (ySetK y i (kPr (yK y i) q))) - nI (yAll y))) ∧ YardC K L1 L2 M hy G1 (y) ∧ AgY G G1) gNo := by
  have h44 := hy0.2.1.1.2.2.2.1
  have h6 := hy0.2.1.1.2.2.2.2.1
  have hf2 := hy0.2.1.1.2.2.2.2.2
  exact gM.ok2 (c_moreC l K G L1 L2 M hy y i q hlS hy0 hi hb9) (by unfold oMore; rw [if_pos (inR_nI hi (by omega)), iN_nI (by omega), if_pos (by rw [inB_nI (by omega)]; exact decide_eq_true (by omega)), iN_nI (by omega)])
theorem e_wasteN (l : Launch) (K : gK) (G : gW) (L1 L2 : Nat → Nat → Nat) (M : Nat → Nat) (hy : Nat) (y : YV) (i j : Nat) (hlS : l.stackTraces = false) (hy0 : YardC K L1 L2 M hy G y) (hi : i < ySc y) (hj : j < yKc y) (hfit : sFits (yS y i) (yK y j) = none) : gM l yX4_wasteBy wsX4_wasteBy 6 145 0 0 K [.ref hy, .int (nI i), .int (nI j)] G (fun r G1 => r = some (.int (-1)) ∧ YardC K L1 L2 M hy G1 (y) ∧ AgY G G1) gNo := by
  have h44 := hy0.2.1.1.2.2.2.1
  have h6 := hy0.2.1.1.2.2.2.2.1
  have hf2 := hy0.2.1.1.2.2.2.2.2
  exact gM.ok2 (c_wasteByC l K G L1 L2 M hy y i j hlS hy0 hi hj hfit) (by unfold oWasteBy; rw [if_pos (by rw [inR_nI hi (by omega), inR_nI hj (by omega)]; rfl), iN_nI (by omega), iN_nI (by omega), hfit])
theorem e_wasteS (l : Launch) (K : gK) (G : gW) (L1 L2 : Nat → Nat → Nat) (M : Nat → Nat) (hy : Nat) (y : YV) (i j mn : Nat) (hlS : l.stackTraces = false) (hy0 : YardC K L1 L2 M hy G y) (hi : i < ySc y) (hj : j < yKc y) (hfit : sFits (yS y i) (yK y j) = some mn) (hPI : PI (yTake y i j mn)) : gM l yX4_wasteBy wsX4_wasteBy 6 145 0 0 K [.ref hy, .int (nI i), .int (nI j)] G (fun r G1 => r = some (.int (nI (wst (yTake y i j mn)))) ∧ YardC K L1 L2 M hy G1 (y) ∧ AgY G G1) gNo := by
  have h44 := hy0.2.1.1.2.2.2.1
  have h6 := hy0.2.1.1.2.2.2.2.1
  have hf2 := hy0.2.1.1.2.2.2.2.2
  exact gM.val (gM.ok2 (c_wasteByD l K G L1 L2 M hy y i j mn hlS hy0 hi hj hfit) (by unfold oWasteBy; rw [if_pos (by rw [inR_nI hi (by omega), inR_nI hj (by omega)]; rfl), iN_nI (by omega), iN_nI (by omega), hfit])) (yWaste_n hPI)
theorem e_fitsN (l : Launch) (K : gK) (G : gW) (L1 L2 : Nat → Nat → Nat) (M : Nat → Nat) (hy : Nat) (y : YV) (i j : Nat) (hlS : l.stackTraces = false) (hy0 : YardC K L1 L2 M hy G y) (hi : i < ySc y) (hj : j < yKc y) (hfit : sFits (yS y i) (yK y j) = none) : gM l yX4_fits wsX4_fits 4 90 0 0 K [.ref hy, .int (nI i), .int (nI j)] G (fun r G1 => r = some (.int (-1)) ∧ YardC K L1 L2 M hy G1 (y) ∧ AgY G G1) gNo := by
  have h44 := hy0.2.1.1.2.2.2.1
  have h6 := hy0.2.1.1.2.2.2.2.1
  have hf2 := hy0.2.1.1.2.2.2.2.2
  exact gM.val (d_fits l K G L1 L2 M hy y i j hlS hy0 hi hj) (by rw [hfit]; rfl)
theorem e_fitsS (l : Launch) (K : gK) (G : gW) (L1 L2 : Nat → Nat → Nat) (M : Nat → Nat) (hy : Nat) (y : YV) (i j mn : Nat) (hlS : l.stackTraces = false) (hy0 : YardC K L1 L2 M hy G y) (hi : i < ySc y) (hj : j < yKc y) (hfit : sFits (yS y i) (yK y j) = some mn) : gM l yX4_fits wsX4_fits 4 90 0 0 K [.ref hy, .int (nI i), .int (nI j)] G (fun r G1 => r = some (.int (nI mn)) ∧ YardC K L1 L2 M hy G1 (y) ∧ AgY G G1) gNo := by
  have h44 := hy0.2.1.1.2.2.2.1
  have h6 := hy0.2.1.1.2.2.2.2.1
  have hf2 := hy0.2.1.1.2.2.2.2.2
  exact gM.val (d_fits l K G L1 L2 M hy y i j hlS hy0 hi hj) (by rw [hfit]; rfl)
