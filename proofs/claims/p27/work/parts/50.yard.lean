/-! what stays true of a yard from call to call -/
theorem sumN_fU {α : Type} {F : α → Nat} {g : Nat → α} {i : Nat} {v : α} : ∀ {n : Nat}, i < n → sumN (fun m => F (fU g i v m)) n + F (g i) = sumN (fun m => F (g m)) n + F v
  | 0, h => absurd h (Nat.not_lt_zero i)
  | n + 1, h => by
    rw [sumN_s, sumN_s]
    by_cases e : i = n
    · subst e
      rw [fU_eq, sumN_cong (g := fun m => F (g m)) (fun m hm => by rw [fU_ne (Nat.ne_of_lt hm)])]
      omega
    · have h1 := sumN_fU (F := F) (g := g) (v := v) (i := i) (n := n) (by omega)
      rw [fU_ne (fun z => e z.symm)]
      omega
theorem sumN_two {α : Type} {F : α → Nat} {g : Nat → α} {n v : α} {k : Nat} : sumN (fun m => F (fU (fU g k n) (k + 1) v m)) (k + 2) = sumN (fun m => F (g m)) k + F n + F v := by
  rw [sumN_s, sumN_s, fU_eq, fU_ne (by omega), fU_eq, sumN_cong (g := fun m => F (g m)) (fun m hm => by rw [fU_ne (by omega), fU_ne (by omega)])]
def aT (u : SV) : Nat := if sT u = 0 then sA u else 0
def a0 (u : SV) : Nat := if sF u = -1 then sA u else 0
def kS (k : KV) : Nat := kT k * kL k * kB k
theorem yAreaT_e (y : YV) : yAreaT y = sumN (fun i => aT (yS y i)) (ySc y) := rfl
theorem yArea0_e (y : YV) : yArea0 y = sumN (fun i => a0 (yS y i)) (ySc y) := rfl
theorem ySt_e (y : YV) : ySt y = sumN (fun i => kS (yK y i)) (yKc y) := rfl
theorem yPaid_e (y : YV) : yPaid y = sumN (fun i => kD (yK y i)) (yKc y) := rfl
theorem aT_0 {u : SV} (h : sT u = 0) : aT u = sA u := if_pos h
theorem aT_n {u : SV} (h : sT u ≠ 0) : aT u = 0 := if_neg h
theorem aT_le (u : SV) : aT u ≤ sA u := by unfold aT; split <;> omega
/-- a cut, summed up -/
theorem cut_sum {F : SV → Nat} {y : YV} {i x : Nat} {dn : Bool} (hi : i < ySc y) (hc : canC (yLen (yS y i) dn) (yF y) x = true) : sumN (fun m => F (yS (yCut y i dn x) m)) (ySc (yCut y i dn x)) + F (yS y i) = sumN (fun m => F (yS y m)) (ySc y) + F (cutN (yS y i) i dn x) + F (cutF (yS y i) i dn (x + yF y)) + F (sState (yS y i) 1) := by
  rw [yCut_yes hc]
  show sumN (fun m => F (fU (fU (fU (yS y) (ySc y) (cutN (yS y i) i dn x)) (ySc y + 1) (cutF (yS y i) i dn (x + yF y))) i (sState (yS y i) 1) m)) (ySc y + 2) + _ = _
  have h1 := sumN_fU (F := F) (g := fU (fU (yS y) (ySc y) (cutN (yS y i) i dn x)) (ySc y + 1) (cutF (yS y i) i dn (x + yF y))) (i := i) (v := sState (yS y i) 1) (n := ySc y + 2) (by omega)
  have h2 : fU (fU (yS y) (ySc y) (cutN (yS y i) i dn x)) (ySc y + 1) (cutF (yS y i) i dn (x + yF y)) i = yS y i := by rw [fU_ne (by omega), fU_ne (by omega)]
  rw [h2, sumN_two] at h1
  omega
theorem cutN_F {u : SV} {i x : Nat} {dn : Bool} : sF (cutN u i dn x) = nI i := by cases dn <;> rfl
theorem cutF_F {u : SV} {i x : Nat} {dn : Bool} : sF (cutF u i dn x) = nI i := by cases dn <;> rfl
theorem cutN_T {u : SV} {i x : Nat} {dn : Bool} : sT (cutN u i dn x) = 0 := by cases dn <;> rfl
theorem cutF_T {u : SV} {i x : Nat} {dn : Bool} : sT (cutF u i dn x) = 0 := by cases dn <;> rfl
theorem cutN_G {u : SV} {i x : Nat} {dn : Bool} : sG (cutN u i dn x) = sG u := by cases dn <;> rfl
theorem cutF_G {u : SV} {i x : Nat} {dn : Bool} : sG (cutF u i dn x) = sG u := by cases dn <;> rfl
theorem cut_dims {u : SV} {i x kf : Nat} {dn : Bool} (hc : canC (yLen u dn) kf x = true) : (sW (cutN u i dn x) ≤ sW u ∧ sH (cutN u i dn x) ≤ sH u) ∧ (sW (cutF u i dn (x + kf)) ≤ sW u ∧ sH (cutF u i dn (x + kf)) ≤ sH u) ∧ sA (cutN u i dn x) + sA (cutF u i dn (x + kf)) ≤ sA u := by
  have h1 := of_decide_eq_true hc
  cases dn
  · have h2 : 1 ≤ x ∧ x + kf < sH u := h1
    refine ⟨⟨Nat.le_refl _, by show x ≤ sH u; omega⟩, ⟨Nat.le_refl _, Nat.sub_le _ _⟩, ?_⟩
    show sW u * x + sW u * (sH u - (x + kf)) ≤ sW u * sH u
    rw [← Nat.mul_add]
    exact Nat.mul_le_mul_left _ (by omega)
  · have h2 : 1 ≤ x ∧ x + kf < sW u := h1
    refine ⟨⟨by show x ≤ sW u; omega, Nat.le_refl _⟩, ⟨Nat.sub_le _ _, Nat.le_refl _⟩, ?_⟩
    show x * sH u + (sW u - (x + kf)) * sH u ≤ sW u * sH u
    rw [← Nat.add_mul]
    exact Nat.mul_le_mul_right _ (by omega)
theorem a0_F {u : SV} {n : Nat} (h : sF u = nI n) (hn : n < 2 ^ 31) : a0 u = 0 := by
  unfold a0
  rw [h, if_neg (nI_m1 hn)]
theorem cut_areas {y : YV} {i x : Nat} {dn : Bool} (hi : i < ySc y) (h44 : ySc y ≤ 44) (hT : sT (yS y i) = 0) : yAreaT (yCut y i dn x) ≤ yAreaT y ∧ yArea0 (yCut y i dn x) = yArea0 y := by
  cases hc : canC (yLen (yS y i) dn) (yF y) x with
  | false => rw [yCut_no hc]; exact ⟨Nat.le_refl _, rfl⟩
  | true =>
    have h1 := cut_sum (F := aT) hi hc
    have h2 := cut_sum (F := a0) hi hc
    have h3 := (cut_dims (i := i) hc).2.2
    rw [← yAreaT_e, ← yAreaT_e, aT_0 hT, aT_0 cutN_T, aT_0 cutF_T, aT_n (u := sState (yS y i) 1) (by show (1 : Nat) ≠ 0; decide)] at h1
    rw [← yArea0_e, ← yArea0_e, a0_F cutN_F (by omega), a0_F cutF_F (by omega), show a0 (sState (yS y i) 1) = a0 (yS y i) from rfl] at h2
    omega
theorem cutR_at {y : YV} {i x : Nat} {dn : Bool} (hi : i < ySc y) : yS (yCut y i dn x) (yCutR y i dn x) = if canC (yLen (yS y i) dn) (yF y) x = true then cutN (yS y i) i dn x else yS y i := by
  cases hc : canC (yLen (yS y i) dn) (yF y) x with
  | false => rw [yCut_no hc, yCutR_no hc, if_neg (by decide)]
  | true =>
    rw [yCut_yes hc, yCutR_yes hc, if_pos rfl]
    show fU (fU (fU (yS y) (ySc y) _) (ySc y + 1) _) i _ (ySc y) = _
    rw [fU_ne (by omega), fU_ne (by omega), fU_eq]
/-- the slab that was cut, and those that were not -/
theorem cut_self {y : YV} {i x : Nat} {dn : Bool} (hc : canC (yLen (yS y i) dn) (yF y) x = true) : yS (yCut y i dn x) i = sState (yS y i) 1 := by
  rw [yCut_yes hc]
  exact fU_eq
theorem cut_old {y : YV} {i x m : Nat} {dn : Bool} (hm : m < ySc y) (hne : m ≠ i) : yS (yCut y i dn x) m = yS y m := by
  cases hc : canC (yLen (yS y i) dn) (yF y) x with
  | false => rw [yCut_no hc]
  | true =>
    rw [yCut_yes hc]
    show fU (fU (fU (yS y) (ySc y) _) (ySc y + 1) _) i _ m = _
    rw [fU_ne hne, fU_ne (by omega), fU_ne (by omega)]
theorem cut_n1 {y : YV} {i x : Nat} {dn : Bool} (hi : i < ySc y) (hc : canC (yLen (yS y i) dn) (yF y) x = true) : yS (yCut y i dn x) (ySc y) = cutN (yS y i) i dn x := by
  have h := cutR_at (dn := dn) (x := x) hi
  rw [yCutR_yes hc, if_pos hc] at h
  exact h
theorem cut_n2 {y : YV} {i x : Nat} {dn : Bool} (hi : i < ySc y) (hc : canC (yLen (yS y i) dn) (yF y) x = true) : yS (yCut y i dn x) (ySc y + 1) = cutF (yS y i) i dn (x + yF y) := by
  rw [yCut_yes hc]
  show fU (fU (fU (yS y) (ySc y) _) (ySc y + 1) _) i _ (ySc y + 1) = _
  rw [fU_ne (by omega), fU_eq]
/-- where each slab came of -/
def yFc (y : YV) : Prop := ∀ i, i < ySc y → sF (yS y i) = -1 ∨ ∃ j, j < i ∧ sF (yS y i) = nI j ∧ sT (yS y j) = 1 ∧ sG (yS y i) = sG (yS y j) ∧ sW (yS y i) ≤ sW (yS y j) ∧ sH (yS y i) ≤ sH (yS y j)
theorem yFc.fr {y : YV} (h : yFc y) : yFr y := fun i hi => (h i hi).elim Or.inl (fun ⟨j, h1, h2, _⟩ => Or.inr ⟨j, h1, h2⟩)
theorem yFc_set {y : YV} (h : yFc y) {i : Nat} {u : SV} (e : sF u = sF (yS y i) ∧ sG u = sG (yS y i) ∧ sW u = sW (yS y i) ∧ sH u = sH (yS y i) ∧ (sT (yS y i) = 1 → sT u = 1)) : yFc (ySetS y i u) := by
  obtain ⟨e1, e2, e3, e4, e5⟩ := e
  have hF : ∀ m, sF (fU (yS y) i u m) = sF (yS y m) := fun m => by
    by_cases c : m = i
    · subst c; rw [fU_eq]; exact e1
    · rw [fU_ne c]
  have hG : ∀ m, sG (fU (yS y) i u m) = sG (yS y m) := fun m => by
    by_cases c : m = i
    · subst c; rw [fU_eq]; exact e2
    · rw [fU_ne c]
  have hW : ∀ m, sW (fU (yS y) i u m) = sW (yS y m) := fun m => by
    by_cases c : m = i
    · subst c; rw [fU_eq]; exact e3
    · rw [fU_ne c]
  have hH : ∀ m, sH (fU (yS y) i u m) = sH (yS y m) := fun m => by
    by_cases c : m = i
    · subst c; rw [fU_eq]; exact e4
    · rw [fU_ne c]
  have hT : ∀ m, sT (yS y m) = 1 → sT (fU (yS y) i u m) = 1 := fun m hm => by
    by_cases c : m = i
    · subst c; rw [fU_eq]; exact e5 hm
    · rw [fU_ne c]; exact hm
  intro m hm
  show sF (fU (yS y) i u m) = -1 ∨ ∃ j, j < m ∧ sF (fU (yS y) i u m) = nI j ∧ sT (fU (yS y) i u j) = 1 ∧ sG (fU (yS y) i u m) = sG (fU (yS y) i u j) ∧ sW (fU (yS y) i u m) ≤ sW (fU (yS y) i u j) ∧ sH (fU (yS y) i u m) ≤ sH (fU (yS y) i u j)
  rcases h m hm with h1 | ⟨j, h1, h2, h3, h4, h5, h6⟩
  · exact Or.inl ((hF m).trans h1)
  · exact Or.inr ⟨j, h1, (hF m).trans h2, hT j h3, by rw [hG, hG]; exact h4, by rw [hW, hW]; exact h5, by rw [hH, hH]; exact h6⟩
theorem yFc_add {y : YV} (h : yFc y) {u : SV} (hu : sF u = -1) : yFc (yAddS y u) := by
  intro m hm
  have hm : m < ySc y + 1 := hm
  show sF (fU (yS y) (ySc y) u m) = -1 ∨ ∃ j, j < m ∧ sF (fU (yS y) (ySc y) u m) = nI j ∧ sT (fU (yS y) (ySc y) u j) = 1 ∧ sG (fU (yS y) (ySc y) u m) = sG (fU (yS y) (ySc y) u j) ∧ sW (fU (yS y) (ySc y) u m) ≤ sW (fU (yS y) (ySc y) u j) ∧ sH (fU (yS y) (ySc y) u m) ≤ sH (fU (yS y) (ySc y) u j)
  by_cases e : m = ySc y
  · subst e
    rw [fU_eq]
    exact Or.inl hu
  · rw [fU_ne e]
    rcases h m (by omega) with h1 | ⟨j, h1, h2⟩
    · exact Or.inl h1
    · refine Or.inr ⟨j, h1, ?_⟩
      rw [fU_ne (show j ≠ ySc y by omega)]
      exact h2
theorem yFc_cut {y : YV} (h : yFc y) {i x : Nat} {dn : Bool} (hi : i < ySc y) : yFc (yCut y i dn x) := by
  cases hc : canC (yLen (yS y i) dn) (yF y) x with
  | false => rw [yCut_no hc]; exact h
  | true =>
    have hs := cut_self hc
    obtain ⟨⟨d1, d2⟩, ⟨d3, d4⟩, -⟩ := cut_dims (i := i) hc
    intro m hm
    have hm2 : m < ySc y + 2 := by rw [yCut_yes hc] at hm; exact hm
    by_cases e1 : m = ySc y
    · subst e1
      rw [cut_n1 hi hc]
      exact Or.inr ⟨i, hi, cutN_F, by rw [hs], by rw [hs]; exact cutN_G, by rw [hs]; exact d1, by rw [hs]; exact d2⟩
    · by_cases e2 : m = ySc y + 1
      · subst e2
        rw [cut_n2 hi hc]
        exact Or.inr ⟨i, by omega, cutF_F, by rw [hs], by rw [hs]; exact cutF_G, by rw [hs]; exact d3, by rw [hs]; exact d4⟩
      · have hm3 : m < ySc y := by omega
        have hfield : ∀ q, q < ySc y → sF (yS (yCut y i dn x) q) = sF (yS y q) ∧ sG (yS (yCut y i dn x) q) = sG (yS y q) ∧ sW (yS (yCut y i dn x) q) = sW (yS y q) ∧ sH (yS (yCut y i dn x) q) = sH (yS y q) ∧ (sT (yS y q) = 1 → sT (yS (yCut y i dn x) q) = 1) := fun q hq => by
          by_cases e : q = i
          · subst e; rw [hs]; exact ⟨rfl, rfl, rfl, rfl, fun _ => rfl⟩
          · rw [cut_old hq e]; exact ⟨rfl, rfl, rfl, rfl, fun z => z⟩
        obtain ⟨f1, f2, f3, f4, -⟩ := hfield m hm3
        rw [f1, f2, f3, f4]
        rcases h m hm3 with h1 | ⟨j, h1, h2, h3, h4, h5, h6⟩
        · exact Or.inl h1
        · obtain ⟨-, g2, g3, g4, g5⟩ := hfield j (by omega)
          exact Or.inr ⟨j, h1, h2, g5 h3, by rw [g2]; exact h4, by rw [g3]; exact h5, by rw [g4]; exact h6⟩
/-- two yards with the same slabs -/
theorem yFc_of {y y' : YV} (h : yFc y) (e1 : ySc y' = ySc y) (e2 : yS y' = yS y) : yFc y' := by
  intro m hm
  rw [e2]
  exact h m (by rw [← e1]; exact hm)
theorem sFits_ok {u : SV} {k : KV} {mn : Nat} (h : sFits u k = some mn) : sT u = 0 ∧ kw k mn ≤ sW u ∧ kh k mn ≤ sH u := by
  have hT : sT u = 0 := Classical.byContradiction fun z => by rw [sFits_n0 z] at h; cases h
  have hk : sOkIn u k mn = true := by
    unfold sFits at h
    rw [if_pos hT] at h
    by_cases c0 : sOkIn u k 0 = true
    · rw [if_pos c0] at h; cases h; exact c0
    · rw [if_neg c0] at h
      by_cases c1 : sOkIn u k 1 = true
      · rw [if_pos c1] at h; cases h; exact c1
      · rw [if_neg c1] at h; cases h
  have h2 := ((Bool.and_eq_true _ _).mp ((Bool.and_eq_true _ _).mp hk).1).2
  have h3 := (Bool.and_eq_true _ _).mp h2
  exact ⟨hT, of_decide_eq_true h3.1, of_decide_eq_true h3.2⟩
theorem yCut_F {y : YV} {i x : Nat} {dn : Bool} : yF (yCut y i dn x) = yF y := by unfold yCut; split <;> rfl
/-- the slab that comes to be the stone -/
theorem take_slab {y : YV} {i mn : Nat} {k : KV} (hi : i < ySc y) (hT : sT (yS y i) = 0) (hw : kw k mn ≤ sW (yS y i)) (hh : kh k mn ≤ sH (yS y i)) :
    (sT (yS (yT1 y i mn k) (nT1 y i mn k)) = 0 ∧ nT1 y i mn k < ySc (yT1 y i mn k)) ∧ (sT (yS (yT2 y i mn k) (nT2 y i mn k)) = 0 ∧ nT2 y i mn k < ySc (yT2 y i mn k)) ∧ kw k mn ≤ sW (yS (yT2 y i mn k) (nT2 y i mn k)) ∧ kh k mn ≤ sH (yS (yT2 y i mn k) (nT2 y i mn k)) := by
  have l1 : nT1 y i mn k < ySc (yT1 y i mn k) := yCutR_lt hi
  have l2 : nT2 y i mn k < ySc (yT2 y i mn k) := yCutR_lt l1
  have h1 := cutR_at (y := y) (dn := true) (x := kw k mn) hi
  have h2 := cutR_at (y := yT1 y i mn k) (dn := false) (x := kh k mn) l1
  have a1 : sT (yS (yT1 y i mn k) (nT1 y i mn k)) = 0 ∧ kw k mn ≤ sW (yS (yT1 y i mn k) (nT1 y i mn k)) ∧ sH (yS (yT1 y i mn k) (nT1 y i mn k)) = sH (yS y i) := by
    show sT (yS (yCut y i true (kw k mn)) (yCutR y i true (kw k mn))) = 0 ∧ _ ≤ sW (yS (yCut y i true (kw k mn)) (yCutR y i true (kw k mn))) ∧ sH (yS (yCut y i true (kw k mn)) (yCutR y i true (kw k mn))) = _
    rw [h1]
    split
    · exact ⟨cutN_T, Nat.le_refl _, rfl⟩
    · exact ⟨hT, hw, rfl⟩
  refine ⟨⟨a1.1, l1⟩, ?_⟩
  show (sT (yS (yCut (yT1 y i mn k) (nT1 y i mn k) false (kh k mn)) (yCutR (yT1 y i mn k) (nT1 y i mn k) false (kh k mn))) = 0 ∧ _) ∧ _ ≤ sW (yS (yCut (yT1 y i mn k) (nT1 y i mn k) false (kh k mn)) (yCutR (yT1 y i mn k) (nT1 y i mn k) false (kh k mn))) ∧ _ ≤ sH (yS (yCut (yT1 y i mn k) (nT1 y i mn k) false (kh k mn)) (yCutR (yT1 y i mn k) (nT1 y i mn k) false (kh k mn)))
  rw [h2]
  split
  · exact ⟨⟨cutN_T, l2⟩, a1.2.1, Nat.le_refl _⟩
  · exact ⟨⟨a1.1, l2⟩, a1.2.1, by rw [a1.2.2]; exact hh⟩
theorem kwh {k : KV} {mn : Nat} : kw k mn * kh k mn = kL k * kB k := by
  unfold kw kh
  split
  · rfl
  · exact Nat.mul_comm _ _
theorem take_K {y : YV} {i j mn m : Nat} : yK (yTake y i j mn) m = (if m ≠ j ∧ 0 < kN (fU (yK y) j (sellK (yK y j)) m) then dearK (fU (yK y) j (sellK (yK y j)) m) else fU (yK y) j (sellK (yK y j)) m) := by
  have e : yK (yT3 y i mn (yK y j)) = yK y := (yCut_K (y := yT1 y i mn (yK y j))).trans yCut_K
  show (if m ≠ j ∧ 0 < kN (fU (yK (yT3 y i mn (yK y j))) j (sellK (yK y j)) m) then dearK (fU (yK (yT3 y i mn (yK y j))) j (sellK (yK y j)) m) else fU (yK (yT3 y i mn (yK y j))) j (sellK (yK y j)) m) = _
  rw [e]
theorem take_Kc {y : YV} {i j mn : Nat} : yKc (yTake y i j mn) = yKc y := (yCut_Kc (y := yT1 y i mn (yK y j))).trans yCut_Kc
theorem take_F {y : YV} {i j mn : Nat} : yF (yTake y i j mn) = yF y := (yCut_F (y := yT1 y i mn (yK y j))).trans yCut_F
theorem take_same {F : KV → Nat} (hF : ∀ k, F (dearK k) = F k) {y : YV} {i j mn m : Nat} : F (yK (yTake y i j mn) m) = F (fU (yK y) j (sellK (yK y j)) m) := by
  rw [take_K]
  split
  · exact hF _
  · rfl
theorem take_sum {F : KV → Nat} (hF : ∀ k, F (dearK k) = F k) {y : YV} {i j mn : Nat} (hj : j < yKc y) : sumN (fun m => F (yK (yTake y i j mn) m)) (yKc y) + F (yK y j) = sumN (fun m => F (yK y m)) (yKc y) + F (sellK (yK y j)) := by
  rw [sumN_cong (g := fun m => F (fU (yK y) j (sellK (yK y j)) m)) (fun m _ => take_same hF)]
  exact sumN_fU hj
/-- the prices lie in their bounds -/
def yPr (y : YV) : Prop := ∀ j, j < yKc y → 1 ≤ kP (yK y j) ∧ kP (yK y j) ≤ 999
theorem yPr_take {y : YV} (h : yPr y) {i j mn : Nat} (hj : j < yKc y) : yPr (yTake y i j mn) := by
  intro m hm
  rw [take_Kc] at hm
  have hf : 1 ≤ kP (fU (yK y) j (sellK (yK y j)) m) ∧ kP (fU (yK y) j (sellK (yK y j)) m) ≤ 999 := by
    by_cases e : m = j
    · subst e
      rw [fU_eq]
      have := h m hm
      show 1 ≤ max 1 (kP (yK y m) * 9 / 10) ∧ max 1 (kP (yK y m) * 9 / 10) ≤ 999
      omega
    · rw [fU_ne e]; exact h m hm
  rw [take_K]
  split
  · show 1 ≤ min 999 (kP (fU (yK y) j (sellK (yK y j)) m) + 1) ∧ min 999 (kP (fU (yK y) j (sellK (yK y j)) m) + 1) ≤ 999
    omega
  · exact hf
theorem sellP_le {y : YV} (h : yPr y) {j : Nat} (hj : j < yKc y) : sellP (yK y j) ≤ 999 := by
  have := h j hj
  unfold sellP
  split <;> omega
/-- what holds of a yard between two calls: its kerf, where slabs came of, prices, areas -/
def PI (y : YV) : Prop := yF y = 1 ∧ yFc y ∧ yPr y ∧ yAreaT y + ySt y ≤ yArea0 y
def wst (y : YV) : Nat := yArea0 y - yAreaT y - ySt y
theorem yWaste_n {y : YV} (h : PI y) : yWaste y = nI (wst y) := by
  have h4 := h.2.2.2
  unfold yWaste
  rw [pk_sub (by omega), pk_sub (by omega)]
  rfl
/-- a yard and what comes of it: no less waste, no less paid, at most c more -/
def stp (c : Nat) (y y' : YV) : Prop := PI y' ∧ yKc y' = yKc y ∧ wst y ≤ wst y' ∧ yArea0 y' = yArea0 y ∧ yPaid y ≤ yPaid y' ∧ yPaid y' ≤ yPaid y + c
theorem stp.rf {y : YV} (h : PI y) (c : Nat) : stp c y y := ⟨h, rfl, Nat.le_refl _, rfl, Nat.le_refl _, Nat.le_add_right _ _⟩
theorem stp.tr {a b : Nat} {y y1 y2 : YV} (h : stp a y y1) (h2 : stp b y1 y2) : stp (a + b) y y2 := by
  obtain ⟨-, h3, h4, h5, h6, h7⟩ := h
  obtain ⟨g1, g3, g4, g5, g6, g7⟩ := h2
  exact ⟨g1, g3.trans h3, Nat.le_trans h4 g4, g5.trans h5, Nat.le_trans h6 g6, by omega⟩
theorem stp.wd {a b : Nat} {y y1 : YV} (h : stp a y y1) (hab : a ≤ b) : stp b y y1 := ⟨h.1, h.2.1, h.2.2.1, h.2.2.2.1, h.2.2.2.2.1, by have := h.2.2.2.2.2; omega⟩
theorem stp_cut {y : YV} (h : PI y) {i x : Nat} {dn : Bool} (hi : i < ySc y) (h44 : ySc y ≤ 44) (hT : sT (yS y i) = 0) : stp 0 y (yCut y i dn x) := by
  obtain ⟨h1, h2, h3, h4⟩ := h
  obtain ⟨a1, a2⟩ := cut_areas (dn := dn) (x := x) hi h44 hT
  have e1 : ySt (yCut y i dn x) = ySt y := by rw [ySt_e, ySt_e, yCut_K, yCut_Kc]
  have e2 : yPaid (yCut y i dn x) = yPaid y := by rw [yPaid_e, yPaid_e, yCut_K, yCut_Kc]
  refine ⟨⟨yCut_F.trans h1, yFc_cut h2 hi, fun j hj => ?_, by omega⟩, yCut_Kc, by unfold wst; omega, a2, by omega, by omega⟩
  rw [yCut_K]
  rw [yCut_Kc] at hj
  exact h3 j hj
theorem set_areas {y : YV} {i : Nat} {u : SV} (hi : i < ySc y) (e : sW u = sW (yS y i) ∧ sH u = sH (yS y i) ∧ sF u = sF (yS y i)) : yAreaT (ySetS y i u) + aT (yS y i) = yAreaT y + aT u ∧ yArea0 (ySetS y i u) = yArea0 y := by
  have h1 := sumN_fU (F := aT) (g := yS y) (i := i) (v := u) (n := ySc y) hi
  have h2 := sumN_fU (F := a0) (g := yS y) (i := i) (v := u) (n := ySc y) hi
  have e2 : a0 u = a0 (yS y i) := by unfold a0 sA; rw [e.1, e.2.1, e.2.2]
  refine ⟨h1, ?_⟩
  show sumN (fun m => a0 (fU (yS y) i u m)) (ySc y) = sumN (fun m => a0 (yS y m)) (ySc y)
  omega
theorem stp_flaw {y : YV} (h : PI y) {i a b : Nat} (hi : i < ySc y) : stp 0 y (ySetS y i (sPut (yS y i) a b)) := by
  obtain ⟨h1, h2, h3, h4⟩ := h
  obtain ⟨a1, a2⟩ := set_areas (u := sPut (yS y i) a b) hi ⟨rfl, rfl, rfl⟩
  have a3 : yAreaT (ySetS y i (sPut (yS y i) a b)) = yAreaT y := by
    rw [show aT (sPut (yS y i) a b) = aT (yS y i) from rfl] at a1
    omega
  have e1 : ySt (ySetS y i (sPut (yS y i) a b)) = ySt y := rfl
  refine ⟨⟨h1, yFc_set h2 ⟨rfl, rfl, rfl, rfl, fun z => z⟩, h3, by omega⟩, rfl, by unfold wst; omega, a2, Nat.le_refl _, Nat.le_refl _⟩
theorem stp_setK {y : YV} (h : PI y) {j : Nat} {k : KV} (hj : j < yKc y) (hS : kS k = kS (yK y j)) (hD : kD k = kD (yK y j)) (hP : kP k = kP (yK y j)) : stp 0 y (ySetK y j k) := by
  obtain ⟨h1, h2, h3, h4⟩ := h
  have e1 : ySt (ySetK y j k) = ySt y := by
    have := sumN_fU (F := kS) (g := yK y) (i := j) (v := k) (n := yKc y) hj
    rw [hS] at this
    show sumN (fun m => kS (fU (yK y) j k m)) (yKc y) = sumN (fun m => kS (yK y m)) (yKc y)
    omega
  have e2 : yPaid (ySetK y j k) = yPaid y := by
    have := sumN_fU (F := fun k => kD k) (g := yK y) (i := j) (v := k) (n := yKc y) hj
    show sumN (fun m => kD (fU (yK y) j k m)) (yKc y) = sumN (fun m => kD (yK y m)) (yKc y)
    have e3 : (fun k => kD k) k = (fun k => kD k) (yK y j) := hD
    omega
  have e3 : yAreaT (ySetK y j k) = yAreaT y := rfl
  have e4 : yArea0 (ySetK y j k) = yArea0 y := rfl
  refine ⟨⟨h1, yFc_of h2 rfl rfl, fun m hm => ?_, by omega⟩, rfl, by unfold wst; omega, rfl, by omega, by omega⟩
  show 1 ≤ kP (fU (yK y) j k m) ∧ kP (fU (yK y) j k m) ≤ 999
  by_cases e : m = j
  · subst e; rw [fU_eq, hP]; exact h3 m hm
  · rw [fU_ne e]; exact h3 m hm
theorem stp_order {y : YV} (h : PI y) {j n : Nat} (hj : j < yKc y) : stp 0 y (ySetK y j (kOrd (yK y j) n)) := stp_setK h hj rfl rfl rfl
theorem PI_kind {y : YV} (h : PI y) {k : KV} (hT : kT k = 0) (hD : kD k = 0) (hP : 1 ≤ kP k ∧ kP k ≤ 999) : PI (yAddK y k) ∧ yPaid (yAddK y k) = yPaid y := by
  obtain ⟨h1, h2, h3, h4⟩ := h
  have e1 : ySt (yAddK y k) = ySt y := by
    show sumN (fun m => kS (fU (yK y) (yKc y) k m)) (yKc y + 1) = sumN (fun m => kS (yK y m)) (yKc y)
    rw [sumN_s, fU_eq, sumN_cong (g := fun m => kS (yK y m)) (fun m hm => by rw [fU_ne (Nat.ne_of_lt hm)])]
    show _ + kT k * kL k * kB k = _
    rw [hT, Nat.zero_mul, Nat.zero_mul, Nat.add_zero]
  have e2 : yPaid (yAddK y k) = yPaid y := by
    show sumN (fun m => kD (fU (yK y) (yKc y) k m)) (yKc y + 1) = sumN (fun m => kD (yK y m)) (yKc y)
    rw [sumN_s, fU_eq, sumN_cong (g := fun m => kD (yK y m)) (fun m hm => by rw [fU_ne (Nat.ne_of_lt hm)]), hD, Nat.add_zero]
  have e3 : yAreaT (yAddK y k) = yAreaT y := rfl
  have e4 : yArea0 (yAddK y k) = yArea0 y := rfl
  refine ⟨⟨h1, yFc_of h2 rfl rfl, fun m hm => ?_, by omega⟩, e2⟩
  have hm : m < yKc y + 1 := hm
  show 1 ≤ kP (fU (yK y) (yKc y) k m) ∧ kP (fU (yK y) (yKc y) k m) ≤ 999
  by_cases e : m = yKc y
  · subst e; rw [fU_eq]; exact hP
  · rw [fU_ne e]; exact h3 m (by omega)
theorem stp_take {y : YV} (h : PI y) {i j mn : Nat} (hi : i < ySc y) (hj : j < yKc y) (h40 : ySc y ≤ 40) (hf : sFits (yS y i) (yK y j) = some mn) : stp 999 y (yTake y i j mn) ∧ yPaid (yTake y i j mn) = yPaid y + sellP (yK y j) := by
  obtain ⟨hT, hw, hh⟩ := sFits_ok hf
  obtain ⟨⟨t1, l1⟩, ⟨t2, l2⟩, d1, d2⟩ := take_slab hi hT hw hh
  have s1 : stp 0 y (yT1 y i mn (yK y j)) := stp_cut h hi (by omega) hT
  have c1 : ySc (yT1 y i mn (yK y j)) ≤ ySc y + 2 := yCut_le
  have s2 : stp 0 (yT1 y i mn (yK y j)) (yT2 y i mn (yK y j)) := stp_cut s1.1 l1 (by omega) t1
  obtain ⟨⟨p1, p2, p3, p4⟩, p5, p6, p7, p8, p9⟩ := s1.tr s2
  obtain ⟨a1, a2⟩ := set_areas (y := yT2 y i mn (yK y j)) (u := sState (yS (yT2 y i mn (yK y j)) (nT2 y i mn (yK y j))) 2) l2 ⟨rfl, rfl, rfl⟩
  rw [aT_0 t2, aT_n (u := sState (yS (yT2 y i mn (yK y j)) (nT2 y i mn (yK y j))) 2) (by show (2 : Nat) ≠ 0; decide)] at a1
  have a1 : yAreaT (yT3 y i mn (yK y j)) + sA (yS (yT2 y i mn (yK y j)) (nT2 y i mn (yK y j))) = yAreaT (yT2 y i mn (yK y j)) + 0 := a1
  have a2 : yArea0 (yT3 y i mn (yK y j)) = yArea0 (yT2 y i mn (yK y j)) := a2
  have hA : kL (yK y j) * kB (yK y j) ≤ sA (yS (yT2 y i mn (yK y j)) (nT2 y i mn (yK y j))) := by
    rw [← kwh (mn := mn)]
    exact Nat.mul_le_mul d1 d2
  have e1 : yAreaT (yTake y i j mn) = yAreaT (yT3 y i mn (yK y j)) := rfl
  have e2 : yArea0 (yTake y i j mn) = yArea0 (yT3 y i mn (yK y j)) := rfl
  have hS := take_sum (F := kS) (fun _ => rfl) (i := i) (mn := mn) hj
  have hD := take_sum (F := fun k => kD k) (fun _ => rfl) (i := i) (mn := mn) hj
  have e3 : ySt (yTake y i j mn) + kS (yK y j) = ySt y + kS (sellK (yK y j)) := by
    rw [ySt_e, ySt_e, take_Kc]; exact hS
  have e4 : yPaid (yTake y i j mn) + kD (yK y j) = yPaid y + kD (sellK (yK y j)) := by
    rw [yPaid_e, yPaid_e, take_Kc]; exact hD
  have e5 : kS (sellK (yK y j)) = kS (yK y j) + kL (yK y j) * kB (yK y j) := by
    show (kT (yK y j) + 1) * kL (yK y j) * kB (yK y j) = kT (yK y j) * kL (yK y j) * kB (yK y j) + _
    rw [Nat.add_mul, Nat.add_mul, Nat.one_mul]
  have e6 : kD (sellK (yK y j)) = kD (yK y j) + sellP (yK y j) := rfl
  have e7 : ySt (yT2 y i mn (yK y j)) = ySt y := by
    rw [ySt_e, ySt_e, p5]
    rw [show yK (yT2 y i mn (yK y j)) = yK y from (yCut_K (y := yT1 y i mn (yK y j))).trans yCut_K]
  have e8 : yPaid (yTake y i j mn) = yPaid y + sellP (yK y j) := by omega
  have h9 := sellP_le h.2.2.1 hj
  have w1 : wst (yT2 y i mn (yK y j)) = yArea0 (yT2 y i mn (yK y j)) - yAreaT (yT2 y i mn (yK y j)) - ySt (yT2 y i mn (yK y j)) := rfl
  have w2 : wst (yTake y i j mn) = yArea0 (yTake y i j mn) - yAreaT (yTake y i j mn) - ySt (yTake y i j mn) := rfl
  refine ⟨⟨⟨take_F.trans h.1, yFc_of (yFc_set p2 (i := nT2 y i mn (yK y j)) (u := sState (yS (yT2 y i mn (yK y j)) (nT2 y i mn (yK y j))) 2) ⟨rfl, rfl, rfl, rfl, fun z => by rw [t2] at z; cases z⟩) rfl rfl, yPr_take h.2.2.1 hj, by omega⟩, take_Kc, by omega, by omega, by omega, by omega⟩, e8⟩
/-- the slab of which a stone was taken is gone -/
theorem take_gone {y : YV} {i j mn : Nat} (hi : i < ySc y) (hf : sFits (yS y i) (yK y j) = some mn) : sT (yS (yTake y i j mn) i) ≠ 0 := by
  obtain ⟨hT, hw, hh⟩ := sFits_ok hf
  show sT (fU (yS (yT2 y i mn (yK y j))) (nT2 y i mn (yK y j)) (sState (yS (yT2 y i mn (yK y j)) (nT2 y i mn (yK y j))) 2) i) ≠ 0
  by_cases e : i = nT2 y i mn (yK y j)
  · rw [← e, fU_eq]
    show (2 : Nat) ≠ 0
    decide
  · rw [fU_ne e]
    have l1 : nT1 y i mn (yK y j) < ySc (yT1 y i mn (yK y j)) := yCutR_lt hi
    cases hc : canC (yLen (yS y i) true) (yF y) (kw (yK y j) mn) with
    | true =>
      have n1 : nT1 y i mn (yK y j) = ySc y := yCutR_yes hc
      have z : yS (yT2 y i mn (yK y j)) i = yS (yT1 y i mn (yK y j)) i := cut_old (by
        have : ySc (yT1 y i mn (yK y j)) = ySc y + 2 := by show ySc (yCut y i true (kw (yK y j) mn)) = _; rw [yCut_yes hc]
        omega) (by rw [n1]; omega)
      rw [z, show yS (yT1 y i mn (yK y j)) i = sState (yS y i) 1 from cut_self hc]
      show (1 : Nat) ≠ 0
      decide
    | false =>
      have n1 : nT1 y i mn (yK y j) = i := yCutR_no hc
      cases hc2 : canC (yLen (yS (yT1 y i mn (yK y j)) (nT1 y i mn (yK y j))) false) (yF (yT1 y i mn (yK y j))) (kh (yK y j) mn) with
      | true =>
        have z : yS (yT2 y i mn (yK y j)) (nT1 y i mn (yK y j)) = sState (yS (yT1 y i mn (yK y j)) (nT1 y i mn (yK y j))) 1 := cut_self hc2
        rw [n1] at z
        rw [z]
        show (1 : Nat) ≠ 0
        decide
      | false =>
        have n2 : nT2 y i mn (yK y j) = nT1 y i mn (yK y j) := yCutR_no hc2
        exact absurd (n2.trans n1).symm e
/-- the price of the kind that was taken does not rise -/
theorem take_price {y : YV} {i j mn : Nat} (h : 1 ≤ kP (yK y j)) : kP (yK (yTake y i j mn) j) ≤ kP (yK y j) := by
  rw [take_K, if_neg (fun z => z.1 rfl), fU_eq]
  show max 1 (kP (yK y j) * 9 / 10) ≤ _
  omega
theorem stp_plan {n : Nat} : ∀ {y : YV}, PI y → ySc y ≤ 40 → stp (999 * n) y (yPlan n y).2 ∧ (yPlan n y).1 ≤ n := by
  induction n with
  | zero => intro y h _; exact ⟨stp.rf h _, Nat.le_refl _⟩
  | succ n ih =>
    intro y h h40
    by_cases c : ySc y ≤ 36
    · cases hn : (yNext y (ySc y)).1 with
      | none => rw [yPlan_none hn]; exact ⟨stp.rf h _, Nat.zero_le _⟩
      | some i =>
        obtain ⟨h1, j, hj⟩ := yNext_some hn
        obtain ⟨h2, h3, ⟨mn, h4⟩, h5⟩ := yDear_p hj
        rw [yPlan_s c hn hj h4]
        have s1 := (stp_take h h1 h2 h40 h4).1
        have c2 : ySc (yTake y i j mn) ≤ ySc y + 4 := yTake_le
        obtain ⟨s2, s3⟩ := ih s1.1 (by omega)
        exact ⟨(s1.tr s2).wd (by omega), Nat.succ_le_succ s3⟩
    · rw [yPlan_full c]; exact ⟨stp.rf h _, Nat.zero_le _⟩
/-- one more slab of its own -/
theorem PI_slab {y : YV} (h : PI y) {u : SV} (hu : sF u = -1) (hT : sT u = 0) : PI (yAddS y u) ∧ wst (yAddS y u) = wst y ∧ yArea0 (yAddS y u) = yArea0 y + sA u ∧ yPaid (yAddS y u) = yPaid y ∧ yKc (yAddS y u) = yKc y := by
  obtain ⟨h1, h2, h3, h4⟩ := h
  have e1 : yAreaT (yAddS y u) = yAreaT y + sA u := by
    show sumN (fun m => aT (fU (yS y) (ySc y) u m)) (ySc y + 1) = sumN (fun m => aT (yS y m)) (ySc y) + sA u
    rw [sumN_s, fU_eq, aT_0 hT, sumN_cong (g := fun m => aT (yS y m)) (fun m hm => by rw [fU_ne (Nat.ne_of_lt hm)])]
  have e2 : yArea0 (yAddS y u) = yArea0 y + sA u := by
    show sumN (fun m => a0 (fU (yS y) (ySc y) u m)) (ySc y + 1) = sumN (fun m => a0 (yS y m)) (ySc y) + sA u
    rw [sumN_s, fU_eq, show a0 u = sA u from if_pos hu, sumN_cong (g := fun m => a0 (yS y m)) (fun m hm => by rw [fU_ne (Nat.ne_of_lt hm)])]
  have e3 : ySt (yAddS y u) = ySt y := rfl
  exact ⟨⟨h1, yFc_add h2 hu, h3, by omega⟩, by unfold wst; omega, e2, rfl, rfl⟩
theorem pass_two {l t l2 t2 w h w2 h2 : Nat} (hd : ∀ q : Nat × Nat, ¬ ((pa1 l t w h q).isSome = true ∧ (pa1 l2 t2 w2 h2 q).isSome = true)) : ∀ fl : List (Nat × Nat), (pass fl l t w h).length + (pass fl l2 t2 w2 h2).length ≤ fl.length
  | [] => Nat.le_refl _
  | q :: fl => by
    have ih := pass_two hd fl
    have e : ∀ (a b c d : Nat), (pass (q :: fl) a b c d).length = (pass fl a b c d).length + (if (pa1 a b c d q).isSome = true then 1 else 0) := fun a b c d => by
      unfold pass
      rw [List.filterMap_cons]
      cases pa1 a b c d q <;> rfl
    rw [e, e, List.length_cons]
    have hq := hd q
    by_cases c1 : (pa1 l t w h q).isSome = true
    · rw [if_pos c1, if_neg (fun z => hq ⟨c1, z⟩)]; omega
    · rw [if_neg c1]
      split <;> omega
theorem pa1_some {l t w h : Nat} {q : Nat × Nat} (hq : (pa1 l t w h q).isSome = true) : l ≤ q.1 ∧ q.1 - l < w ∧ t ≤ q.2 ∧ q.2 - t < h := by
  unfold pa1 at hq
  by_cases c : l ≤ q.1 ∧ q.1 - l < w ∧ t ≤ q.2 ∧ q.2 - t < h
  · exact c
  · rw [if_neg c] at hq; cases hq
theorem cut_flaws {u : SV} {i x kf : Nat} {dn : Bool} : (sL (cutN u i dn x)).length + (sL (cutF u i dn (x + kf))).length ≤ (sL u).length := by
  cases dn
  · refine pass_two (fun q z => ?_) (sL u)
    have z1 := pa1_some z.1
    have z2 := pa1_some z.2
    omega
  · refine pass_two (fun q z => ?_) (sL u)
    have z1 := pa1_some z.1
    have z2 := pa1_some z.2
    omega
/-- roots -/
theorem yRoot_enough {y : YV} (h : yFr y) (h44 : ySc y ≤ 44) : ∀ (n m i : Nat), i < ySc y → i ≤ n → i ≤ m → yRoot y n i = yRoot y m i := by
  intro n
  induction n with
  | zero =>
    intro m i hi h1 h2
    have e : i = 0 := by omega
    subst e
    rcases h 0 hi with h3 | ⟨j, h3, -⟩
    · exact (yRoot_end h3).trans (yRoot_end h3).symm
    · omega
  | succ n ih =>
    intro m i hi h1 h2
    rcases h i hi with h3 | ⟨j, h3, h4⟩
    · exact (yRoot_end h3).trans (yRoot_end h3).symm
    · obtain ⟨m, rfl⟩ : ∃ k, m = k + 1 := ⟨m - 1, by omega⟩
      rw [yRoot_s h4 (by omega), yRoot_s h4 (by omega)]
      exact ih m j (by omega) (by omega) (by omega)
theorem yRoot_from {y : YV} (h : yFr y) (h40 : ySc y ≤ 40) {i j : Nat} (hi : i < ySc y) (hj : j < i) (e : sF (yS y i) = nI j) : yRoot y 40 i = yRoot y 40 j := by
  rw [show (40 : Nat) = 39 + 1 from rfl, yRoot_s e (by omega)]
  exact yRoot_enough h (by omega) 39 (39 + 1) j (by omega) (by omega) (by omega)
theorem yCut_ge {y : YV} {i x : Nat} {dn : Bool} : ySc y ≤ ySc (yCut y i dn x) := by
  unfold yCut
  split
  · exact Nat.le_add_right _ _
  · exact Nat.le_refl _
theorem yTake_ge {y : YV} {i j mn : Nat} : ySc y ≤ ySc (yTake y i j mn) := Nat.le_trans (yCut_ge (i := i) (dn := true) (x := kw (yK y j) mn)) yCut_ge
/-- kinds come one by one: no slab yet -/
def KI (k : Nat) (y : YV) : Prop := PI y ∧ ySc y = 0 ∧ yPaid y = 0 ∧ yKc y = k
theorem KI_new : KI 0 yNew := ⟨⟨rfl, fun i hi => absurd hi (Nat.not_lt_zero i), fun i hi => absurd hi (Nat.not_lt_zero i), by decide⟩, rfl, rfl, rfl⟩
theorem KI_step {y : YV} {k a b q w f : Nat} (h : KI k y) (hq : 1 ≤ q ∧ q ≤ 999) : KI (k + 1) (ySetK (yAddK y (a, b, 0, 0, q, 0, 0, 0)) k (kLet (yK (yAddK y (a, b, 0, 0, q, 0, 0, 0)) k) w f)) := by
  obtain ⟨h1, h2, h3, h4⟩ := h
  obtain ⟨g1, g2⟩ := PI_kind h1 (k := (a, b, 0, 0, q, 0, 0, 0)) rfl rfl hq
  have hlt : k < yKc (yAddK y (a, b, 0, 0, q, 0, 0, 0)) := by show k < yKc y + 1; omega
  obtain ⟨s1, s2, -, -, s5, s6⟩ := stp_setK (k := kLet (yK (yAddK y (a, b, 0, 0, q, 0, 0, 0)) k) w f) g1 hlt rfl rfl rfl
  exact ⟨s1, h2, by omega, by show yKc y + 1 = k + 1; omega⟩
theorem KI_way {y : YV} {k a b q : Nat} (h : KI k y) : kW (yK (yAddK y (a, b, 0, 0, q, 0, 0, 0)) k) = 0 := by
  have e : yKc y = k := h.2.2.2
  subst e
  show kW (fU (yK y) (yKc y) (a, b, 0, 0, q, 0, 0, 0) (yKc y)) = 0
  rw [fU_eq]
theorem yArea0_z {y : YV} (h : ySc y = 0) : yArea0 y = 0 := by rw [yArea0_e, h]; rfl
/-- the areas lie in their bounds -/
theorem area_le {y : YV} (hc : ySc y ≤ 40) (hs : ∀ i, i < ySc y → sOK (yS y i)) : yArea0 y ≤ 23040 := by
  have h1 : yArea0 y ≤ ySc y * 576 := sumN_le (fun i hi => by
    split
    · exact sA_lt (hs i hi)
    · exact Nat.zero_le _)
  have h2 : ySc y * 576 ≤ 40 * 576 := Nat.mul_le_mul_right _ hc
  omega
theorem wst_sum {y : YV} (h : PI y) : wst y + yAreaT y + ySt y = yArea0 y := by
  have := h.2.2.2
  unfold wst
  omega
