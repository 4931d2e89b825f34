/-! what every call keeps; sums -/
theorem yFr_of {y y' : YV} (h : yFr y) (e1 : ySc y' = ySc y) (e2 : ∀ i, i < ySc y → sF (yS y' i) = sF (yS y i)) : yFr y' := by
  intro i hi
  rw [e1] at hi
  rw [e2 i hi]
  exact h i hi
theorem yFr_addS {y : YV} (h : yFr y) {u : SV} (hu : sF u = -1 ∨ ∃ j, j < ySc y ∧ sF u = nI j) : yFr (yAddS y u) := by
  intro i hi
  have hi : i < ySc y + 1 := hi
  show sF (fU (yS y) (ySc y) u i) = -1 ∨ ∃ j, j < i ∧ sF (fU (yS y) (ySc y) u i) = nI j
  by_cases e : i = ySc y
  · subst e
    rw [fU_eq]
    exact hu
  · rw [fU_ne e]
    exact h i (by omega)
theorem yFr_setS {y : YV} (h : yFr y) {i : Nat} {u : SV} (e : sF u = sF (yS y i)) : yFr (ySetS y i u) := yFr_of h rfl (fun j _ => by
  show sF (fU (yS y) i u j) = _
  by_cases c : j = i
  · subst c; rw [fU_eq]; exact e
  · rw [fU_ne c])
theorem cutN_F {u : SV} {i x : Nat} {dn : Bool} : sF (cutN u i dn x) = nI i := by cases dn <;> rfl
theorem cutF_F {u : SV} {i x : Nat} {dn : Bool} : sF (cutF u i dn x) = nI i := by cases dn <;> rfl
theorem yFr_cut {y : YV} (h : yFr y) {i x : Nat} {dn : Bool} (hi : i < ySc y) : yFr (yCut y i dn x) := by
  cases hc : canC (yLen (yS y i) dn) (yF y) x with
  | false => rw [yCut_no hc]; exact h
  | true =>
    have h1 : yFr (yAddS y (cutN (yS y i) i dn x)) := yFr_addS h (Or.inr ⟨i, hi, cutN_F⟩)
    have h2 : yFr (yAddS (yAddS y (cutN (yS y i) i dn x)) (cutF (yS y i) i dn (x + yF y))) := yFr_addS h1 (Or.inr ⟨i, by show i < ySc y + 1; omega, cutF_F⟩)
    have h3 : yFr (ySetS (yAddS (yAddS y (cutN (yS y i) i dn x)) (cutF (yS y i) i dn (x + yF y))) i (sState (yS y i) 1)) := yFr_setS h2 (by
      show sF (yS y i) = sF (fU (fU (yS y) (ySc y) _) (ySc y + 1) _ i)
      rw [fU_ne (by omega), fU_ne (by omega)])
    rw [yCut_yes hc]
    exact yFr_of h3 rfl (fun _ _ => rfl)
theorem yFr_take {y : YV} (h : yFr y) {i j mn : Nat} (hi : i < ySc y) : yFr (yTake y i j mn) := by
  have h1 : yFr (yT1 y i mn (yK y j)) := yFr_cut h hi
  have h2 : yFr (yT2 y i mn (yK y j)) := yFr_cut h1 (yCutR_lt hi)
  have h3 : yFr (yT3 y i mn (yK y j)) := yFr_setS h2 rfl
  exact yFr_of h3 rfl (fun _ _ => rfl)
theorem yFr_plan {n : Nat} : ∀ {y : YV}, yFr y → yFr (yPlan n y).2 := by
  induction n with
  | zero => intro y h; exact h
  | succ n ih =>
    intro y h
    by_cases c : ySc y ≤ 36
    · cases hn : (yNext y (ySc y)).1 with
      | none => rw [yPlan_none hn]; exact h
      | some i =>
        obtain ⟨h1, j, hj⟩ := yNext_some hn
        obtain ⟨h2, h3, ⟨mn, h4⟩, h5⟩ := yDear_p hj
        rw [yPlan_s c hn hj h4]
        exact ih (yFr_take h h1)
    · rw [yPlan_full c]; exact h
theorem sumN_add {f g : Nat → Nat} : ∀ {n : Nat}, sumN f n + sumN g n = sumN (fun i => f i + g i) n
  | 0 => rfl
  | n + 1 => by
    rw [sumN_s, sumN_s, sumN_s, ← sumN_add (f := f) (g := g)]
    omega
/-- the worth of all that is there, in one sum -/
theorem yAll_one {y : YV} (h : ∀ i, i < ySc y → sG (yS y i) ≤ 1) : yAll y = sumN (fun i => if sT (yS y i) = 0 then wV (ySt2 y (sG (yS y i))) (yF y) (sW (yS y i)) (sH (yS y i)) else 0) (ySc y) := by
  unfold yAll yAllG
  rw [sumN_add]
  refine sumN_cong (fun i hi => ?_)
  have hg := h i hi
  by_cases c : sT (yS y i) = 0
  · rcases (show sG (yS y i) = 0 ∨ sG (yS y i) = 1 by omega) with e | e
    · rw [if_pos ⟨c, e⟩, if_neg (fun z => by rw [e] at z; exact absurd z.2 (by decide)), if_pos c, e]
      rfl
    · rw [if_neg (fun z => by rw [e] at z; exact absurd z.2 (by decide)), if_pos ⟨c, e⟩, if_pos c, e, Nat.zero_add]
  · rw [if_neg (fun z => c z.1), if_neg (fun z => c z.1), if_neg c]
