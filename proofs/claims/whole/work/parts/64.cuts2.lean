/-- the cut of the first half is the first place, down and then across, with the greatest value -/
def cutOf (W : Nat → Nat → Nat) (kf w h due : Nat) : cutT := match fst1 (fV W kf w h) due (w - kf - 1) with
  | some k => some (true, k)
  | none => match fst1 (fH W kf w h) due (h - kf - 1) with
    | some k => some (false, k)
    | none => none
theorem cutOf_v {W : Nat → Nat → Nat} {kf w h due k : Nat} (e : fst1 (fV W kf w h) due (w - kf - 1) = some k) : cutOf W kf w h due = some (true, k) := by unfold cutOf; rw [e]
theorem cutOf_h {W : Nat → Nat → Nat} {kf w h due k : Nat} (e : fst1 (fV W kf w h) due (w - kf - 1) = none) (e2 : fst1 (fH W kf w h) due (h - kf - 1) = some k) : cutOf W kf w h due = some (false, k) := by unfold cutOf; rw [e, e2]
theorem pick_2 {W : Nat → Nat → Nat} {kf w h p0 : Nat} : (pick W kf w h p0).2 = if (pick W kf w h p0).1 = p0 then none else cutOf W kf w h (pick W kf w h p0).1 := by
  have eV := pickV_1 (W := W) (kf := kf) (w := w) (h := h) (p0 := p0) (n := half w kf)
  have eH : (pick W kf w h p0).1 = mx (fH W kf w h) (pickV W kf w h p0 (half w kf)).1 (half h kf) := pickH_1
  rcases pickH_2 (W := W) (kf := kf) (w := w) (h := h) (q0 := pickV W kf w h p0 (half w kf)) (n := half h kf) with ⟨a1, a2⟩ | ⟨k, a1, a2, a3, a4, a5, a6⟩
  · rw [eH, a1, show (pick W kf w h p0).2 = (pickV W kf w h p0 (half w kf)).2 from a2, eV]
    rcases pickV_2 (W := W) (kf := kf) (w := w) (h := h) (p0 := p0) (n := half w kf) with ⟨b1, b2⟩ | ⟨k, b1, b2, b3, b4, b5, b6⟩
    · rw [if_pos b1, b2]
    · rw [if_neg (by omega), b6]
      have b2 : k ≤ (w - kf) / 2 := b2
      exact (cutOf_v (fst1_at b1 b4 b5 (by omega))).symm
  · rw [← eH] at a3 a4 a5
    have hp : p0 ≤ (pickV W kf w h p0 (half w kf)).1 := by rw [eV]; exact mx_p
    rw [if_neg (by omega), show (pick W kf w h p0).2 = some (false, k) from a6]
    have a2 : k ≤ (h - kf) / 2 := a2
    refine (cutOf_h (fst1_none (fun j h1 h2 => ?_)) (fst1_at a1 a4 a5 (by omega))).symm
    have h3 : fV W kf w h j ≤ mx (fV W kf w h) p0 (w - kf - 1) := mx_ge h1 h2
    rw [mxV_all, ← eV] at h3
    omega
/-- a kind with the price of the whole lies there just when no cut is better -/
theorem has_best {ok : Nat → Bool} {pr : Nat → Nat} {n due : Nat} (h : (bestN ok pr n).2 ≤ due) (h0 : due ≠ 0) : (firstN (fun j => decide (pr j = due) && ok j) n = none ↔ due ≠ (bestN ok pr n).2) ∧ (due = (bestN ok pr n).2 → firstN (fun j => decide (pr j = due) && ok j) n = (bestN ok pr n).1) := by
  have hle : ∀ m j, j < m → ok j = true → pr j ≤ (bestN ok pr m).2 := by
    intro m
    induction m with
    | zero => intro j hj; exact absurd hj (Nat.not_lt_zero j)
    | succ m ih =>
      intro j hj hok
      by_cases e : j = m
      · subst e
        rw [bestN_max hok]
        exact Nat.le_max_right _ _
      · have h1 := ih j (by omega) hok
        by_cases c : ok m = true
        · rw [bestN_max c]
          exact Nat.le_trans h1 (Nat.le_max_left _ _)
        · rw [bestN_skip (Bool.not_eq_true _ ▸ c)]
          exact h1
  have hfst : ∀ m i, (bestN ok pr m).1 = some i → ∀ j, j < i → ok j = true → pr j < pr i := by
    intro m
    induction m with
    | zero => intro i hi; cases hi
    | succ m ih =>
      intro i hi j hj hok
      by_cases c : ok m = true ∧ (bestN ok pr m).2 < pr m
      · rw [bestN_yes c.1 c.2] at hi
        cases hi
        exact Nat.lt_of_le_of_lt (hle m j hj hok) c.2
      · rw [bestN_no c] at hi
        exact ih i hi j hj hok
  have hB : due = (bestN ok pr n).2 → firstN (fun j => decide (pr j = due) && ok j) n = (bestN ok pr n).1 := by
    intro e
    cases hb : (bestN ok pr n).1 with
    | none => rw [(bestN_none hb).1] at e; exact absurd e h0
    | some i =>
      obtain ⟨c1, c2, c3⟩ := bestN_some hb
      refine firstN_at (by simp only [c2, Bool.and_true]; exact decide_eq_true (by omega)) (fun j hj => ?_) c1
      cases hok : ok j with
      | false => simp
      | true =>
        have := hfst n i hb j hj hok
        simp only [Bool.and_true]
        exact decide_eq_false (by omega)
  refine ⟨⟨fun hn e => ?_, fun hne => firstN_none (fun j hj => ?_)⟩, hB⟩
  · rw [hB e] at hn
    have := (bestN_none hn).1
    omega
  · cases hok : ok j with
    | false => simp
    | true =>
      have := hle n j hj hok
      simp only [Bool.and_true]
      exact decide_eq_false (by omega)
