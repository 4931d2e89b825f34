/-! all places of a cut against the first half of them -/
def mx (f : Nat → Nat) (p0 : Nat) : Nat → Nat
  | 0 => p0
  | n + 1 => max (mx f p0 n) (f (n + 1))
theorem mx_p {f : Nat → Nat} {p0 : Nat} : ∀ {n : Nat}, p0 ≤ mx f p0 n
  | 0 => Nat.le_refl _
  | n + 1 => Nat.le_trans (mx_p (n := n)) (Nat.le_max_left _ _)
theorem mx_ge {f : Nat → Nat} {p0 k : Nat} (h1 : 1 ≤ k) : ∀ {n : Nat}, k ≤ n → f k ≤ mx f p0 n
  | 0, h => by omega
  | n + 1, h => by
    by_cases e : k = n + 1
    · subst e; exact Nat.le_max_right _ _
    · exact Nat.le_trans (mx_ge h1 (n := n) (by omega)) (Nat.le_max_left _ _)
theorem mx_same {f : Nat → Nat} {p0 m : Nat} : ∀ {n : Nat}, m ≤ n → (∀ k, m < k → k ≤ n → f k ≤ mx f p0 m) → mx f p0 n = mx f p0 m
  | 0, h, _ => by rw [show m = 0 by omega]
  | n + 1, h, hf => by
    by_cases e : m = n + 1
    · rw [e]
    · rw [mx, mx_same (n := n) (by omega) (fun k h1 h2 => hf k h1 (by omega))]
      exact Nat.max_eq_left (hf (n + 1) (by omega) (Nat.le_refl _))
abbrev fV (W : Nat → Nat → Nat) (kf w h : Nat) : Nat → Nat := fun k => W k h + W (w - kf - k) h
abbrev fH (W : Nat → Nat → Nat) (kf w h : Nat) : Nat → Nat := fun k => W w k + W w (h - kf - k)
theorem pickV_1 {W : Nat → Nat → Nat} {kf w h p0 : Nat} : ∀ {n : Nat}, (pickV W kf w h p0 n).1 = mx (fV W kf w h) p0 n
  | 0 => rfl
  | n + 1 => by
    rw [mx, ← pickV_1 (n := n)]
    by_cases c : (pickV W kf w h p0 n).1 < W (n + 1) h + W (w - kf - (n + 1)) h
    · rw [pickV_yes c]; exact (Nat.max_eq_right (Nat.le_of_lt c)).symm
    · rw [pickV_no (Nat.not_lt.mp c)]; exact (Nat.max_eq_left (Nat.not_lt.mp c)).symm
theorem pickH_1 {W : Nat → Nat → Nat} {kf w h : Nat} {q0 : Nat × cutT} : ∀ {n : Nat}, (pickH W kf w h q0 n).1 = mx (fH W kf w h) q0.1 n
  | 0 => rfl
  | n + 1 => by
    rw [mx, ← pickH_1 (n := n)]
    by_cases c : (pickH W kf w h q0 n).1 < W w (n + 1) + W w (h - kf - (n + 1))
    · rw [pickH_yes c]; exact (Nat.max_eq_right (Nat.le_of_lt c)).symm
    · rw [pickH_no (Nat.not_lt.mp c)]; exact (Nat.max_eq_left (Nat.not_lt.mp c)).symm
theorem fV_sym {W : Nat → Nat → Nat} {kf w h k : Nat} (hk : k + kf < w) : fV W kf w h (w - kf - k) = fV W kf w h k := by
  show W (w - kf - k) h + W (w - kf - (w - kf - k)) h = W k h + W (w - kf - k) h
  rw [show w - kf - (w - kf - k) = k by omega, Nat.add_comm]
theorem fH_sym {W : Nat → Nat → Nat} {kf w h k : Nat} (hk : k + kf < h) : fH W kf w h (h - kf - k) = fH W kf w h k := by
  show W w (h - kf - k) + W w (h - kf - (h - kf - k)) = W w k + W w (h - kf - k)
  rw [show h - kf - (h - kf - k) = k by omega, Nat.add_comm]
/-- the worth over all places, as the reference counts it -/
theorem mxV_all {W : Nat → Nat → Nat} {kf w h p0 : Nat} : mx (fV W kf w h) p0 (w - kf - 1) = mx (fV W kf w h) p0 (half w kf) := by
  by_cases c : w ≤ kf + 1
  · have e : half w kf = 0 := by show (w - kf) / 2 = 0; omega
    rw [e, show w - kf - 1 = 0 by omega]
  · refine mx_same (by show (w - kf) / 2 ≤ _; omega) (fun k h1 h2 => ?_)
    have h1 : (w - kf) / 2 < k := h1
    rw [← fV_sym (show k + kf < w by omega)]
    exact mx_ge (by omega) (by show w - kf - k ≤ (w - kf) / 2; omega)
theorem mxH_all {W : Nat → Nat → Nat} {kf w h p0 : Nat} : mx (fH W kf w h) p0 (h - kf - 1) = mx (fH W kf w h) p0 (half h kf) := by
  by_cases c : h ≤ kf + 1
  · have e : half h kf = 0 := by show (h - kf) / 2 = 0; omega
    rw [e, show h - kf - 1 = 0 by omega]
  · refine mx_same (by show (h - kf) / 2 ≤ _; omega) (fun k h1 h2 => ?_)
    have h1 : (h - kf) / 2 < k := h1
    rw [← fH_sym (show k + kf < h by omega)]
    exact mx_ge (by omega) (by show h - kf - k ≤ (h - kf) / 2; omega)
theorem pick_all {W : Nat → Nat → Nat} {kf w h p0 : Nat} : (pick W kf w h p0).1 = mx (fH W kf w h) (mx (fV W kf w h) p0 (w - kf - 1)) (h - kf - 1) := by
  unfold pick
  rw [pickH_1, pickV_1, mxH_all, mxV_all]
theorem wV_all {st : Nat → Nat → Option Nat × Nat} {kf w h : Nat} (h1 : 1 ≤ w) (h2 : 1 ≤ h) : wV st kf w h = mx (fH (wV st kf) kf w h) (mx (fV (wV st kf) kf w h) (st w h).2 (w - kf - 1)) (h - kf - 1) := by
  rw [wV_eq h1 h2]
  exact pick_all
/-- the first of the places 1 to n with a value -/
def fst1 (f : Nat → Nat) (v : Nat) : Nat → Option Nat
  | 0 => none
  | n + 1 => match fst1 f v n with
    | some k => some k
    | none => if f (n + 1) = v then some (n + 1) else none
theorem fst1_none {f : Nat → Nat} {v : Nat} : ∀ {n : Nat}, (∀ k, 1 ≤ k → k ≤ n → f k ≠ v) → fst1 f v n = none
  | 0, _ => rfl
  | n + 1, h => by
    rw [fst1, fst1_none (fun k h1 h2 => h k h1 (by omega))]
    exact if_neg (h (n + 1) (by omega) (Nat.le_refl _))
theorem fst1_at {f : Nat → Nat} {v k : Nat} (h1 : 1 ≤ k) (hk : f k = v) (hb : ∀ j, 1 ≤ j → j < k → f j ≠ v) : ∀ {n : Nat}, k ≤ n → fst1 f v n = some k
  | 0, h => by omega
  | n + 1, h => by
    by_cases e : k ≤ n
    · rw [fst1, fst1_at h1 hk hb e]
    · obtain rfl : k = n + 1 := by omega
      rw [fst1, fst1_none (fun j a b => hb j a (by omega))]
      exact if_pos hk
/-- the first half's cut down is the first place with the greatest value -/
theorem pickV_2 {W : Nat → Nat → Nat} {kf w h p0 : Nat} : ∀ {n : Nat}, (mx (fV W kf w h) p0 n = p0 ∧ (pickV W kf w h p0 n).2 = none) ∨ ∃ k, 1 ≤ k ∧ k ≤ n ∧ p0 < mx (fV W kf w h) p0 n ∧ fV W kf w h k = mx (fV W kf w h) p0 n ∧ (∀ j, 1 ≤ j → j < k → fV W kf w h j ≠ mx (fV W kf w h) p0 n) ∧ (pickV W kf w h p0 n).2 = some (true, k)
  | 0 => Or.inl ⟨rfl, rfl⟩
  | n + 1 => by
    have ih := pickV_2 (W := W) (kf := kf) (w := w) (h := h) (p0 := p0) (n := n)
    have e1 := pickV_1 (W := W) (kf := kf) (w := w) (h := h) (p0 := p0) (n := n)
    by_cases c : (pickV W kf w h p0 n).1 < W (n + 1) h + W (w - kf - (n + 1)) h
    · have e2 : mx (fV W kf w h) p0 (n + 1) = fV W kf w h (n + 1) := by rw [mx, ← e1]; exact Nat.max_eq_right (Nat.le_of_lt c)
      rw [e1] at c
      refine Or.inr ⟨n + 1, by omega, Nat.le_refl _, ?_, e2.symm, fun j h1 h2 => ?_, ?_⟩
      · rw [e2]; exact Nat.lt_of_le_of_lt mx_p c
      · rw [e2]; exact Nat.ne_of_lt (Nat.lt_of_le_of_lt (mx_ge h1 (n := n) (by omega)) c)
      · rw [pickV_yes (by rw [e1]; exact c)]
    · have e2 : mx (fV W kf w h) p0 (n + 1) = mx (fV W kf w h) p0 n := by rw [mx, ← e1]; exact Nat.max_eq_left (Nat.not_lt.mp c)
      rw [e2, pickV_no (Nat.not_lt.mp c)]
      rcases ih with ih | ⟨k, h1, h2, h3⟩
      · exact Or.inl ih
      · exact Or.inr ⟨k, h1, by omega, h3⟩
theorem pickH_2 {W : Nat → Nat → Nat} {kf w h : Nat} {q0 : Nat × cutT} : ∀ {n : Nat}, (mx (fH W kf w h) q0.1 n = q0.1 ∧ (pickH W kf w h q0 n).2 = q0.2) ∨ ∃ k, 1 ≤ k ∧ k ≤ n ∧ q0.1 < mx (fH W kf w h) q0.1 n ∧ fH W kf w h k = mx (fH W kf w h) q0.1 n ∧ (∀ j, 1 ≤ j → j < k → fH W kf w h j ≠ mx (fH W kf w h) q0.1 n) ∧ (pickH W kf w h q0 n).2 = some (false, k)
  | 0 => Or.inl ⟨rfl, rfl⟩
  | n + 1 => by
    have ih := pickH_2 (W := W) (kf := kf) (w := w) (h := h) (q0 := q0) (n := n)
    have e1 := pickH_1 (W := W) (kf := kf) (w := w) (h := h) (q0 := q0) (n := n)
    by_cases c : (pickH W kf w h q0 n).1 < W w (n + 1) + W w (h - kf - (n + 1))
    · have e2 : mx (fH W kf w h) q0.1 (n + 1) = fH W kf w h (n + 1) := by rw [mx, ← e1]; exact Nat.max_eq_right (Nat.le_of_lt c)
      rw [e1] at c
      refine Or.inr ⟨n + 1, by omega, Nat.le_refl _, ?_, e2.symm, fun j h1 h2 => ?_, ?_⟩
      · rw [e2]; exact Nat.lt_of_le_of_lt mx_p c
      · rw [e2]; exact Nat.ne_of_lt (Nat.lt_of_le_of_lt (mx_ge h1 (n := n) (by omega)) c)
      · rw [pickH_yes (by rw [e1]; exact c)]
    · have e2 : mx (fH W kf w h) q0.1 (n + 1) = mx (fH W kf w h) q0.1 n := by rw [mx, ← e1]; exact Nat.max_eq_left (Nat.not_lt.mp c)
      rw [e2, pickH_no (Nat.not_lt.mp c)]
      rcases ih with ih | ⟨k, h1, h2, h3⟩
      · exact Or.inl ih
      · exact Or.inr ⟨k, h1, by omega, h3⟩
