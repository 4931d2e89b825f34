/-! what the reference takes next -/
def mBe (y : YV) (s n : Nat) : Option (Nat × Nat) → Bool
  | none => true
  | some p => mBet y s n p.1 p.2
def mIn (y : YV) (s : Nat) (o : Option (Nat × Nat)) : Nat → Option (Nat × Nat)
  | 0 => o
  | n + 1 => if okW y (yS y s) n = true ∧ mBe y s n (mIn y s o n) = true then some (s, n) else mIn y s o n
def mOut (y : YV) : Nat → Option (Nat × Nat)
  | 0 => none
  | n + 1 => mIn y n (mOut y n) (yKc y)
theorem mIn_yes {y : YV} {s n : Nat} {o : Option (Nat × Nat)} (h1 : okW y (yS y s) n = true) (h2 : mBe y s n (mIn y s o n) = true) : mIn y s o (n + 1) = some (s, n) := by rw [mIn, if_pos ⟨h1, h2⟩]
theorem mIn_no {y : YV} {s n : Nat} {o : Option (Nat × Nat)} (h : ¬ (okW y (yS y s) n = true ∧ mBe y s n (mIn y s o n) = true)) : mIn y s o (n + 1) = mIn y s o n := by rw [mIn, if_neg h]
abbrev rowB (y : YV) (s n : Nat) : Option Nat × Nat := bestN (okW y (yS y s)) (fun j => kP (yK y j)) n
theorem mBet_in {y : YV} {s n k : Nat} (h : k < n) : mBet y s n s k = decide (kP (yK y k) < kP (yK y n)) := by
  unfold mBet
  by_cases e : kP (yK y n) = kP (yK y k)
  · rw [if_pos e, if_pos rfl, if_pos rfl, decide_eq_false (by omega), decide_eq_false (by omega)]
  · rw [if_neg e]
theorem mBet_out {y : YV} {s n s0 k0 : Nat} (h : s0 < s) : mBet y s n s0 k0 = true ↔ (kP (yK y k0) < kP (yK y n) ∨ (kP (yK y n) = kP (yK y k0) ∧ sA (yS y s) < sA (yS y s0))) := by
  unfold mBet
  by_cases e : kP (yK y n) = kP (yK y k0)
  · rw [if_pos e]
    by_cases e2 : sA (yS y s) = sA (yS y s0)
    · rw [if_pos e2, if_neg (by omega)]
      exact ⟨fun z => absurd (of_decide_eq_true z) (by omega), fun z => by omega⟩
    · rw [if_neg e2]
      exact ⟨fun z => Or.inr ⟨e, of_decide_eq_true z⟩, fun z => decide_eq_true (by omega)⟩
  · rw [if_neg e]
    exact ⟨fun z => Or.inl (of_decide_eq_true z), fun z => decide_eq_true (by omega)⟩
theorem mIn_none {y : YV} {s : Nat} (hp : ∀ j, 1 ≤ kP (yK y j) ∨ yKc y ≤ j) : ∀ {n : Nat}, n ≤ yKc y → mIn y s none n = (rowB y s n).1.map (fun k => (s, k))
  | 0, _ => rfl
  | n + 1, hn => by
    have ih := mIn_none (y := y) (s := s) hp (n := n) (by omega)
    by_cases hok : okW y (yS y s) n = true
    · cases hb : (rowB y s n).1 with
      | none =>
        rw [hb] at ih
        have h0 := (bestN_none hb).1
        rw [mIn_yes hok (by rw [ih]; rfl), show rowB y s (n + 1) = (some n, kP (yK y n)) from bestN_yes hok (by show (rowB y s n).2 < _; rw [show (rowB y s n).2 = 0 from h0]; rcases hp n with h | h <;> omega)]
        rfl
      | some k =>
        rw [hb] at ih
        obtain ⟨c1, c2, c3⟩ := bestN_some hb
        have c3 : (rowB y s n).2 = kP (yK y k) := c3
        have hbe : mBe y s n (mIn y s none n) = decide (kP (yK y k) < kP (yK y n)) := by rw [ih]; exact mBet_in c1
        by_cases c : kP (yK y k) < kP (yK y n)
        · rw [mIn_yes hok (by rw [hbe]; exact decide_eq_true c), show rowB y s (n + 1) = (some n, kP (yK y n)) from bestN_yes hok (by show (rowB y s n).2 < _; rw [c3]; exact c)]
          rfl
        · rw [mIn_no (fun z => by rw [hbe] at z; exact c (of_decide_eq_true z.2)), show rowB y s (n + 1) = rowB y s n from bestN_no (fun z => c (by rw [← c3]; exact z.2)), ih, hb]
    · rw [mIn_no (fun z => hok z.1), show rowB y s (n + 1) = rowB y s n from bestN_no (fun z => hok z.1), ih]
/-- whether a row's best comes ahead of what was picked before it -/
def beats (y : YV) (s s0 k0 : Nat) (b : Option Nat × Nat) : Prop := kP (yK y k0) < b.2 ∨ (b.2 = kP (yK y k0) ∧ sA (yS y s) < sA (yS y s0))
theorem mIn_some {y : YV} {s s0 k0 : Nat} (hs : s0 < s) (hk0 : 1 ≤ kP (yK y k0)) : ∀ {n : Nat}, (beats y s s0 k0 (rowB y s n) ∧ ∃ k, (rowB y s n).1 = some k ∧ mIn y s (some (s0, k0)) n = some (s, k)) ∨ (¬ beats y s s0 k0 (rowB y s n) ∧ mIn y s (some (s0, k0)) n = some (s0, k0))
  | 0 => Or.inr ⟨fun z => by
      have z : kP (yK y k0) < 0 ∨ (0 = kP (yK y k0) ∧ _) := z
      omega, rfl⟩
  | n + 1 => by
    have ih := mIn_some (y := y) hs hk0 (n := n)
    by_cases hok : okW y (yS y s) n = true
    · rcases ih with ⟨hb, k, h1, h2⟩ | ⟨hb, h2⟩
      · obtain ⟨c1, c2, c3⟩ := bestN_some h1
        have c3 : (rowB y s n).2 = kP (yK y k) := c3
        have hbe : mBe y s n (mIn y s (some (s0, k0)) n) = decide (kP (yK y k) < kP (yK y n)) := by rw [h2]; exact mBet_in c1
        by_cases c : kP (yK y k) < kP (yK y n)
        · rw [mIn_yes hok (by rw [hbe]; exact decide_eq_true c), show rowB y s (n + 1) = (some n, kP (yK y n)) from bestN_yes hok (by show (rowB y s n).2 < _; rw [c3]; exact c)]
          refine Or.inl ⟨Or.inl ?_, n, rfl, rfl⟩
          unfold beats at hb
          rw [c3] at hb
          show kP (yK y k0) < kP (yK y n)
          omega
        · rw [mIn_no (fun z => by rw [hbe] at z; exact c (of_decide_eq_true z.2)), show rowB y s (n + 1) = rowB y s n from bestN_no (fun z => c (by rw [← c3]; exact z.2))]
          exact Or.inl ⟨hb, k, h1, h2⟩
      · have hbe : mBe y s n (mIn y s (some (s0, k0)) n) = mBet y s n s0 k0 := by rw [h2]; rfl
        have hbb : ¬ (kP (yK y k0) < (rowB y s n).2 ∨ ((rowB y s n).2 = kP (yK y k0) ∧ sA (yS y s) < sA (yS y s0))) := hb
        by_cases c : mBet y s n s0 k0 = true
        · have c2 := (mBet_out hs).mp c
          rw [mIn_yes hok (by rw [hbe]; exact c), show rowB y s (n + 1) = (some n, kP (yK y n)) from bestN_yes hok (by show (rowB y s n).2 < kP (yK y n); omega)]
          exact Or.inl ⟨c2, n, rfl, rfl⟩
        · have c2 : ¬ (kP (yK y k0) < kP (yK y n) ∨ (kP (yK y n) = kP (yK y k0) ∧ sA (yS y s) < sA (yS y s0))) := fun z => c ((mBet_out hs).mpr z)
          rw [mIn_no (fun z => by rw [hbe] at z; exact c z.2), h2]
          refine Or.inr ⟨fun z => ?_, rfl⟩
          by_cases d : (rowB y s n).2 < kP (yK y n)
          · rw [show rowB y s (n + 1) = (some n, kP (yK y n)) from bestN_yes hok d] at z
            exact c2 z
          · rw [show rowB y s (n + 1) = rowB y s n from bestN_no (fun q => d q.2)] at z
            exact hb z
    · rw [mIn_no (fun z => hok z.1), show rowB y s (n + 1) = rowB y s n from bestN_no (fun z => hok z.1)]
      exact ih
theorem yNext_val {y : YV} : ∀ {n : Nat}, ((yNext y n).1 = none → (yNext y n).2 = (0, 0)) ∧ ∀ i, (yNext y n).1 = some i → (yNext y n).2 = ((yDear y i).2, sA (yS y i))
  | 0 => ⟨fun _ => rfl, fun i h => by cases h⟩
  | n + 1 => by
    have ih := yNext_val (y := y) (n := n)
    rw [yNext]
    split
    · exact ⟨fun h => (by cases h), fun i h => (by cases h; rfl)⟩
    · exact ih
/-- the reference's pick is the class's -/
theorem mOut_eq {y : YV} (hp : ∀ j, j < yKc y → 1 ≤ kP (yK y j)) : ∀ {n : Nat}, mOut y n = (yNext y n).1.bind (fun i => (yDear y i).1.map (fun j => (i, j)))
  | 0 => rfl
  | n + 1 => by
    have ih := mOut_eq hp (n := n)
    have hp2 : ∀ j, 1 ≤ kP (yK y j) ∨ yKc y ≤ j := fun j => by
      by_cases c : j < yKc y
      · exact Or.inl (hp j c)
      · exact Or.inr (by omega)
    show mIn y n (mOut y n) (yKc y) = _
    cases hn : (yNext y n).1 with
    | none =>
      rw [hn] at ih
      have hv := (yNext_val (y := y) (n := n)).1 hn
      rw [ih]
      show mIn y n none (yKc y) = _
      rw [mIn_none hp2 (Nat.le_refl _)]
      cases hd : (yDear y n).1 with
      | none =>
        rw [yNext_no (fun j hj => by rw [hd] at hj; cases hj), hn, show (rowB y n (yKc y)).1 = none from hd]
        rfl
      | some j =>
        have hj := yDear_p hd
        rw [yNext_yes hd (by rw [hv]; exact Or.inl (hp j hj.1)), show (rowB y n (yKc y)).1 = some j from hd]
        show some (n, j) = (yDear y n).1.map (fun j => (n, j))
        rw [hd]
        rfl
    | some i =>
      obtain ⟨hin, j0, hj0⟩ := yNext_some hn
      have hd0 := yDear_p hj0
      have hv := (yNext_val (y := y) (n := n)).2 i hn
      rw [hn] at ih
      have ih : mOut y n = some (i, j0) := by rw [ih]; show (yDear y i).1.map _ = _; rw [hj0]; rfl
      rw [ih]
      rcases mIn_some (y := y) (s := n) (s0 := i) (k0 := j0) hin (hp j0 hd0.1) (n := yKc y) with ⟨hb, k, h1, h2⟩ | ⟨hb, h2⟩
      · have h1 : (yDear y n).1 = some k := h1
        have hk := yDear_p h1
        rw [h2, yNext_yes h1 (by rw [hv, hd0.2.2.2]; have hb : kP (yK y j0) < (yDear y n).2 ∨ ((yDear y n).2 = kP (yK y j0) ∧ sA (yS y n) < sA (yS y i)) := hb; rw [hk.2.2.2] at hb; exact hb)]
        show some (n, k) = (yDear y n).1.map (fun j => (n, j))
        rw [h1]
        rfl
      · rw [h2, yNext_no (fun q hq => by rw [hv, hd0.2.2.2, ← (yDear_p hq).2.2.2]; exact hb), hn]
        show some (i, j0) = (yDear y i).1.map (fun j => (i, j))
        rw [hj0]
        rfl
