/-! sums and picks over the first n numbers -/
def sumN (f : Nat → Nat) : Nat → Nat
  | 0 => 0
  | n + 1 => sumN f n + f n
theorem sumN_s (f : Nat → Nat) (n : Nat) : sumN f (n + 1) = sumN f n + f n := rfl
theorem sumN_cong {f g : Nat → Nat} : ∀ {n : Nat}, (∀ i, i < n → f i = g i) → sumN f n = sumN g n
  | 0, _ => rfl
  | n + 1, h => by rw [sumN_s, sumN_s, sumN_cong (fun i hi => h i (Nat.lt_succ_of_lt hi)), h n (Nat.lt_succ_self n)]
theorem sumN_le {f : Nat → Nat} {c : Nat} : ∀ {n : Nat}, (∀ i, i < n → f i ≤ c) → sumN f n ≤ n * c
  | 0, _ => Nat.zero_le _
  | n + 1, h => by
    have h1 := sumN_le (fun i hi => h i (Nat.lt_succ_of_lt hi))
    have h2 := h n (Nat.lt_succ_self n)
    rw [sumN_s, Nat.succ_mul]
    omega
/-- the first of those with the greatest value above 0, and that value -/
def bestN (ok : Nat → Bool) (pr : Nat → Nat) : Nat → Option Nat × Nat
  | 0 => (none, 0)
  | n + 1 => if ok n = true ∧ (bestN ok pr n).2 < pr n then (some n, pr n) else bestN ok pr n
theorem bestN_yes {ok : Nat → Bool} {pr : Nat → Nat} {n : Nat} (h1 : ok n = true) (h2 : (bestN ok pr n).2 < pr n) : bestN ok pr (n + 1) = (some n, pr n) := by
  rw [bestN, if_pos ⟨h1, h2⟩]
theorem bestN_no {ok : Nat → Bool} {pr : Nat → Nat} {n : Nat} (h : ¬ (ok n = true ∧ (bestN ok pr n).2 < pr n)) : bestN ok pr (n + 1) = bestN ok pr n := by
  rw [bestN, if_neg h]
theorem bestN_cong {ok ok' : Nat → Bool} {pr pr' : Nat → Nat} : ∀ {n : Nat}, (∀ i, i < n → ok i = ok' i ∧ pr i = pr' i) → bestN ok pr n = bestN ok' pr' n
  | 0, _ => rfl
  | n + 1, h => by
    have h1 := bestN_cong (fun i hi => h i (Nat.lt_succ_of_lt hi))
    have h2 := h n (Nat.lt_succ_self n)
    rw [bestN, bestN, h1, h2.1, h2.2]
theorem bestN_le {ok : Nat → Bool} {pr : Nat → Nat} {c : Nat} : ∀ {n : Nat}, (∀ i, i < n → pr i ≤ c) → (bestN ok pr n).2 ≤ c
  | 0, _ => Nat.zero_le _
  | n + 1, h => by
    have h1 := bestN_le (ok := ok) (fun i hi => h i (Nat.lt_succ_of_lt hi))
    rw [bestN]
    split
    · exact h n (Nat.lt_succ_self n)
    · exact h1
theorem bestN_some {ok : Nat → Bool} {pr : Nat → Nat} {i : Nat} : ∀ {n : Nat}, (bestN ok pr n).1 = some i → i < n ∧ ok i = true ∧ (bestN ok pr n).2 = pr i
  | 0, h => by cases h
  | n + 1, h => by
    by_cases c : ok n = true ∧ (bestN ok pr n).2 < pr n
    · rw [bestN, if_pos c] at h ⊢
      cases h
      exact ⟨Nat.lt_succ_self _, c.1, rfl⟩
    · rw [bestN, if_neg c] at h ⊢
      obtain ⟨h1, h2⟩ := bestN_some h
      exact ⟨Nat.lt_succ_of_lt h1, h2⟩
theorem bestN_none {ok : Nat → Bool} {pr : Nat → Nat} : ∀ {n : Nat}, (bestN ok pr n).1 = none → (bestN ok pr n).2 = 0 ∧ ∀ i, i < n → ok i = true → pr i = 0
  | 0, _ => ⟨rfl, fun i hi => absurd hi (Nat.not_lt_zero i)⟩
  | n + 1, h => by
    by_cases c : ok n = true ∧ (bestN ok pr n).2 < pr n
    · rw [bestN, if_pos c] at h
      cases h
    · rw [bestN, if_neg c] at h ⊢
      obtain ⟨h1, h2⟩ := bestN_none h
      refine ⟨h1, fun i hi hok => ?_⟩
      by_cases e : i = n
      · subst e
        rw [h1] at c
        exact Nat.eq_zero_of_not_pos (fun z => c ⟨hok, z⟩)
      · exact h2 i (by omega) hok
/-- what a Stock is asked for -/
abbrev isT (u : SV) : Nat := if sT u = 0 then 1 else 0
abbrev sA (u : SV) : Nat := sW u * sH u
def yThere (y : YV) : Nat := sumN (fun i => isT (yS y i)) (ySc y)
def yAreaT (y : YV) : Nat := sumN (fun i => if sT (yS y i) = 0 then sA (yS y i) else 0) (ySc y)
def yArea0 (y : YV) : Nat := sumN (fun i => if sF (yS y i) = -1 then sA (yS y i) else 0) (ySc y)
def ySt (y : YV) : Nat := sumN (fun i => kT (yK y i) * kL (yK y i) * kB (yK y i)) (yKc y)
def yTaken (y : YV) : Nat := sumN (fun i => kT (yK y i)) (yKc y)
def yWanted (y : YV) : Nat := sumN (fun i => kN (yK y i)) (yKc y)
def yPaid (y : YV) : Nat := sumN (fun i => kD (yK y i)) (yKc y)
def yWaste (y : YV) : Int32 := nI (yArea0 y) - nI (yAreaT y) - nI (ySt y)
/-- the dearest kind that lies in a piece; the dearest wanted that fits a slab -/
abbrev kLies (k : KV) (w h g : Nat) : Bool := kGoes k 0 w h g || kGoes k 1 w h g
def yStone (y : YV) (w h g : Nat) : Option Nat × Nat := bestN (fun i => kLies (yK y i) w h g) (fun i => kP (yK y i)) (yKc y)
abbrev okW (y : YV) (u : SV) (i : Nat) : Bool := decide (0 < kN (yK y i)) && (sFits u (yK y i)).isSome
def yDear (y : YV) (i : Nat) : Option Nat × Nat := bestN (okW y (yS y i)) (fun j => kP (yK y j)) (yKc y)
def yLong (y : YV) (g : Nat) (b : Bool) : Nat → Nat
  | 0 => 0
  | n + 1 => if sT (yS y n) = 0 ∧ sG (yS y n) = g then max (yLong y g b n) (if b then sW (yS y n) else sH (yS y n)) else yLong y g b n
/-- the slab that a plan takes next: number, price, area -/
def yNext (y : YV) : Nat → Option Nat × Nat × Nat
  | 0 => (none, 0, 0)
  | n + 1 => if (yDear y n).1.isSome = true ∧ ((yNext y n).2.1 < (yDear y n).2 ∨ ((yDear y n).2 = (yNext y n).2.1 ∧ sA (yS y n) < (yNext y n).2.2)) then (some n, (yDear y n).2, sA (yS y n)) else yNext y n
theorem i32_sub_sub (a b c : Int32) : a - b - c = a - (b + c) := by
  rw [Int32.sub_eq_add_neg, Int32.sub_eq_add_neg, Int32.sub_eq_add_neg, Int32.neg_add, Int32.add_assoc, Int32.sub_eq_add_neg]
