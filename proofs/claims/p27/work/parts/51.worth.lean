/-! what a piece is worth: against each cut, in size, in prices, turned by a quarter -/
theorem sumN_add {f g : Nat → Nat} : ∀ {n : Nat}, sumN f n + sumN g n = sumN (fun i => f i + g i) n
  | 0 => rfl
  | n + 1 => by
    rw [sumN_s, sumN_s, sumN_s, ← sumN_add (f := f) (g := g)]
    omega
theorem pickV_p {W : Nat → Nat → Nat} {kf w h p0 : Nat} : ∀ {n : Nat}, p0 ≤ (pickV W kf w h p0 n).1
  | 0 => Nat.le_refl _
  | n + 1 => by
    have ih := pickV_p (W := W) (kf := kf) (w := w) (h := h) (p0 := p0) (n := n)
    rw [pickV]
    split
    · show p0 ≤ W (n + 1) h + W (w - kf - (n + 1)) h; omega
    · exact ih
theorem pickV_c {W : Nat → Nat → Nat} {kf w h p0 k : Nat} (hk : 1 ≤ k) : ∀ {n : Nat}, k ≤ n → W k h + W (w - kf - k) h ≤ (pickV W kf w h p0 n).1
  | 0, hn => by omega
  | n + 1, hn => by
    rw [pickV]
    by_cases e : k = n + 1
    · subst e
      split
      · exact Nat.le_refl _
      · omega
    · have ih := pickV_c (W := W) (kf := kf) (w := w) (h := h) (p0 := p0) hk (n := n) (by omega)
      split
      · show _ ≤ W (n + 1) h + W (w - kf - (n + 1)) h; omega
      · exact ih
theorem pickV_u {W : Nat → Nat → Nat} {kf w h p0 B : Nat} (hp : p0 ≤ B) : ∀ {n : Nat}, (∀ k, 1 ≤ k → k ≤ n → W k h + W (w - kf - k) h ≤ B) → (pickV W kf w h p0 n).1 ≤ B
  | 0, _ => hp
  | n + 1, hW => by
    rw [pickV]
    split
    · exact hW (n + 1) (by omega) (Nat.le_refl _)
    · exact pickV_u hp (fun k h1 h2 => hW k h1 (by omega))
theorem pickH_p {W : Nat → Nat → Nat} {kf w h : Nat} {q0 : Nat × cutT} : ∀ {n : Nat}, q0.1 ≤ (pickH W kf w h q0 n).1
  | 0 => Nat.le_refl _
  | n + 1 => by
    have ih := pickH_p (W := W) (kf := kf) (w := w) (h := h) (q0 := q0) (n := n)
    rw [pickH]
    split
    · show q0.1 ≤ W w (n + 1) + W w (h - kf - (n + 1)); omega
    · exact ih
theorem pickH_c {W : Nat → Nat → Nat} {kf w h k : Nat} {q0 : Nat × cutT} (hk : 1 ≤ k) : ∀ {n : Nat}, k ≤ n → W w k + W w (h - kf - k) ≤ (pickH W kf w h q0 n).1
  | 0, hn => by omega
  | n + 1, hn => by
    rw [pickH]
    by_cases e : k = n + 1
    · subst e
      split
      · exact Nat.le_refl _
      · omega
    · have ih := pickH_c (W := W) (kf := kf) (w := w) (h := h) (q0 := q0) hk (n := n) (by omega)
      split
      · show _ ≤ W w (n + 1) + W w (h - kf - (n + 1)); omega
      · exact ih
theorem pickH_u {W : Nat → Nat → Nat} {kf w h B : Nat} {q0 : Nat × cutT} (hp : q0.1 ≤ B) : ∀ {n : Nat}, (∀ k, 1 ≤ k → k ≤ n → W w k + W w (h - kf - k) ≤ B) → (pickH W kf w h q0 n).1 ≤ B
  | 0, _ => hp
  | n + 1, hW => by
    rw [pickH]
    split
    · exact hW (n + 1) (by omega) (Nat.le_refl _)
    · exact pickH_u hp (fun k h1 h2 => hW k h1 (by omega))
theorem pick_p {W : Nat → Nat → Nat} {kf w h p0 : Nat} : p0 ≤ (pick W kf w h p0).1 := Nat.le_trans pickV_p pickH_p
theorem pick_cV {W : Nat → Nat → Nat} {kf w h p0 k : Nat} (hk : 1 ≤ k) (h2 : k + k + kf ≤ w) : W k h + W (w - kf - k) h ≤ (pick W kf w h p0).1 := Nat.le_trans (pickV_c hk (by show k ≤ (w - kf) / 2; omega)) pickH_p
theorem pick_cH {W : Nat → Nat → Nat} {kf w h p0 k : Nat} (hk : 1 ≤ k) (h2 : k + k + kf ≤ h) : W w k + W w (h - kf - k) ≤ (pick W kf w h p0).1 := pickH_c hk (by show k ≤ (h - kf) / 2; omega)
theorem pick_u {W : Nat → Nat → Nat} {kf w h p0 B : Nat} (hp : p0 ≤ B) (hV : ∀ k, 1 ≤ k → k + k + kf ≤ w → W k h + W (w - kf - k) h ≤ B) (hH : ∀ k, 1 ≤ k → k + k + kf ≤ h → W w k + W w (h - kf - k) ≤ B) : (pick W kf w h p0).1 ≤ B :=
  pickH_u (pickV_u hp (fun k h1 h2 => hV k h1 (by have h2 : k ≤ (w - kf) / 2 := h2; omega))) (fun k h1 h2 => hH k h1 (by have h2 : k ≤ (h - kf) / 2 := h2; omega))
theorem wV_p {st : stT} {kf w h : Nat} (h1 : 1 ≤ w) (h2 : 1 ≤ h) : (st w h).2 ≤ wV st kf w h := by
  rw [wV_eq h1 h2]
  exact pick_p
theorem wV_cV {st : stT} {kf w h k : Nat} (h1 : 1 ≤ w) (h2 : 1 ≤ h) (hk : 1 ≤ k) (hw : k + k + kf ≤ w) : wV st kf k h + wV st kf (w - kf - k) h ≤ wV st kf w h := by
  rw [wV_eq (w := w) h1 h2]
  exact pick_cV (W := wV st kf) hk hw
theorem wV_cH {st : stT} {kf w h k : Nat} (h1 : 1 ≤ w) (h2 : 1 ≤ h) (hk : 1 ≤ k) (hh : k + k + kf ≤ h) : wV st kf w k + wV st kf w (h - kf - k) ≤ wV st kf w h := by
  rw [wV_eq (h := h) h1 h2]
  exact pick_cH (W := wV st kf) hk hh
theorem wV_u {st : stT} {kf w h B : Nat} (h1 : 1 ≤ w) (h2 : 1 ≤ h) (hp : (st w h).2 ≤ B) (hV : ∀ k, 1 ≤ k → k + k + kf ≤ w → wV st kf k h + wV st kf (w - kf - k) h ≤ B) (hH : ∀ k, 1 ≤ k → k + k + kf ≤ h → wV st kf w k + wV st kf w (h - kf - k) ≤ B) : wV st kf w h ≤ B := by
  rw [wV_eq h1 h2]
  exact pick_u (W := wV st kf) hp hV hH
/-- greater prices -/
theorem wV_st {st st' : stT} {kf : Nat} (hst : ∀ w h, (st w h).2 ≤ (st' w h).2) : ∀ (n w h : Nat), w + h ≤ n → 1 ≤ w → 1 ≤ h → wV st kf w h ≤ wV st' kf w h := by
  intro n
  induction n with
  | zero => intro w h h0 h1 _; omega
  | succ n ih =>
    intro w h h0 h1 h2
    refine wV_u h1 h2 (Nat.le_trans (hst w h) (wV_p h1 h2)) (fun k hk hw => ?_) (fun k hk hh => ?_)
    · exact Nat.le_trans (Nat.add_le_add (ih k h (by omega) hk h2) (ih (w - kf - k) h (by omega) (by omega) h2)) (wV_cV h1 h2 hk hw)
    · exact Nat.le_trans (Nat.add_le_add (ih w k (by omega) h1 hk) (ih w (h - kf - k) (by omega) h1 (by omega))) (wV_cH h1 h2 hk hh)
/-- a greater piece -/
theorem wV_wide {st : stT} {kf : Nat} (hst : ∀ w h, (st w h).2 ≤ (st (w + 1) h).2) : ∀ (n w h : Nat), w + h ≤ n → 1 ≤ w → 1 ≤ h → wV st kf w h ≤ wV st kf (w + 1) h := by
  intro n
  induction n with
  | zero => intro w h h0 h1 _; omega
  | succ n ih =>
    intro w h h0 h1 h2
    refine wV_u h1 h2 (Nat.le_trans (hst w h) (wV_p (by omega) h2)) (fun k hk hw => ?_) (fun k hk hh => ?_)
    · have e : wV st kf (w - kf - k) h ≤ wV st kf (w + 1 - kf - k) h := by
        have := ih (w - kf - k) h (by omega) (by omega) h2
        rw [show w - kf - k + 1 = w + 1 - kf - k by omega] at this
        exact this
      exact Nat.le_trans (Nat.add_le_add_left e _) (wV_cV (by omega) h2 hk (by omega))
    · exact Nat.le_trans (Nat.add_le_add (ih w k (by omega) h1 hk) (ih w (h - kf - k) (by omega) h1 (by omega))) (wV_cH (by omega) h2 hk hh)
/-- turned by a quarter -/
theorem wV_turn1 {st st' : stT} {kf : Nat} (hst : ∀ w h, (st w h).2 ≤ (st' h w).2) : ∀ (n w h : Nat), w + h ≤ n → 1 ≤ w → 1 ≤ h → wV st kf w h ≤ wV st' kf h w := by
  intro n
  induction n with
  | zero => intro w h h0 h1 _; omega
  | succ n ih =>
    intro w h h0 h1 h2
    refine wV_u h1 h2 (Nat.le_trans (hst w h) (wV_p h2 h1)) (fun k hk hw => ?_) (fun k hk hh => ?_)
    · exact Nat.le_trans (Nat.add_le_add (ih k h (by omega) hk h2) (ih (w - kf - k) h (by omega) (by omega) h2)) (wV_cH h2 h1 hk hw)
    · exact Nat.le_trans (Nat.add_le_add (ih w k (by omega) h1 hk) (ih w (h - kf - k) (by omega) h1 (by omega))) (wV_cV h2 h1 hk hh)
theorem wV_turn {st st' : stT} {kf w h : Nat} (hst : ∀ w h, (st w h).2 = (st' h w).2) (h1 : 1 ≤ w) (h2 : 1 ≤ h) : wV st kf w h = wV st' kf h w :=
  Nat.le_antisymm (wV_turn1 (fun w h => Nat.le_of_eq (hst w h)) _ w h (Nat.le_refl _) h1 h2) (wV_turn1 (fun w h => Nat.le_of_eq (hst h w).symm) _ h w (Nat.le_refl _) h2 h1)
/-- the best cut has the worth -/
theorem qV_v {st : stT} {kf w h k : Nat} (h1 : 1 ≤ w) (h2 : 1 ≤ h) (e : (qV st kf w h).2 = some (true, k)) : (1 ≤ k ∧ k + k + kf ≤ w) ∧ wV st kf k h + wV st kf (w - kf - k) h = wV st kf w h := by
  rw [wV_eq (w := w) h1 h2]
  rcases pick_in (W := wV st kf) (kf := kf) (w := w) (h := h) (p0 := (st w h).2) with e0 | ⟨k2, a1, a2, a3, a4⟩ | ⟨k2, a1, a2, a3, a4⟩
  · rw [qV, e0] at e; cases e
  · have e5 := a3.symm.trans e
    cases e5
    exact ⟨⟨a1, a2⟩, a4.symm⟩
  · have e5 := a3.symm.trans e
    cases e5
theorem qV_h {st : stT} {kf w h k : Nat} (h1 : 1 ≤ w) (h2 : 1 ≤ h) (e : (qV st kf w h).2 = some (false, k)) : (1 ≤ k ∧ k + k + kf ≤ h) ∧ wV st kf w k + wV st kf w (h - kf - k) = wV st kf w h := by
  rw [wV_eq (h := h) h1 h2]
  rcases pick_in (W := wV st kf) (kf := kf) (w := w) (h := h) (p0 := (st w h).2) with e0 | ⟨k2, a1, a2, a3, a4⟩ | ⟨k2, a1, a2, a3, a4⟩
  · rw [qV, e0] at e; cases e
  · have e5 := a3.symm.trans e
    cases e5
  · have e5 := a3.symm.trans e
    cases e5
    exact ⟨⟨a1, a2⟩, a4.symm⟩
theorem qV_n {st : stT} {kf w h : Nat} (h1 : 1 ≤ w) (h2 : 1 ≤ h) (e : (qV st kf w h).2 = none) : wV st kf w h = (st w h).2 := by
  rw [wV_eq h1 h2]
  rcases pick_in (W := wV st kf) (kf := kf) (w := w) (h := h) (p0 := (st w h).2) with e0 | ⟨k2, a1, a2, a3, a4⟩ | ⟨k2, a1, a2, a3, a4⟩
  · rw [qV, e0]
  · rw [qV, a3] at e; cases e
  · rw [qV, a3] at e; cases e
/-- all stones together have the worth -/
theorem sumN_one {f : Nat → Nat} {i : Nat} : ∀ {n : Nat}, i < n → sumN (fun j => (if some i = some j then 1 else 0) * f j) n = f i
  | 0, h => absurd h (Nat.not_lt_zero i)
  | n + 1, h => by
    rw [sumN_s]
    by_cases e : i = n
    · subst e
      rw [if_pos rfl, Nat.one_mul, sumN_cong (g := fun _ => 0) (fun j hj => by rw [if_neg (fun z => by cases z; omega), Nat.zero_mul])]
      have : ∀ m, sumN (fun _ => 0) m = 0 := fun m => by
        induction m with
        | zero => rfl
        | succ m ih => rw [sumN_s, ih]
      rw [this, Nat.zero_add]
    · rw [sumN_one (n := n) (by omega), if_neg (fun z => by cases z; exact e rfl), Nat.zero_mul, Nat.add_zero]
theorem sumN_z : ∀ {n : Nat} {f : Nat → Nat}, (∀ i, i < n → f i = 0) → sumN f n = 0
  | 0, _, _ => rfl
  | n + 1, f, h => by rw [sumN_s, sumN_z (fun i hi => h i (by omega)), h n (by omega)]
theorem nV_sum {st : stT} {kf c : Nat} {pr : Nat → Nat} (hs : ∀ w h i, (st w h).1 = some i → i < c ∧ (st w h).2 = pr i) (hn : ∀ w h, (st w h).1 = none → (st w h).2 = 0) : ∀ (n w h : Nat), w + h ≤ n → 1 ≤ w → 1 ≤ h → sumN (fun j => nV st kf j w h * pr j) c = wV st kf w h := by
  intro n
  induction n with
  | zero => intro w h h0 h1 _; omega
  | succ n ih =>
    intro w h h0 h1 h2
    rcases qV_in (st := st) (kf := kf) (w := w) (h := h) with e | ⟨k, e1, e2, e⟩ | ⟨k, e1, e2, e⟩
    · rw [qV_n h1 h2 e]
      cases hw : (st w h).1 with
      | none =>
        rw [hn w h hw]
        exact sumN_z (fun j _ => by rw [nV_none h1 e, hw, if_neg (fun z => by cases z), Nat.zero_mul])
      | some i =>
        obtain ⟨hi, hp⟩ := hs w h i hw
        rw [hp, ← sumN_one (f := pr) hi]
        exact sumN_cong (fun j _ => by rw [nV_none h1 e, hw])
    · obtain ⟨-, hv⟩ := qV_v h1 h2 e
      rw [← hv, ← ih k h (by omega) e1 h2, ← ih (w - kf - k) h (by omega) (by omega) h2, sumN_add]
      exact sumN_cong (fun j _ => by rw [nV_v h1 h2 e1 e2 e, Nat.add_mul])
    · obtain ⟨-, hv⟩ := qV_h h1 h2 e
      rw [← hv, ← ih w k (by omega) h1 e1, ← ih w (h - kf - k) (by omega) h1 (by omega), sumN_add]
      exact sumN_cong (fun j _ => by rw [nV_h h1 h2 e1 e2 e, Nat.add_mul])
/-- the dearest that lies there -/
theorem bestN_ge {ok : Nat → Bool} {pr : Nat → Nat} {i : Nat} : ∀ {n : Nat}, i < n → ok i = true → pr i ≤ (bestN ok pr n).2
  | 0, h, _ => absurd h (Nat.not_lt_zero i)
  | n + 1, h, hok => by
    by_cases e : i = n
    · subst e
      by_cases c : (bestN ok pr i).2 < pr i
      · rw [bestN_yes hok c]; exact Nat.le_refl _
      · rw [bestN_no (fun z => c z.2)]; omega
    · have ih := bestN_ge (pr := pr) (n := n) (by omega) hok
      by_cases c : ok n = true ∧ (bestN ok pr n).2 < pr n
      · rw [bestN_yes c.1 c.2]; show pr i ≤ pr n; omega
      · rw [bestN_no c]; exact ih
theorem bestN_mono {ok ok' : Nat → Bool} {pr pr' : Nat → Nat} {n : Nat} (h : ∀ i, i < n → ok i = true → ok' i = true ∧ pr i ≤ pr' i) : (bestN ok pr n).2 ≤ (bestN ok' pr' n).2 := by
  cases hb : (bestN ok pr n).1 with
  | none => rw [(bestN_none hb).1]; exact Nat.zero_le _
  | some i =>
    obtain ⟨h1, h2, h3⟩ := bestN_some hb
    obtain ⟨h4, h5⟩ := h i h1 h2
    rw [h3]
    exact Nat.le_trans h5 (bestN_ge h1 h4)
theorem kGoes_in {k : KV} {mn w h g : Nat} : kGoes k mn w h g = true ↔ ((kW k == 0) || ((kW k == 1) == (mn == g))) = true ∧ kw k mn ≤ w ∧ kh k mn ≤ h := by
  unfold kGoes
  rw [Bool.and_eq_true, Bool.and_eq_true, decide_eq_true_iff, decide_eq_true_iff]
theorem kLies_wide {k : KV} {w h g : Nat} (hk : kLies k w h g = true) : kLies k (w + 1) h g = true := by
  rcases (Bool.or_eq_true _ _).mp hk with h1 | h1
  · obtain ⟨a, b, c⟩ := kGoes_in.mp h1
    exact (Bool.or_eq_true _ _).mpr (Or.inl (kGoes_in.mpr ⟨a, by omega, c⟩))
  · obtain ⟨a, b, c⟩ := kGoes_in.mp h1
    exact (Bool.or_eq_true _ _).mpr (Or.inr (kGoes_in.mpr ⟨a, by omega, c⟩))
theorem kLies_turn {k : KV} {w h g : Nat} (hg : g ≤ 1) (hk : kLies k w h g = true) : kLies k h w (1 - g) = true := by
  rcases (Bool.or_eq_true _ _).mp hk with h1 | h1
  · obtain ⟨a, b, c⟩ := kGoes_in.mp h1
    refine (Bool.or_eq_true _ _).mpr (Or.inr (kGoes_in.mpr ⟨?_, c, b⟩))
    rcases (show g = 0 ∨ g = 1 by omega) with e | e <;> subst e <;> exact a
  · obtain ⟨a, b, c⟩ := kGoes_in.mp h1
    refine (Bool.or_eq_true _ _).mpr (Or.inl (kGoes_in.mpr ⟨?_, c, b⟩))
    rcases (show g = 0 ∨ g = 1 by omega) with e | e <;> subst e <;> exact a
theorem yStone_wide (y : YV) (g w h : Nat) : (ySt2 y g w h).2 ≤ (ySt2 y g (w + 1) h).2 := bestN_mono (fun _ _ hk => ⟨kLies_wide hk, Nat.le_refl _⟩)
theorem yStone_turn (y : YV) {g : Nat} (hg : g ≤ 1) (w h : Nat) : (ySt2 y g w h).2 = (ySt2 y (1 - g) h w).2 :=
  Nat.le_antisymm (bestN_mono (fun _ _ hk => ⟨kLies_turn hg hk, Nat.le_refl _⟩)) (bestN_mono (fun _ _ hk => ⟨by
    have := kLies_turn (by omega) hk
    rwa [show 1 - (1 - g) = g by omega] at this, Nat.le_refl _⟩))
theorem yWorth_turn (y : YV) {g w h : Nat} (hg : g ≤ 1) (h1 : 1 ≤ w) (h2 : 1 ≤ h) : wV (ySt2 y (1 - g)) (yF y) h w = wV (ySt2 y g) (yF y) w h := (wV_turn (yStone_turn y hg) h1 h2).symm
theorem yWorth_wide (y : YV) {g w h : Nat} (h1 : 1 ≤ w) (h2 : 1 ≤ h) : wV (ySt2 y g) (yF y) w h ≤ wV (ySt2 y g) (yF y) (w + 1) h := wV_wide (yStone_wide y g) _ w h (Nat.le_refl _) h1 h2
theorem yWorth_sum (y : YV) {g w h : Nat} (h1 : 1 ≤ w) (h2 : 1 ≤ h) : sumN (fun j => nV (ySt2 y g) (yF y) j w h * kP (yK y j)) (yKc y) = wV (ySt2 y g) (yF y) w h :=
  nV_sum (st := ySt2 y g) (kf := yF y) (c := yKc y) (pr := fun j => kP (yK y j)) (fun w h i e => ⟨(bestN_some e).1, (bestN_some e).2.2⟩) (fun w h e => (bestN_none e).1) _ w h (Nat.le_refl _) h1 h2
/-- all that is there is worth no less at a greater price -/
theorem sumN_mono {f g : Nat → Nat} : ∀ {n : Nat}, (∀ i, i < n → f i ≤ g i) → sumN f n ≤ sumN g n
  | 0, _ => Nat.le_refl _
  | n + 1, h => by
    have h1 := sumN_mono (fun i hi => h i (Nat.lt_succ_of_lt hi))
    have h2 := h n (Nat.lt_succ_self n)
    rw [sumN_s, sumN_s]
    omega
theorem yStone_more {y : YV} {j q : Nat} (hq : kP (yK y j) ≤ q) (g w h : Nat) : (ySt2 y g w h).2 ≤ (ySt2 (ySetK y j (kPr (yK y j) q)) g w h).2 := by
  refine bestN_mono (fun i _ hk => ?_)
  show kLies (fU (yK y) j (kPr (yK y j) q) i) w h g = true ∧ kP (yK y i) ≤ kP (fU (yK y) j (kPr (yK y j) q) i)
  by_cases e : i = j
  · subst e; rw [fU_eq]; exact ⟨hk, hq⟩
  · rw [fU_ne e]; exact ⟨hk, Nat.le_refl _⟩
theorem yAll_more {y : YV} {j q : Nat} (hs : ∀ i, i < ySc y → sOK (yS y i)) (hq : kP (yK y j) ≤ q) : yAll y ≤ yAll (ySetK y j (kPr (yK y j) q)) := by
  have h1 : ∀ g, yAllG y g ≤ yAllG (ySetK y j (kPr (yK y j) q)) g := fun g => sumN_mono (fun i hi => by
    obtain ⟨s1, -, s3, -⟩ := hs i hi
    show (if sT (yS y i) = 0 ∧ sG (yS y i) = g then wV (ySt2 y g) (yF y) (sW (yS y i)) (sH (yS y i)) else 0) ≤ (if sT (yS y i) = 0 ∧ sG (yS y i) = g then wV (ySt2 (ySetK y j (kPr (yK y j) q)) g) (yF y) (sW (yS y i)) (sH (yS y i)) else 0)
    split
    · exact wV_st (yStone_more hq g) _ _ _ (Nat.le_refl _) s1 s3
    · exact Nat.le_refl _)
  exact Nat.add_le_add (h1 0) (h1 1)
theorem yAll_lt {y : YV} (hc : ySc y ≤ 44) (hp : ∀ j, j < yKc y → kP (yK y j) ≤ 999) (hs : ∀ i, i < ySc y → sOK (yS y i)) : yAll y ≤ 60000000 := by
  have h1 : ∀ g, yAllG y g ≤ ySc y * 575424 := fun g => sumN_le (fun i hi => by
    obtain ⟨s1, s2, s3, s4, -⟩ := hs i hi
    split
    · exact wV_le (fun w h => bestN_le hp) s1 s3 s2 s4
    · exact Nat.zero_le _)
  have h2 := h1 0
  have h3 := h1 1
  have h4 : ySc y * 575424 ≤ 44 * 575424 := Nat.mul_le_mul_right _ hc
  unfold yAll
  omega
