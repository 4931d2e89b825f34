/-! the worth of a piece: by fuel, and its own equation -/
abbrev cutT : Type := Option (Bool × Nat)
def cE : cutT → Int32
  | none => -1
  | some (true, k) => nI k
  | some (false, k) => nI (100 + k)
abbrev half (n kf : Nat) : Nat := (n - kf) / 2
def pickV (W : Nat → Nat → Nat) (kf w h p0 : Nat) : Nat → Nat × cutT
  | 0 => (p0, none)
  | n + 1 => if (pickV W kf w h p0 n).1 < W (n + 1) h + W (w - kf - (n + 1)) h then (W (n + 1) h + W (w - kf - (n + 1)) h, some (true, n + 1)) else pickV W kf w h p0 n
def pickH (W : Nat → Nat → Nat) (kf w h : Nat) (q0 : Nat × cutT) : Nat → Nat × cutT
  | 0 => q0
  | n + 1 => if (pickH W kf w h q0 n).1 < W w (n + 1) + W w (h - kf - (n + 1)) then (W w (n + 1) + W w (h - kf - (n + 1)), some (false, n + 1)) else pickH W kf w h q0 n
def pick (W : Nat → Nat → Nat) (kf w h p0 : Nat) : Nat × cutT := pickH W kf w h (pickV W kf w h p0 (half w kf)) (half h kf)
theorem pickV_yes {W : Nat → Nat → Nat} {kf w h p0 n : Nat} (c : (pickV W kf w h p0 n).1 < W (n + 1) h + W (w - kf - (n + 1)) h) : pickV W kf w h p0 (n + 1) = (W (n + 1) h + W (w - kf - (n + 1)) h, some (true, n + 1)) := by rw [pickV, if_pos c]
theorem pickV_no {W : Nat → Nat → Nat} {kf w h p0 n : Nat} (c : W (n + 1) h + W (w - kf - (n + 1)) h ≤ (pickV W kf w h p0 n).1) : pickV W kf w h p0 (n + 1) = pickV W kf w h p0 n := by rw [pickV, if_neg (Nat.not_lt.mpr c)]
theorem pickH_yes {W : Nat → Nat → Nat} {kf w h n : Nat} {q0 : Nat × cutT} (c : (pickH W kf w h q0 n).1 < W w (n + 1) + W w (h - kf - (n + 1))) : pickH W kf w h q0 (n + 1) = (W w (n + 1) + W w (h - kf - (n + 1)), some (false, n + 1)) := by rw [pickH, if_pos c]
theorem pickH_no {W : Nat → Nat → Nat} {kf w h n : Nat} {q0 : Nat × cutT} (c : W w (n + 1) + W w (h - kf - (n + 1)) ≤ (pickH W kf w h q0 n).1) : pickH W kf w h q0 (n + 1) = pickH W kf w h q0 n := by rw [pickH, if_neg (Nat.not_lt.mpr c)]
/-- the places are ahead of the middle -/
theorem pickV_in {W : Nat → Nat → Nat} {kf w h p0 : Nat} : ∀ {n : Nat}, n ≤ half w kf → (pickV W kf w h p0 n).2 = none ∨ ∃ k, 1 ≤ k ∧ k + k + kf ≤ w ∧ (pickV W kf w h p0 n).2 = some (true, k) ∧ (pickV W kf w h p0 n).1 = W k h + W (w - kf - k) h
  | 0, _ => Or.inl rfl
  | n + 1, hn => by
    have hn9 : n + 1 ≤ (w - kf) / 2 := hn
    rw [pickV]
    split
    · exact Or.inr ⟨n + 1, by omega, by omega, rfl, rfl⟩
    · exact pickV_in (by omega)
theorem pickH_in {W : Nat → Nat → Nat} {kf w h : Nat} {q0 : Nat × cutT} : ∀ {n : Nat}, n ≤ half h kf → pickH W kf w h q0 n = q0 ∨ ∃ k, 1 ≤ k ∧ k + k + kf ≤ h ∧ (pickH W kf w h q0 n).2 = some (false, k) ∧ (pickH W kf w h q0 n).1 = W w k + W w (h - kf - k)
  | 0, _ => Or.inl rfl
  | n + 1, hn => by
    have hn9 : n + 1 ≤ (h - kf) / 2 := hn
    rw [pickH]
    split
    · exact Or.inr ⟨n + 1, by omega, by omega, rfl, rfl⟩
    · exact pickH_in (by omega)
theorem pick_in {W : Nat → Nat → Nat} {kf w h p0 : Nat} : pick W kf w h p0 = (p0, none) ∨ (∃ k, 1 ≤ k ∧ k + k + kf ≤ w ∧ (pick W kf w h p0).2 = some (true, k) ∧ (pick W kf w h p0).1 = W k h + W (w - kf - k) h) ∨ ∃ k, 1 ≤ k ∧ k + k + kf ≤ h ∧ (pick W kf w h p0).2 = some (false, k) ∧ (pick W kf w h p0).1 = W w k + W w (h - kf - k) := by
  unfold pick
  rcases pickH_in (W := W) (kf := kf) (w := w) (h := h) (q0 := pickV W kf w h p0 (half w kf)) (Nat.le_refl _) with e | e
  · rw [e]
    rcases pickV_in (W := W) (kf := kf) (w := w) (h := h) (p0 := p0) (Nat.le_refl _) with e2 | e2
    · refine Or.inl ?_
      have : ∀ n, (pickV W kf w h p0 n).2 = none → pickV W kf w h p0 n = (p0, none) := by
        intro n
        induction n with
        | zero => intro _; rfl
        | succ n ih =>
          intro hn
          rw [pickV] at hn ⊢
          split at hn
          · cases hn
          · rename_i c
            rw [if_neg c]
            exact ih hn
      exact this _ e2
    · exact Or.inr (Or.inl e2)
  · exact Or.inr (Or.inr e)
theorem pickV_cong {W W' : Nat → Nat → Nat} {kf w h p0 : Nat} : ∀ {n : Nat}, n ≤ half w kf → (∀ a, 1 ≤ a → a < w → W a h = W' a h) → pickV W kf w h p0 n = pickV W' kf w h p0 n
  | 0, _, _ => rfl
  | n + 1, hn, e => by
    have hn9 : n + 1 ≤ (w - kf) / 2 := hn
    rw [pickV, pickV, pickV_cong (Nat.le_of_succ_le hn) e, e (n + 1) (by omega) (by omega), e (w - kf - (n + 1)) (by omega) (by omega)]
theorem pickH_cong {W W' : Nat → Nat → Nat} {kf w h : Nat} {q0 : Nat × cutT} : ∀ {n : Nat}, n ≤ half h kf → (∀ b, 1 ≤ b → b < h → W w b = W' w b) → pickH W kf w h q0 n = pickH W' kf w h q0 n
  | 0, _, _ => rfl
  | n + 1, hn, e => by
    have hn9 : n + 1 ≤ (h - kf) / 2 := hn
    rw [pickH, pickH, pickH_cong (Nat.le_of_succ_le hn) e, e (n + 1) (by omega) (by omega), e (h - kf - (n + 1)) (by omega) (by omega)]
theorem pick_cong {W W' : Nat → Nat → Nat} {kf w h p0 : Nat} (e1 : ∀ a, 1 ≤ a → a < w → W a h = W' a h) (e2 : ∀ b, 1 ≤ b → b < h → W w b = W' w b) : pick W kf w h p0 = pick W' kf w h p0 := by
  unfold pick
  rw [pickV_cong (Nat.le_refl _) e1, pickH_cong (Nat.le_refl _) e2]
def wN (st : Nat → Nat → Option Nat × Nat) (kf : Nat) : Nat → Nat → Nat → Nat
  | 0, _, _ => 0
  | n + 1, w, h => (pick (wN st kf n) kf w h (st w h).2).1
abbrev wV (st : Nat → Nat → Option Nat × Nat) (kf w h : Nat) : Nat := wN st kf (w + h) w h
theorem wN_enough {st : Nat → Nat → Option Nat × Nat} {kf : Nat} : ∀ {n m w h : Nat}, 1 ≤ w → 1 ≤ h → w + h ≤ n → w + h ≤ m → wN st kf n w h = wN st kf m w h
  | 0, _, w, h, h1, h2, h3, _ => by omega
  | _ + 1, 0, w, h, h1, h2, _, h4 => by omega
  | n + 1, m + 1, w, h, h1, h2, h3, h4 => by
    rw [wN, wN, pick_cong (W' := wN st kf m) (fun a ha hb => wN_enough ha h2 (by omega) (by omega)) (fun b ha hb => wN_enough h1 ha (by omega) (by omega))]
abbrev qV (st : Nat → Nat → Option Nat × Nat) (kf w h : Nat) : Nat × cutT := pick (wV st kf) kf w h (st w h).2
theorem wV_eq {st : Nat → Nat → Option Nat × Nat} {kf w h : Nat} (h1 : 1 ≤ w) (h2 : 1 ≤ h) : wV st kf w h = (qV st kf w h).1 := by
  obtain ⟨n, hn⟩ : ∃ n, w + h = n + 1 := ⟨w + h - 1, by omega⟩
  show wN st kf (w + h) w h = _
  rw [hn, wN, pick_cong (W' := wV st kf) (fun a ha hb => wN_enough ha h2 (by omega) (Nat.le_refl _)) (fun b ha hb => wN_enough h1 ha (by omega) (Nat.le_refl _))]
/-- a piece's worth is at most 999 a point -/
theorem pickV_le {W : Nat → Nat → Nat} {kf w h p0 B : Nat} (hp : p0 ≤ B * (w * h)) (hW : ∀ a, 1 ≤ a → a < w → W a h ≤ B * (a * h)) : ∀ {n : Nat}, n ≤ half w kf → (pickV W kf w h p0 n).1 ≤ B * (w * h)
  | 0, _ => hp
  | n + 1, hn => by
    have hn9 : n + 1 ≤ (w - kf) / 2 := hn
    rw [pickV]
    split
    · have a1 := hW (n + 1) (by omega) (by omega)
      have a2 := hW (w - kf - (n + 1)) (by omega) (by omega)
      show W (n + 1) h + W (w - kf - (n + 1)) h ≤ B * (w * h)
      have a3 : B * ((n + 1) * h) + B * ((w - kf - (n + 1)) * h) ≤ B * (w * h) := by
        rw [← Nat.mul_add, ← Nat.add_mul]
        exact Nat.mul_le_mul_left _ (Nat.mul_le_mul_right _ (by omega))
      omega
    · exact pickV_le hp hW (Nat.le_of_succ_le hn)
theorem pickH_le {W : Nat → Nat → Nat} {kf w h B : Nat} {q0 : Nat × cutT} (hp : q0.1 ≤ B * (w * h)) (hW : ∀ b, 1 ≤ b → b < h → W w b ≤ B * (w * b)) : ∀ {n : Nat}, n ≤ half h kf → (pickH W kf w h q0 n).1 ≤ B * (w * h)
  | 0, _ => hp
  | n + 1, hn => by
    have hn9 : n + 1 ≤ (h - kf) / 2 := hn
    rw [pickH]
    split
    · have a1 := hW (n + 1) (by omega) (by omega)
      have a2 := hW (h - kf - (n + 1)) (by omega) (by omega)
      show W w (n + 1) + W w (h - kf - (n + 1)) ≤ B * (w * h)
      have a3 : B * (w * (n + 1)) + B * (w * (h - kf - (n + 1))) ≤ B * (w * h) := by
        rw [← Nat.mul_add, ← Nat.mul_add]
        exact Nat.mul_le_mul_left _ (Nat.mul_le_mul_left _ (by omega))
      omega
    · exact pickH_le hp hW (Nat.le_of_succ_le hn)
theorem wN_le {st : Nat → Nat → Option Nat × Nat} {kf B : Nat} (hst : ∀ w h, (st w h).2 ≤ B) : ∀ {n w h : Nat}, 1 ≤ w → 1 ≤ h → wN st kf n w h ≤ B * (w * h)
  | 0, _, _, _, _ => Nat.zero_le _
  | n + 1, w, h, h1, h2 => by
    rw [wN]
    have h0 : (st w h).2 ≤ B * (w * h) := Nat.le_trans (hst w h) (Nat.le_mul_of_pos_right _ (Nat.mul_pos h1 h2))
    exact pickH_le (pickV_le h0 (fun a ha _ => wN_le hst ha h2) (Nat.le_refl _)) (fun b hb _ => wN_le hst h1 hb) (Nat.le_refl _)
theorem wV_le {st : Nat → Nat → Option Nat × Nat} {kf w h : Nat} (hst : ∀ w h, (st w h).2 ≤ 999) (h1 : 1 ≤ w) (h2 : 1 ≤ h) (h3 : w ≤ 24) (h4 : h ≤ 24) : wV st kf w h ≤ 575424 :=
  Nat.le_trans (wN_le hst h1 h2) (Nat.le_trans (Nat.mul_le_mul_left 999 (Nat.mul_le_mul h3 h4)) (by decide))
/-- how many stones of a kind come of a piece -/
def nN (st : Nat → Nat → Option Nat × Nat) (kf j : Nat) : Nat → Nat → Nat → Nat
  | 0, _, _ => 0
  | n + 1, w, h => match (qV st kf w h).2 with
    | none => if (st w h).1 = some j then 1 else 0
    | some (true, k) => nN st kf j n k h + nN st kf j n (w - kf - k) h
    | some (false, k) => nN st kf j n w k + nN st kf j n w (h - kf - k)
abbrev nV (st : Nat → Nat → Option Nat × Nat) (kf j w h : Nat) : Nat := nN st kf j (w + h) w h
theorem qV_in {st : Nat → Nat → Option Nat × Nat} {kf w h : Nat} : (qV st kf w h).2 = none ∨ (∃ k, 1 ≤ k ∧ k + k + kf ≤ w ∧ (qV st kf w h).2 = some (true, k)) ∨ ∃ k, 1 ≤ k ∧ k + k + kf ≤ h ∧ (qV st kf w h).2 = some (false, k) := by
  rcases pick_in (W := wV st kf) (kf := kf) (w := w) (h := h) (p0 := (st w h).2) with e | ⟨k, e1, e2, e3, -⟩ | ⟨k, e1, e2, e3, -⟩
  · exact Or.inl (by rw [qV, e])
  · exact Or.inr (Or.inl ⟨k, e1, e2, e3⟩)
  · exact Or.inr (Or.inr ⟨k, e1, e2, e3⟩)
theorem nN_none {st : Nat → Nat → Option Nat × Nat} {kf j n w h : Nat} (e : (qV st kf w h).2 = none) : nN st kf j (n + 1) w h = if (st w h).1 = some j then 1 else 0 := by rw [nN, e]
theorem nN_v {st : Nat → Nat → Option Nat × Nat} {kf j n w h k : Nat} (e : (qV st kf w h).2 = some (true, k)) : nN st kf j (n + 1) w h = nN st kf j n k h + nN st kf j n (w - kf - k) h := by rw [nN, e]
theorem nN_h {st : Nat → Nat → Option Nat × Nat} {kf j n w h k : Nat} (e : (qV st kf w h).2 = some (false, k)) : nN st kf j (n + 1) w h = nN st kf j n w k + nN st kf j n w (h - kf - k) := by rw [nN, e]
theorem nN_enough {st : Nat → Nat → Option Nat × Nat} {kf j : Nat} : ∀ {n m w h : Nat}, 1 ≤ w → 1 ≤ h → w + h ≤ n → w + h ≤ m → nN st kf j n w h = nN st kf j m w h
  | 0, _, w, h, h1, h2, h3, _ => by omega
  | _ + 1, 0, w, h, h1, h2, _, h4 => by omega
  | n + 1, m + 1, w, h, h1, h2, h3, h4 => by
    rcases qV_in (st := st) (kf := kf) (w := w) (h := h) with e | ⟨k, e1, e2, e⟩ | ⟨k, e1, e2, e⟩
    · rw [nN_none e, nN_none e]
    · rw [nN_v e, nN_v e, nN_enough (n := n) (m := m) e1 h2 (by omega) (by omega), nN_enough (n := n) (m := m) (w := w - kf - k) (by omega) h2 (by omega) (by omega)]
    · rw [nN_h e, nN_h e, nN_enough (n := n) (m := m) h1 e1 (by omega) (by omega), nN_enough (n := n) (m := m) (h := h - kf - k) h1 (by omega) (by omega) (by omega)]
theorem nV_none {st : Nat → Nat → Option Nat × Nat} {kf j w h : Nat} (h1 : 1 ≤ w) (e : (qV st kf w h).2 = none) : nV st kf j w h = if (st w h).1 = some j then 1 else 0 := by
  obtain ⟨n, hn⟩ : ∃ n, w + h = n + 1 := ⟨w + h - 1, by omega⟩
  show nN st kf j (w + h) w h = _
  rw [hn, nN_none e]
theorem nV_v {st : Nat → Nat → Option Nat × Nat} {kf j w h k : Nat} (h1 : 1 ≤ w) (h2 : 1 ≤ h) (e1 : 1 ≤ k) (e2 : k + k + kf ≤ w) (e : (qV st kf w h).2 = some (true, k)) : nV st kf j w h = nV st kf j k h + nV st kf j (w - kf - k) h := by
  obtain ⟨n, hn⟩ : ∃ n, w + h = n + 1 := ⟨w + h - 1, by omega⟩
  show nN st kf j (w + h) w h = _
  rw [hn, nN_v e, nN_enough (n := n) (m := k + h) e1 h2 (by omega) (by omega), nN_enough (n := n) (m := w - kf - k + h) (w := w - kf - k) (by omega) h2 (by omega) (by omega)]
theorem nV_h {st : Nat → Nat → Option Nat × Nat} {kf j w h k : Nat} (h1 : 1 ≤ w) (h2 : 1 ≤ h) (e1 : 1 ≤ k) (e2 : k + k + kf ≤ h) (e : (qV st kf w h).2 = some (false, k)) : nV st kf j w h = nV st kf j w k + nV st kf j w (h - kf - k) := by
  obtain ⟨n, hn⟩ : ∃ n, w + h = n + 1 := ⟨w + h - 1, by omega⟩
  show nN st kf j (w + h) w h = _
  rw [hn, nN_h e, nN_enough (n := n) (m := w + k) h1 e1 (by omega) (by omega), nN_enough (n := n) (m := w + (h - kf - k)) (h := h - kf - k) h1 (by omega) (by omega) (by omega)]
