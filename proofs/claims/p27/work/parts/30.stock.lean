/-! a whole yard's value: counts of slabs and kinds, kerf, slabs, kinds; how a Stock holds it in region r, its cells at the addresses L -/
abbrev YV : Type := Nat × Nat × Nat × (Nat → SV) × (Nat → KV)
abbrev ySc (y : YV) : Nat := y.1
abbrev yKc (y : YV) : Nat := y.2.1
abbrev yF (y : YV) : Nat := y.2.2.1
abbrev yS (y : YV) : Nat → SV := y.2.2.2.1
abbrev yK (y : YV) : Nat → KV := y.2.2.2.2
abbrev cSt (sc kc kf a b : Nat) : va_E := .inr (4, [.ref a, .ref b, .int (nI sc), .int (nI kc), .int (nI kf)])
abbrev fRef (n : Nat) (f : Nat → Nat) : Nat → Option Nat := fun j => if j < n then some (f j) else none
abbrev cR (c : ClassId) (n : Nat) (f : Nat → Option Nat) : va_E := .inl (c, n, .inr (.inr (.inr (.inr f))))
def kZ : KV := (0, 0, 0, 0, 0, 0, 0, 0)
def StockH (K : gK) (r : Nat) (L : Nat → Nat → Nat) (G : gW) (sc kc kf : Nat) : Prop :=
  G (r, 0, 0) = some (L 0 0, cSt sc kc kf (L 1 0) (L 2 0)) ∧ G (r, 1, 0) = some (L 1 0, cR (K.2.1 2) 44 (fRef 44 (L 3))) ∧ G (r, 2, 0) = some (L 2 0, cR (K.2.1 3) 6 (fRef 6 (L 5))) ∧ sc ≤ 44 ∧ kc ≤ 6 ∧ kf ≤ 2
def StockG (K : gK) (z : Bool) (r : Nat) (L : Nat → Nat → Nat) (G : gW) (y : YV) : Prop :=
  StockH K r L G (ySc y) (yKc y) (yF y) ∧
  (∃ (S : Nat → SV) (P : Nat → Nat → Int32), (∀ i, i < 44 → G (r, 3, i) = some (L 3 i, cS (S i) (L 4 i)) ∧ G (r, 4, i) = some (L 4 i, cI K 6 (P i))) ∧ ∀ i, i < ySc y → S i = yS y i ∧ ptsOK (P i) (sL (yS y i)) ∧ sOK (yS y i)) ∧
  (∃ Kd : Nat → KV, (∀ i, i < 6 → G (r, 5, i) = some (L 5 i, cK (Kd i))) ∧ (∀ i, i < yKc y → Kd i = yK y i ∧ kOK (yK y i)) ∧ (z = true → ∀ i, yKc y ≤ i → i < 6 → Kd i = kZ))
/-- nothing but region r has changed -/
def Ag (r : Nat) (G G' : gW) : Prop := ∀ t : gTag, t.1 ≠ r → G' t = G t
theorem Ag.rf {r : Nat} {G : gW} : Ag r G G := fun _ _ => rfl
theorem Ag.tr {r : Nat} {G G' G'' : gW} (h : Ag r G G') (h' : Ag r G' G'') : Ag r G G'' := fun t ht => (h' t ht).trans (h t ht)
theorem Ag.set {r : Nat} {G G' : gW} {t : gTag} {a : Nat} {e : va_E} (h : Ag r G G') (ht : t.1 = r) : Ag r G (gset G' t a e) := fun u hu => (gset_ne (fun z => hu (by rw [z]; exact ht))).trans (h u hu)
theorem StockH.moved {K : gK} {r : Nat} {L : Nat → Nat → Nat} {G G' : gW} {sc kc kf : Nat} (h : StockH K r L G sc kc kf) (hg : ∀ i j, i < 3 → G' (r, i, j) = G (r, i, j)) : StockH K r L G' sc kc kf :=
  ⟨(hg _ _ (by decide)).trans h.1, (hg _ _ (by decide)).trans h.2.1, (hg _ _ (by decide)).trans h.2.2.1, h.2.2.2⟩
theorem StockG.moved {K : gK} {z : Bool} {r : Nat} {L : Nat → Nat → Nat} {G G' : gW} {y : YV} (h : StockG K z r L G y) (hg : ∀ t : gTag, t.1 = r → G' t = G t) : StockG K z r L G' y := by
  obtain ⟨h1, ⟨S, P, h2, h3⟩, Kd, h4, h5⟩ := h
  exact ⟨h1.moved (fun i j _ => hg _ rfl), ⟨S, P, fun i hi => ⟨(hg _ rfl).trans (h2 i hi).1, (hg _ rfl).trans (h2 i hi).2⟩, h3⟩, Kd, fun i hi => (hg _ rfl).trans (h4 i hi), h5⟩
theorem StockG.slab {K : gK} {z : Bool} {r : Nat} {L : Nat → Nat → Nat} {G : gW} {y : YV} (h : StockG K z r L G y) {i : Nat} (hi : i < ySc y) : ∃ P, G (r, 3, i) = some (L 3 i, cS (yS y i) (L 4 i)) ∧ G (r, 4, i) = some (L 4 i, cI K 6 P) ∧ ptsOK P (sL (yS y i)) ∧ sOK (yS y i) := by
  obtain ⟨h1, ⟨S, P, h2, h3⟩, -⟩ := h
  have h44 : i < 44 := Nat.lt_of_lt_of_le hi h1.2.2.2.1
  obtain ⟨e1, e2, e3⟩ := h3 i hi
  exact ⟨P i, by rw [← e1]; exact (h2 i h44).1, (h2 i h44).2, e2, e3⟩
theorem StockG.raw {K : gK} {z : Bool} {r : Nat} {L : Nat → Nat → Nat} {G : gW} {y : YV} (h : StockG K z r L G y) {i : Nat} (hi : i < 44) : ∃ u P, G (r, 3, i) = some (L 3 i, cS u (L 4 i)) ∧ G (r, 4, i) = some (L 4 i, cI K 6 P) := by
  obtain ⟨-, ⟨S, P, h2, h3⟩, -⟩ := h
  exact ⟨S i, P i, (h2 i hi).1, (h2 i hi).2⟩
theorem StockG.kind {K : gK} {z : Bool} {r : Nat} {L : Nat → Nat → Nat} {G : gW} {y : YV} (h : StockG K z r L G y) {i : Nat} (hi : i < yKc y) : G (r, 5, i) = some (L 5 i, cK (yK y i)) ∧ kOK (yK y i) := by
  obtain ⟨h1, -, Kd, h4, h5, -⟩ := h
  obtain ⟨e1, e2⟩ := h5 i hi
  exact ⟨by rw [← e1]; exact h4 i (Nat.lt_of_lt_of_le hi h1.2.2.2.2.1), e2⟩
theorem StockG.rawk {K : gK} {z : Bool} {r : Nat} {L : Nat → Nat → Nat} {G : gW} {y : YV} (h : StockG K z r L G y) {i : Nat} (hi : i < 6) : ∃ k, G (r, 5, i) = some (L 5 i, cK k) ∧ (z = true → yKc y ≤ i → k = kZ) := by
  obtain ⟨h1, -, Kd, h4, h5, h6⟩ := h
  exact ⟨Kd i, h4 i hi, fun hz hk => h6 hz i hk hi⟩
abbrev fU {α : Type} (f : Nat → α) (i : Nat) (v : α) : Nat → α := fun j => if j = i then v else f j
abbrev ySetS (y : YV) (i : Nat) (u : SV) : YV := (ySc y, yKc y, yF y, fU (yS y) i u, yK y)
abbrev ySetK (y : YV) (i : Nat) (k : KV) : YV := (ySc y, yKc y, yF y, yS y, fU (yK y) i k)
abbrev yAddS (y : YV) (u : SV) : YV := (ySc y + 1, yKc y, yF y, fU (yS y) (ySc y) u, yK y)
abbrev yAddK (y : YV) (k : KV) : YV := (ySc y, yKc y + 1, yF y, yS y, fU (yK y) (yKc y) k)
abbrev ySetF (y : YV) (f : Nat) : YV := (ySc y, yKc y, f, yS y, yK y)
/-- a slab and its points are written -/
theorem StockG.setS {K : gK} {z : Bool} {r : Nat} {L : Nat → Nat → Nat} {G G' : gW} {y : YV} (h : StockG K z r L G y) {i : Nat} (hi : i < 44) {u : SV} {P' : Nat → Int32} (hu : i < ySc y → sOK u ∧ ptsOK P' (sL u)) (e1 : G' (r, 3, i) = some (L 3 i, cS u (L 4 i))) (e2 : G' (r, 4, i) = some (L 4 i, cI K 6 P')) (ho : ∀ t : gTag, t.1 = r → t ≠ (r, 3, i) → t ≠ (r, 4, i) → G' t = G t) : StockG K z r L G' (ySetS y i u) := by
  obtain ⟨h1, ⟨S, P, h2, h3⟩, Kd, h4, h5⟩ := h
  refine ⟨h1.moved (fun a b ha => ho _ rfl (by simp; omega) (by simp; omega)), ⟨fU S i u, fU P i P', fun j hj => ?_, fun j hj => ?_⟩, Kd, fun j hj => (ho _ rfl (by simp) (by simp)).trans (h4 j hj), h5⟩
  · by_cases e : j = i
    · subst e
      simp only [fU, if_pos]
      exact ⟨e1, e2⟩
    · simp only [fU, if_neg e]
      exact ⟨(ho _ rfl (by simp [e]) (by simp)).trans (h2 j hj).1, (ho _ rfl (by simp) (by simp [e])).trans (h2 j hj).2⟩
  · by_cases e : j = i
    · subst e
      rw [show fU S j u j = u from if_pos rfl, show fU P j P' j = P' from if_pos rfl, show yS (ySetS y j u) j = u from if_pos rfl]
      exact ⟨rfl, (hu hj).2, (hu hj).1⟩
    · rw [show fU S i u j = S j from if_neg e, show fU P i P' j = P j from if_neg e, show yS (ySetS y i u) j = yS y j from if_neg e]
      exact h3 j hj
theorem StockG.setK {K : gK} {z : Bool} {r : Nat} {L : Nat → Nat → Nat} {G : gW} {y : YV} (h : StockG K z r L G y) {i : Nat} (hi : i < yKc y) {k : KV} (hk : kOK k) : StockG K z r L (gset G (r, 5, i) (L 5 i) (cK k)) (ySetK y i k) := by
  obtain ⟨h1, ⟨S, P, h2, h3⟩, Kd, h4, h5, h6⟩ := h
  refine ⟨h1.moved (fun a b ha => gset_ne (by simp; omega)), ⟨S, P, fun j hj => ⟨(gset_ne (by simp)).trans (h2 j hj).1, (gset_ne (by simp)).trans (h2 j hj).2⟩, h3⟩, fU Kd i k, fun j hj => ?_, fun j hj => ?_, fun hz j hj hj6 => ?_⟩
  · by_cases e : j = i
    · subst e
      simp only [fU, if_pos]
      exact gset_eq _ _ _ _
    · simp only [fU, if_neg e]
      exact (gset_ne (by simp [e])).trans (h4 j hj)
  · by_cases e : j = i
    · subst e
      rw [show fU Kd j k j = k from if_pos rfl, show yK (ySetK y j k) j = k from if_pos rfl]
      exact ⟨rfl, hk⟩
    · rw [show fU Kd i k j = Kd j from if_neg e, show yK (ySetK y i k) j = yK y j from if_neg e]
      exact h5 j hj
  · have e : j ≠ i := fun e => by subst e; exact absurd hi (Nat.not_lt.mpr hj)
    simp only [fU, if_neg e]
    exact h6 hz j hj hj6
theorem StockG.setF {K : gK} {z : Bool} {r : Nat} {L : Nat → Nat → Nat} {G : gW} {y : YV} (h : StockG K z r L G y) {f : Nat} (hf : f ≤ 2) : StockG K z r L (gset G (r, 0, 0) (L 0 0) (cSt (ySc y) (yKc y) f (L 1 0) (L 2 0))) (ySetF y f) := by
  obtain ⟨h1, ⟨S, P, h2, h3⟩, Kd, h4, h5⟩ := h
  exact ⟨⟨gset_eq _ _ _ _, (gset_ne (by simp)).trans h1.2.1, (gset_ne (by simp)).trans h1.2.2.1, h1.2.2.2.1, h1.2.2.2.2.1, hf⟩, ⟨S, P, fun j hj => ⟨(gset_ne (by simp)).trans (h2 j hj).1, (gset_ne (by simp)).trans (h2 j hj).2⟩, h3⟩, Kd, fun j hj => (gset_ne (by simp)).trans (h4 j hj), h5⟩
/-- one more slab: the count is raised, then the slab written -/
theorem StockG.addS {K : gK} {z : Bool} {r : Nat} {L : Nat → Nat → Nat} {G : gW} {y : YV} (h : StockG K z r L G y) (hs : ySc y < 44) {u : SV} (hu : sOK u) (h0 : sL u = []) : StockG K z r L (gset (gset G (r, 0, 0) (L 0 0) (cSt (ySc y + 1) (yKc y) (yF y) (L 1 0) (L 2 0))) (r, 3, ySc y) (L 3 (ySc y)) (cS u (L 4 (ySc y)))) (yAddS y u) := by
  obtain ⟨h1, ⟨S, P, h2, h3⟩, Kd, h4, h5⟩ := h
  refine ⟨⟨(gset_ne (by simp)).trans (gset_eq _ _ _ _), (gset_ne (by simp)).trans ((gset_ne (by simp)).trans h1.2.1), (gset_ne (by simp)).trans ((gset_ne (by simp)).trans h1.2.2.1), hs, h1.2.2.2.2.1, h1.2.2.2.2.2⟩, ⟨fU S (ySc y) u, P, fun j hj => ?_, fun j hj => ?_⟩, Kd, fun j hj => (gset_ne (by simp)).trans ((gset_ne (by simp)).trans (h4 j hj)), h5⟩
  · refine ⟨?_, (gset_ne (by simp)).trans ((gset_ne (by simp)).trans (h2 j hj).2)⟩
    by_cases e : j = ySc y
    · subst e
      simp only [fU, if_pos]
      exact gset_eq _ _ _ _
    · simp only [fU, if_neg e]
      exact (gset_ne (by simp [e])).trans ((gset_ne (by simp)).trans (h2 j hj).1)
  · by_cases e : j = ySc y
    · subst e
      rw [show fU S (ySc y) u (ySc y) = u from if_pos rfl, show yS (yAddS y u) (ySc y) = u from if_pos rfl]
      exact ⟨rfl, by rw [h0]; exact ptsOK.nil _, hu⟩
    · rw [show fU S (ySc y) u j = S j from if_neg e, show yS (yAddS y u) j = yS y j from if_neg e]
      exact h3 j (by have : j < ySc y + 1 := hj; omega)
theorem StockG.addK {K : gK} {z : Bool} {r : Nat} {L : Nat → Nat → Nat} {G : gW} {y : YV} (h : StockG K z r L G y) (hs : yKc y < 6) {k : KV} (hk : kOK k) : StockG K z r L (gset (gset G (r, 0, 0) (L 0 0) (cSt (ySc y) (yKc y + 1) (yF y) (L 1 0) (L 2 0))) (r, 5, yKc y) (L 5 (yKc y)) (cK k)) (yAddK y k) := by
  obtain ⟨h1, ⟨S, P, h2, h3⟩, Kd, h4, h5, h6⟩ := h
  refine ⟨⟨(gset_ne (by simp)).trans (gset_eq _ _ _ _), (gset_ne (by simp)).trans ((gset_ne (by simp)).trans h1.2.1), (gset_ne (by simp)).trans ((gset_ne (by simp)).trans h1.2.2.1), h1.2.2.2.1, hs, h1.2.2.2.2.2⟩, ⟨S, P, fun j hj => ⟨(gset_ne (by simp)).trans ((gset_ne (by simp)).trans (h2 j hj).1), (gset_ne (by simp)).trans ((gset_ne (by simp)).trans (h2 j hj).2)⟩, h3⟩, fU Kd (yKc y) k, fun j hj => ?_, fun j hj => ?_, fun hz j hj hj6 => ?_⟩
  · by_cases e : j = yKc y
    · subst e
      simp only [fU, if_pos]
      exact gset_eq _ _ _ _
    · simp only [fU, if_neg e]
      exact (gset_ne (by simp [e])).trans ((gset_ne (by simp)).trans (h4 j hj))
  · by_cases e : j = yKc y
    · subst e
      rw [show fU Kd (yKc y) k (yKc y) = k from if_pos rfl, show yK (yAddK y k) (yKc y) = k from if_pos rfl]
      exact ⟨rfl, hk⟩
    · rw [show fU Kd (yKc y) k j = Kd j from if_neg e, show yK (yAddK y k) j = yK y j from if_neg e]
      exact h5 j (by have : j < yKc y + 1 := hj; omega)
  · have hj' : yKc y + 1 ≤ j := hj
    have e : j ≠ yKc y := by omega
    simp only [fU, if_neg e]
    exact h6 hz j (by omega) hj6
/-- the numbers that are a place -/
theorem no_place {x : Int32} {n : Nat} (hn : n < 2 ^ 31) (hx : ∀ i, i < n → x ≠ nI i) (h0 : ¬ x < 0) : nI n ≤ x := by
  rcases pk_ix x hn with h | h | ⟨j, hj, h⟩
  · exact absurd h h0
  · exact h
  · exact absurd h (hx j hj)
theorem gM.mono {l : Launch} {y : MethodName} {ws : List Cond} {fr lo mc ms : Nat} {K : gK} {av : List Value} {G : gW} {post post' : Option Value → gW → Prop} {xp xp' : String → gW → Prop} (h : gM l y ws fr lo mc ms K av G post xp) (hp : ∀ v G1, post v G1 → post' v G1) (hx : ∀ E G1, xp E G1 → xp' E G1) : gM l y ws fr lo mc ms K av G post' xp' := by
  intro sz
  intro p e ha hc hk s m args below hf happ hP hK
  obtain ⟨k, o, h1, h2, h3, h4⟩ := h sz p e ha hc hk s m args below hf happ hP hK
  refine ⟨k, o, h1, h2, h3, ?_⟩
  rcases h4 with ⟨⟨⟨v, G1, a1, a2, a3⟩, a4⟩, a5⟩ | ⟨q, a1, E, ce, L, ⟨⟨G1, b1, b2⟩, b3⟩, b4⟩
  · exact Or.inl ⟨⟨⟨v, G1, a1, hp v G1 a2, a3⟩, a4⟩, a5⟩
  · exact Or.inr ⟨q, a1, E, ce, L, ⟨⟨G1, hx E G1 b1, b2⟩, b3⟩, b4⟩
