/-! the reference's yard: one thing set -/
theorem MY.cg {K : gK} {r : Nat} {L : Nat → Nat → Nat} {G : gW} {y y' : YV} {N : Nat} (h : MY K r L G y N) (e1 : ySc y' = ySc y) (e2 : yKc y' = yKc y) (e3 : yF y' = yF y) (e4 : ∀ i, i < ySc y → yS y' i = yS y i) (e5 : ∀ i, i < yKc y → yK y' i = yK y i) : MY K r L G y' N := by
  obtain ⟨⟨a1, a2, a3, a4⟩, b1, b2, b3, b4⟩ := h
  refine ⟨⟨by rw [e3]; exact a1, by rw [e3]; exact a2, by rw [e1]; exact a3, by rw [e2]; exact a4⟩, by rw [e1]; exact b1, by rw [e2]; exact b2, fun i hi => ?_, fun i hi => ?_⟩
  · rw [e1] at hi; rw [e4 i hi]; exact b3 i hi
  · rw [e2] at hi; rw [e5 i hi]; exact b4 i hi
theorem MY.setT {K : gK} {r : Nat} {L : Nat → Nat → Nat} {G : gW} {y : YV} {N : Nat} (h : MY K r L G y N) (hr50 : r ≠ 50) {i t : Nat} (hi : i < ySc y) (ht : t ≤ 3) : MY K r L (gset G (r, 35, i) (L 35 i) (cMS (sState (yS y i) t) (L 36 i))) (ySetS y i (sState (yS y i) t)) N := by
  obtain ⟨⟨a1, a2⟩, b1, b2, b3, b4⟩ := h
  have hne : ∀ v : gTag, v ≠ (r, 35, i) → gset G (r, 35, i) (L 35 i) (cMS (sState (yS y i) t) (L 36 i)) v = G v := fun v hv => gset_ne hv
  refine ⟨⟨(hne _ (by simp)).trans a1, a2⟩, b1.moved (hne _ (by simp)) (fun b => hne _ (by unfold tbL; simp)), b2.moved (hne _ (by simp)) (fun b => hne _ (by unfold tbL; simp)), fun j hj => ?_, fun j hj => ⟨(hne _ (by simp)).trans (b4 j hj).1, (b4 j hj).2⟩⟩
  obtain ⟨c1, c2, c3⟩ := b3 j hj
  have c4 := c2.moved (hne _ (by simp)) (fun b => hne _ (by unfold tbF; simp)) (fun m _ => hne _ (by simp [Ne.symm hr50]))
  by_cases e : j = i
  · subst e
    rw [show yS (ySetS y j (sState (yS y j) t)) j = sState (yS y j) t from if_pos rfl]
    exact ⟨gset_eq _ _ _ _, c4, c3.state ht⟩
  · rw [show yS (ySetS y i (sState (yS y i) t)) j = yS y j from if_neg e]
    exact ⟨(hne _ (by simp [e])).trans c1, c4, c3⟩
theorem MY.setK {K : gK} {r : Nat} {L : Nat → Nat → Nat} {G : gW} {y : YV} {N : Nat} (h : MY K r L G y N) (hr50 : r ≠ 50) {j : Nat} {k : KV} (hk : kOK k) : MY K r L (gset G (r, 38, j) (L 38 j) (cMK k)) (ySetK y j k) N := by
  obtain ⟨⟨a1, a2⟩, b1, b2, b3, b4⟩ := h
  have hne : ∀ v : gTag, v ≠ (r, 38, j) → gset G (r, 38, j) (L 38 j) (cMK k) v = G v := fun v hv => gset_ne hv
  refine ⟨⟨(hne _ (by simp)).trans a1, a2⟩, b1.moved (hne _ (by simp)) (fun b => hne _ (by unfold tbL; simp)), b2.moved (hne _ (by simp)) (fun b => hne _ (by unfold tbL; simp)), fun i hi => ⟨(hne _ (by simp)).trans (b3 i hi).1, (b3 i hi).2.1.moved (hne _ (by simp)) (fun b => hne _ (by unfold tbF; simp)) (fun m _ => hne _ (by simp [Ne.symm hr50])), (b3 i hi).2.2⟩, fun i hi => ?_⟩
  by_cases e : i = j
  · subst e
    rw [show yK (ySetK y i k) i = k from if_pos rfl]
    exact ⟨gset_eq _ _ _ _, hk⟩
  · rw [show yK (ySetK y j k) i = yK y i from if_neg e]
    exact ⟨(hne _ (by simp [e])).trans (b4 i hi).1, (b4 i hi).2⟩
theorem MY.setF {K : gK} {r : Nat} {L : Nat → Nat → Nat} {G : gW} {y : YV} {N : Nat} (h : MY K r L G y N) (hr50 : r ≠ 50) {f : Nat} (hf : f ≤ 2) : MY K r L (gset G (r, 30, 0) (L 30 0) (cY (L 31 0) (L 33 0) f)) (ySetF y f) N := by
  obtain ⟨⟨a1, a2, a3⟩, b1, b2, b3, b4⟩ := h
  have hne : ∀ v : gTag, v ≠ (r, 30, 0) → gset G (r, 30, 0) (L 30 0) (cY (L 31 0) (L 33 0) f) v = G v := fun v hv => gset_ne hv
  exact ⟨⟨gset_eq _ _ _ _, hf, a3⟩, b1.moved (hne _ (by simp)) (fun b => hne _ (by unfold tbL; simp)), b2.moved (hne _ (by simp)) (fun b => hne _ (by unfold tbL; simp)), fun i hi => ⟨(hne _ (by simp)).trans (b3 i hi).1, (b3 i hi).2.1.moved (hne _ (by simp)) (fun b => hne _ (by unfold tbF; simp)) (fun m _ => hne _ (by simp [Ne.symm hr50])), (b3 i hi).2.2⟩, fun i hi => ⟨(hne _ (by simp)).trans (b4 i hi).1, (b4 i hi).2⟩⟩
