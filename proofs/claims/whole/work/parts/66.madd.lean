/-! the reference's yard: one slab, one kind more -/
theorem MY.addS {K : gK} {r : Nat} {L L2 : Nat → Nat → Nat} {G G1 : gW} {y : YV} {N q pl : Nat} {u : SV} {mod : Int32} (hm : MY K r L G y N) (hr50 : r ≠ 50) (hsc : ySc y < 44) (hu : sOK u) (h0 : sL u = []) (hL2 : L2 = (fun a b => if a = 35 ∧ b = ySc y then q else if a = 36 ∧ b = ySc y then pl else L a b)) (hat : ∀ v : gTag, v ≠ (r, 31, 0) → (∀ b, v ≠ tbL r 32 b) → v ≠ (r, 35, ySc y) → v ≠ (r, 36, ySc y) → G1 v = G v)
    (hA : ALg K (r, 31, 0) (tbL r 32) G1 (L 31 0) (ySc y + 1) (fU (L 35) (ySc y) q)) (hq : G1 (r, 35, ySc y) = some (q, cMS u pl)) (hl : G1 (r, 36, ySc y) = some (pl, cL mod K.2.2.1 0)) : MY K r L2 G1 (yAddS y u) N := by
  have e0 : ∀ k j, k ≠ 35 → k ≠ 36 → L2 k j = L k j := fun k j a b => by rw [hL2]; simp [a, b]
  have e1 : ∀ k j, j ≠ ySc y → L2 k j = L k j := fun k j a => by rw [hL2]; simp [a]
  have a5 : L2 35 (ySc y) = q := by rw [hL2]; simp
  have a6 : L2 36 (ySc y) = pl := by rw [hL2]; simp
  have hbr : ∀ (v : gTag), v.2.1 ≠ 31 → v.2.1 ≠ 32 → v ≠ (r, 35, ySc y) → v ≠ (r, 36, ySc y) → G1 v = G v := fun v c1 c2 c3 c4 => hat v (fun z => c1 (by rw [z])) (fun b z => c2 (by rw [z]; rfl)) c3 c4
  refine ⟨⟨?_, hm.1.2.1, hsc, hm.1.2.2.2⟩, ?_, ?_, fun j hj => ?_, fun j hj => ?_⟩
  · rw [e0 30 0 (by decide) (by decide), e0 31 0 (by decide) (by decide), e0 33 0 (by decide) (by decide)]
    exact (hbr _ (by show (30 : Nat) ≠ 31; decide) (by show (30 : Nat) ≠ 32; decide) (by simp) (by simp)).trans hm.1.1
  · rw [e0 31 0 (by decide) (by decide)]
    refine hA.congr (fun j hj => ?_)
    by_cases c : j = ySc y
    · subst c; rw [fU_eq, a5]
    · rw [fU_ne c, e1 35 j c]
  · rw [e0 33 0 (by decide) (by decide)]
    exact (hm.2.2.1.moved (hbr _ (by show (33 : Nat) ≠ 31; decide) (by show (33 : Nat) ≠ 32; decide) (by simp) (by simp)) (fun b => hbr _ (by show (34 : Nat) ≠ 31; decide) (by show (34 : Nat) ≠ 32; decide) (by unfold tbL; simp) (by unfold tbL; simp))).congr (fun j _ => e0 38 j (by decide) (by decide))
  · have hj : j < ySc y + 1 := hj
    by_cases c : j = ySc y
    · subst c
      rw [show yS (yAddS y u) (ySc y) = u from if_pos rfl, a5, a6, h0]
      exact ⟨hq, FLi.nil hl, hu⟩
    · obtain ⟨b1, b2, b3⟩ := hm.2.2.2.1 j (by omega)
      rw [show yS (yAddS y u) j = yS y j from if_neg c, e1 35 j c, e1 36 j c]
      exact ⟨(hbr _ (by show (35 : Nat) ≠ 31; decide) (by show (35 : Nat) ≠ 32; decide) (by simp [c]) (by simp)).trans b1, b2.moved (hbr _ (by show (36 : Nat) ≠ 31; decide) (by show (36 : Nat) ≠ 32; decide) (by simp) (by simp [c])) (fun b => hbr _ (by show (37 : Nat) ≠ 31; decide) (by show (37 : Nat) ≠ 32; decide) (by unfold tbF; simp) (by unfold tbF; simp)) (fun m _ => hbr _ (by show (0 : Nat) ≠ 31; decide) (by show (0 : Nat) ≠ 32; decide) (by simp [Ne.symm hr50]) (by simp [Ne.symm hr50])), b3⟩
  · rw [e0 38 j (by decide) (by decide)]
    exact ⟨(hbr _ (by show (38 : Nat) ≠ 31; decide) (by show (38 : Nat) ≠ 32; decide) (by simp) (by simp)).trans (hm.2.2.2.2 j hj).1, (hm.2.2.2.2 j hj).2⟩
theorem MY.addK {K : gK} {r : Nat} {L L2 : Nat → Nat → Nat} {G G1 : gW} {y : YV} {N q : Nat} {k : KV} (hm : MY K r L G y N) (hr50 : r ≠ 50) (hsc : yKc y < 6) (hk : kOK k) (hL2 : L2 = (fun a b => if a = 38 ∧ b = yKc y then q else L a b)) (hat : ∀ v : gTag, v ≠ (r, 33, 0) → (∀ b, v ≠ tbL r 34 b) → v ≠ (r, 38, yKc y) → G1 v = G v)
    (hA : ALg K (r, 33, 0) (tbL r 34) G1 (L 33 0) (yKc y + 1) (fU (L 38) (yKc y) q)) (hq : G1 (r, 38, yKc y) = some (q, cMK k)) : MY K r L2 G1 (yAddK y k) N := by
  have e0 : ∀ a j, a ≠ 38 → L2 a j = L a j := fun a j h => by rw [hL2]; simp [h]
  have e1 : ∀ a j, j ≠ yKc y → L2 a j = L a j := fun a j h => by rw [hL2]; simp [h]
  have a8 : L2 38 (yKc y) = q := by rw [hL2]; simp
  have hbr : ∀ (v : gTag), v.2.1 ≠ 33 → v.2.1 ≠ 34 → v ≠ (r, 38, yKc y) → G1 v = G v := fun v c1 c2 c3 => hat v (fun z => c1 (by rw [z])) (fun b z => c2 (by rw [z]; rfl)) c3
  refine ⟨⟨?_, hm.1.2.1, hm.1.2.2.1, hsc⟩, ?_, ?_, fun j hj => ?_, fun j hj => ?_⟩
  · rw [e0 30 0 (by decide), e0 31 0 (by decide), e0 33 0 (by decide)]
    exact (hbr _ (by show (30 : Nat) ≠ 33; decide) (by show (30 : Nat) ≠ 34; decide) (by simp)).trans hm.1.1
  · rw [e0 31 0 (by decide)]
    exact (hm.2.1.moved (hbr _ (by show (31 : Nat) ≠ 33; decide) (by show (31 : Nat) ≠ 34; decide) (by simp)) (fun b => hbr _ (by show (32 : Nat) ≠ 33; decide) (by show (32 : Nat) ≠ 34; decide) (by unfold tbL; simp))).congr (fun j _ => e0 35 j (by decide))
  · rw [e0 33 0 (by decide)]
    refine hA.congr (fun j hj => ?_)
    by_cases c : j = yKc y
    · subst c; rw [fU_eq, a8]
    · rw [fU_ne c, e1 38 j c]
  · rw [e0 35 j (by decide), e0 36 j (by decide)]
    obtain ⟨b1, b2, b3⟩ := hm.2.2.2.1 j hj
    exact ⟨(hbr _ (by show (35 : Nat) ≠ 33; decide) (by show (35 : Nat) ≠ 34; decide) (by simp)).trans b1, b2.moved (hbr _ (by show (36 : Nat) ≠ 33; decide) (by show (36 : Nat) ≠ 34; decide) (by simp)) (fun b => hbr _ (by show (37 : Nat) ≠ 33; decide) (by show (37 : Nat) ≠ 34; decide) (by unfold tbF; simp)) (fun m _ => hbr _ (by show (0 : Nat) ≠ 33; decide) (by show (0 : Nat) ≠ 34; decide) (by simp [Ne.symm hr50])), b3⟩
  · have hj : j < yKc y + 1 := hj
    by_cases c : j = yKc y
    · subst c
      rw [show yK (yAddK y k) (yKc y) = k from if_pos rfl, a8]
      exact ⟨hq, hk⟩
    · rw [show yK (yAddK y k) j = yK y j from if_neg c, e1 38 j c]
      exact ⟨(hbr _ (by show (38 : Nat) ≠ 33; decide) (by show (38 : Nat) ≠ 34; decide) (by simp [c])).trans (hm.2.2.2.2 j (by omega)).1, (hm.2.2.2.2 j (by omega)).2⟩
