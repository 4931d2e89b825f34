/-! the law's own walk: what holds between two of its calls -/
def LI (K : gK) (L1 L2 : Nat → Nat → Nat) (M : Nat → Nat) (hy ho h0 : Nat) (G : gW) (y : YV) : Prop := YardC K L1 L2 M hy G y ∧ (∃ (L : Nat → Nat → Nat) (N th : Nat), MdC K L h0 th G y N) ∧ yFr y ∧ ∃ f0 : Nat → Int64, G (20, 0, 0) = some (ho, .inl (K.2.1 1, 1, .inr (.inl f0)))
section GLB
variable {p : Program} {l : Launch} {e : Env} {R : Room} {s : State} {m : MethodId} {args : Array Value} {below : List Frame} {meth : Method} {c : Code} {H : Heap} {locs : List Loc} {cells slots : Nat} {Q : State → Prop}
variable {cc : ByteArray} {pc nL : Nat} {ls : Array Slot} {rest : List Value} {K : gK} {A : Nat → Prop} {G : gW} {own : String} {Ts : List Cond}
theorem g_sld (S : CallFix p m c cc nL s args Ts own) (hI : gI K A s G H locs) {b Ln : Nat} {xs : Nat → Int32} (hX : va_X b Ln xs s s.heap) (hbl : b < s.heap.size) (hbA : ¬ A b) {j : Nat} (hj : j < Ln) (hL : Ln < 2 ^ 31) (hdg : decode cc pc = .ok (.iaload, 1))
    (kk : W p l e R s m args below meth c H locs cells slots Q (F0 m (pc + 1) ls (.int (xs j) :: rest))) : W p l e R s m args below meth c H locs cells slots Q (F0 m pc ls (.int (nI j) :: .ref b :: rest)) := by
  refine va_sld S.1 S.2.1 hX hbl hbA hI.2.2 (vp_in_nI hj hL) hdg ?_
  rw [nI_clamp (Nat.lt_trans hj hL)]
  exact kk
theorem g_lcmpE (hexec : p.tables.exec = Jvm.exec) (hb : c.code = cc) {x y : Int64} (hxy : x = y) (hdg : decode cc pc = .ok (.lcmp, 1))
    (kk : W p l e R s m args below meth c H locs cells slots Q (F0 m (pc + 1) ls (.int (nI 0) :: rest))) : W p l e R s m args below meth c H locs cells slots Q (F0 m pc ls (.long y :: .long x :: rest)) := by
  subst hxy
  have hn : ¬ x < x := by rw [Int64.lt_iff_toInt_lt]; omega
  intro T hT X
  obtain ⟨t, a, b⟩ := kk T hT X
  refine ⟨t, ?_, b⟩
  jvm_step X.here [X.here.top, hexec, hb, hdg, hn]
  exact a
end GLB
/-- the script's bound: script.length - 5 against the place -/
theorem lb_gt {i Ln : Nat} (hi : i ≤ 4000) (hL : Ln ≤ 2560) : (nI Ln - nI 5 < nI i) ↔ Ln < i + 5 := by
  rw [Int32.lt_iff_toInt_lt, pk_sub_toInt (by omega) (by decide), nI_toInt (by omega)]
  omega
theorem lb_op (x : Int32) : ∃ n, n < 32 ∧ x &&& nI 31 = nI n := by
  have h : (x &&& nI 31).toBitVec = x.toBitVec &&& 31#32 := rfl
  have h1 : (x.toBitVec &&& 31#32).toNat < 32 := by
    rw [BitVec.toNat_and]
    exact Nat.lt_of_le_of_lt Nat.and_le_right (by decide)
  refine ⟨(x.toBitVec &&& 31#32).toNat, h1, ?_⟩
  apply Int32.toBitVec_inj.mp
  rw [h]
  show _ = BitVec.ofNat 32 _
  apply BitVec.eq_of_toNat_eq
  rw [BitVec.toNat_ofNat, Nat.mod_eq_of_lt (Nat.lt_trans h1 (by decide))]
/-! whose slab a slab came of, after each call -/
theorem fr_slab {y : YV} (h9 : yFr y) (w h g : Int32) : yFr (oSlab y w h g).2.2 := by
  unfold oSlab
  repeat' split
  · exact yFr_addS h9 (Or.inl rfl)
  · exact h9
  · exact h9
theorem fr_flaw {y : YV} (h9 : yFr y) (x px py : Int32) : yFr (oFlaw y x px py).2.2 := by
  unfold oFlaw
  repeat' split
  · exact yFr_setS h9 rfl
  all_goals exact h9
theorem fr_kerf {y : YV} (h9 : yFr y) (x : Int32) : yFr (oKerf y x).2.2 := by
  unfold oKerf
  split
  all_goals exact h9
theorem inR_iN {x : Int32} {n : Nat} (h : inR x n = true) : iN x < n := by
  have h1 := of_decide_eq_true h
  show x.toInt.toNat < n
  omega
theorem fr_cut {y : YV} (h9 : yFr y) (x : Int32) (dn : Bool) (px : Int32) : yFr (oCut y x dn px).2.2 := by
  unfold oCut
  split
  · rename_i hr
    split
    · split
      · exact yFr_cut h9 (inR_iN hr)
      · exact h9
    · exact h9
  · exact h9
theorem fr_toss {y : YV} (h9 : yFr y) (x : Int32) : yFr (oToss y x).2.2 := by
  unfold oToss
  repeat' split
  · exact yFr_setS h9 rfl
  all_goals exact h9
theorem fr_kind {y : YV} (h9 : yFr y) (a b q : Int32) : yFr (oKind y a b q).2.2 := by
  unfold oKind
  repeat' split
  all_goals exact h9
theorem fr_let {y : YV} (h9 : yFr y) (x w q : Int32) : yFr (oLet y x w q).2.2 := by
  unfold oLet
  repeat' split
  all_goals exact h9
theorem fr_order {y : YV} (h9 : yFr y) (x q : Int32) : yFr (oOrder y x q).2.2 := by
  unfold oOrder
  repeat' split
  all_goals exact h9
theorem fr_take {y : YV} (h9 : yFr y) (x k : Int32) : yFr (oTake y x k).2.2 := by
  unfold oTake
  split
  · rename_i hr
    have hr1 : inR x (ySc y) = true := (Bool.and_eq_true _ _ ▸ hr).1
    split
    · split
      · exact yFr_take h9 (inR_iN hr1)
      · exact h9
    · exact h9
  · exact h9
theorem fr_plan {y : YV} (h9 : yFr y) (x : Int32) : yFr (oPlan y x).2.2 := by
  unfold oPlan
  split
  · exact yFr_plan h9
  · exact h9
theorem fr_ofSlab {y : YV} (h9 : yFr y) (x w : Int32) : yFr (oOfSlab y x w).2.2 := by
  unfold oOfSlab
  repeat' split
  all_goals exact h9
theorem fr_flawsAt {y : YV} (h9 : yFr y) (x px py : Int32) : yFr (oFlawsAt y x px py).2.2 := by
  unfold oFlawsAt
  repeat' split
  all_goals exact h9
theorem fr_root {y : YV} (h9 : yFr y) (x : Int32) : yFr (oRoot y x).2.2 := by
  unfold oRoot
  repeat' split
  all_goals exact h9
theorem fr_ofKind {y : YV} (h9 : yFr y) (x w : Int32) : yFr (oOfKind y x w).2.2 := by
  unfold oOfKind
  repeat' split
  all_goals exact h9
theorem fr_fits {y : YV} (h9 : yFr y) (x k : Int32) : yFr (oFits y x k).2.2 := by
  unfold oFits
  repeat' split
  all_goals exact h9
theorem fr_many {y : YV} (h9 : yFr y) (w : Int32) : yFr (oMany y w).2.2 := by
  unfold oMany
  repeat' split
  all_goals exact h9
theorem fr_worth {y : YV} (h9 : yFr y) (w h g : Int32) : yFr (oWorth y w h g).2.2 := by
  unfold oWorth
  repeat' split
  all_goals exact h9
theorem fr_bestCut {y : YV} (h9 : yFr y) (w h g : Int32) : yFr (oBest y w h g).2.2 := by
  unfold oBest
  repeat' split
  all_goals exact h9
theorem fr_column {y : YV} (h9 : yFr y) (w h g x : Int32) : yFr (oColumn y w h g x).2.2 := by
  unfold oColumn
  repeat' split
  all_goals exact h9
theorem fr_worthMore {y : YV} (h9 : yFr y) (x q : Int32) : yFr (oMore y x q).2.2 := by
  unfold oMore
  repeat' split
  all_goals exact h9
theorem fr_wasteBy {y : YV} (h9 : yFr y) (x k : Int32) : yFr (oWasteBy y x k).2.2 := by
  unfold oWasteBy
  repeat' split
  all_goals exact h9
theorem fr_planPays {y : YV} (h9 : yFr y) (x : Int32) : yFr (oPays y x).2.2 := by
  unfold oPays
  repeat' split
  all_goals exact h9
