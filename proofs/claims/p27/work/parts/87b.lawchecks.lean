/-! the law: what it checks behind each step, and at the end -/
section GL2
variable {p : Program} {l : Launch} {e : Env} {s : State} {m : MethodId} {below : List Frame} {meth : Method} {c : Code} {H : Heap} {locs : List Loc} {cells slots : Nat} {Q : State → Prop}
variable {b Ln kn : Nat} {xs : Nat → Int32} {ls : Array Slot} {K : gK} {A : Nat → Prop} {G : gW} {L1 L2 : Nat → Nat → Nat} {M : Nat → Nat} {hy i k sl : Nat} {y : YV} {xv : Int32}
variable {acc j v0 w0 p0 wd hd g cc9 : Nat} {d9 : Int64}
set_option maxHeartbeats 4000000 in
set_option maxRecDepth 100000 in
/-- the stones of a kind -/
theorem w_stone (S : CallFix p m c cL_law 20 s #[Value.ref b] wsL_law RL) (hE : gE K A s s.heap) (hA : ∀ q, s.heap.size ≤ q → A q) (hX : va_X b Ln xs s s.heap) (hbl : b < s.heap.size) (hbA : ¬ A b) (hlS : l.stackTraces = false) (hLn : Ln ≤ 260) (hcs : cells ≤ 600104 ∧ slots ≤ 7301314) (hj : j < yKc y) (hI : gI K A s G H locs) (hy0 : YardC K L1 L2 M hy G y) (hl : lv_has ls 20 [(12, .int (nI j)), (11, .int (nI acc)), (4, .int (nI i)), (3, .int (nI (yArea0 y))), (9, .int (nI w0)), (10, .int (nI p0)), (2, .int (nI kn)), (1, .ref hy), (0, .ref b)])
    (kk : ∀ (G1 : gW) (y1 : YV) (H1 : Heap) (locs1 : List Loc) (ls1 : Array Slot), gI K A s G1 H1 locs1 → YardC K L1 L2 M hy G1 y → lv_has ls1 20 [(12, .int (nI j)), (11, .int (nI (acc + kS (yK y j)))), (4, .int (nI i)), (3, .int (nI (yArea0 y))), (9, .int (nI w0)), (10, .int (nI p0)), (2, .int (nI kn)), (1, .ref hy), (0, .ref b)] → W p l e room_1 s m #[Value.ref b] below meth c H1 locs1 cells slots Q (F0 m 808 ls1 [])) : W p l e room_1 s m #[Value.ref b] below meth c H locs cells slots Q (F0 m 779 ls []) := by
  have hx := S.1
  have hb := S.2.1
  have hml := S.2.2.1
  have h40 : ySc y ≤ 40 := hy0.2.2.2.2
  have h6 : yKc y ≤ 6 := hy0.2.1.1.2.2.2.2.1
  refine lv_iload hx hb dL_law_779 (lv_at hl 1 rfl) ?_
  refine lv_aload_n hx hb dL_law_781 rfl (lv_at hl 7 rfl) ?_
  refine lv_iload hx hb dL_law_782 (lv_at hl 0 rfl) ?_
  refine lv_bipush (v := nI 6) hx hb dL_law_784 (by decide) ?_
  refine g_callV0 (As := [.int (nI j), .int (nI 6)]) (rest := [.int (nI acc)]) (b := hy) (n := 2) S hE hI hA (d_ofKind l K _ L1 L2 M hy y j 6 hlS hy0 hj (by decide)) gL_law_X4_ofKind rfl (by decide +kernel) ⟨Nat.le_of_ble_eq_true rfl, Nat.le_of_ble_eq_true rfl⟩ (g_hro hE hI hy0.1 rfl) rfl hl.1 rfl (Nat.le_of_ble_eq_true rfl) dL_law_786 hcs (fun rv Gc_786 H locs hp hI => ?_)
  obtain ⟨rfl, hy_786, -⟩ := hp
  refine W.eq (g2 := F0 m 789 ls [.int (nI (kT (yK y j))), .int (nI acc)]) rfl ?_
  refine lv_aload_n hx hb dL_law_789 rfl (lv_at hl 7 rfl) ?_
  refine lv_iload hx hb dL_law_790 (lv_at hl 0 rfl) ?_
  refine lv_iconst (v := nI 0) hx hb dL_law_792 (by decide) ?_
  refine g_callV0 (As := [.int (nI j), .int (nI 0)]) (rest := [.int (nI (kT (yK y j))), .int (nI acc)]) (b := hy) (n := 2) S hE hI hA (d_ofKind l K _ L1 L2 M hy y j 0 hlS hy_786 hj (by decide)) gL_law_X4_ofKind rfl (by decide +kernel) ⟨Nat.le_of_ble_eq_true rfl, Nat.le_of_ble_eq_true rfl⟩ (g_hro hE hI hy_786.1 rfl) rfl hl.1 rfl (Nat.le_of_ble_eq_true rfl) dL_law_793 hcs (fun rv Gc_793 H locs hp hI => ?_)
  obtain ⟨rfl, hy_793, -⟩ := hp
  refine W.eq (g2 := F0 m 796 ls [.int (nI (kL (yK y j))), .int (nI (kT (yK y j))), .int (nI acc)]) rfl ?_
  refine t_imul hx hb dL_law_796 (pk_mul _ _) ?_
  refine lv_aload_n hx hb dL_law_797 rfl (lv_at hl 7 rfl) ?_
  refine lv_iload hx hb dL_law_798 (lv_at hl 0 rfl) ?_
  refine lv_iconst (v := nI 1) hx hb dL_law_800 (by decide) ?_
  refine g_callV0 (As := [.int (nI j), .int (nI 1)]) (rest := [.int (nI ((kT (yK y j)) * (kL (yK y j)))), .int (nI acc)]) (b := hy) (n := 2) S hE hI hA (d_ofKind l K _ L1 L2 M hy y j 1 hlS hy_793 hj (by decide)) gL_law_X4_ofKind rfl (by decide +kernel) ⟨Nat.le_of_ble_eq_true rfl, Nat.le_of_ble_eq_true rfl⟩ (g_hro hE hI hy_793.1 rfl) rfl hl.1 rfl (Nat.le_of_ble_eq_true rfl) dL_law_801 hcs (fun rv Gc_801 H locs hp hI => ?_)
  obtain ⟨rfl, hy_801, -⟩ := hp
  refine W.eq (g2 := F0 m 804 ls [.int (nI (kB (yK y j))), .int (nI ((kT (yK y j)) * (kL (yK y j)))), .int (nI acc)]) rfl ?_
  refine t_imul hx hb dL_law_804 (pk_mul _ _) ?_
  refine t_iadd hx hb dL_law_805 (nI_add _ _) ?_
  refine lv_istore (lv' := [(11, .int (nI (acc + (((kT (yK y j)) * (kL (yK y j))) * (kB (yK y j)))))), (12, .int (nI j)), (4, .int (nI i)), (3, .int (nI (yArea0 y))), (9, .int (nI w0)), (10, .int (nI p0)), (2, .int (nI kn)), (1, .ref hy), (0, .ref b)]) hx hb dL_law_806 hl (by decide) rfl (fun ls hl => ?_)
  exact kk _ y _ _ ls hI hy_801 (lv_sub hl [1,0,2,3,4,5,6,7,8] rfl)
set_option maxHeartbeats 4000000 in
set_option maxRecDepth 100000 in
/-- waste, areas, pay -/
theorem w_tail (S : CallFix p m c cL_law 20 s #[Value.ref b] wsL_law RL) (hE : gE K A s s.heap) (hA : ∀ q, s.heap.size ≤ q → A q) (hX : va_X b Ln xs s s.heap) (hbl : b < s.heap.size) (hbA : ¬ A b) (hlS : l.stackTraces = false) (hLn : Ln ≤ 260) (hcs : cells ≤ 600104 ∧ slots ≤ 7301314) (hPI : PI y) (hw : w0 ≤ wst y) (hp0 : p0 ≤ yPaid y) (hpb : yPaid y ≤ 100000) (hI : gI K A s G H locs) (hy0 : YardC K L1 L2 M hy G y) (hl : lv_has ls 20 [(12, .int (nI kn)), (11, .int (nI (ySt y))), (4, .int (nI i)), (3, .int (nI (yArea0 y))), (9, .int (nI w0)), (10, .int (nI p0)), (2, .int (nI kn)), (1, .ref hy), (0, .ref b)])
    (kk : ∀ (G1 : gW) (y1 : YV) (H1 : Heap) (locs1 : List Loc) (ls1 : Array Slot), gI K A s G1 H1 locs1 → YardC K L1 L2 M hy G1 y → lv_has ls1 20 [(4, .int (nI i)), (3, .int (nI (yArea0 y))), (2, .int (nI kn)), (1, .ref hy), (0, .ref b)] → W p l e room_1 s m #[Value.ref b] below meth c H1 locs1 cells slots Q (F0 m 855 ls1 [])) : W p l e room_1 s m #[Value.ref b] below meth c H locs cells slots Q (F0 m 814 ls []) := by
  have hx := S.1
  have hb := S.2.1
  have hml := S.2.2.1
  have h40 : ySc y ≤ 40 := hy0.2.2.2.2
  have h6 : yKc y ≤ 6 := hy0.2.1.1.2.2.2.2.1
  have hws := wst_sum hPI
  have har := area_le h40 hy0.sok
  refine lv_aload_n hx hb dL_law_814 rfl (lv_at hl 7 rfl) ?_
  refine lv_iconst (v := nI 5) hx hb dL_law_815 (by decide) ?_
  refine g_callV0 (As := [.int (nI 5)]) (rest := []) (b := hy) (n := 1) S hE hI hA (e_many5 l K _ L1 L2 M hy y  hlS hy0 hPI) gL_law_X4_many rfl (by decide +kernel) ⟨Nat.le_of_ble_eq_true rfl, Nat.le_of_ble_eq_true rfl⟩ (g_hro hE hI hy0.1 rfl) rfl hl.1 rfl (Nat.le_of_ble_eq_true rfl) dL_law_816 hcs (fun rv Gc_816 H locs hp hI => ?_)
  obtain ⟨rfl, hy_816, -⟩ := hp
  refine W.eq (g2 := F0 m 819 ls [.int (nI (wst y))]) rfl ?_
  refine lv_iload hx hb dL_law_819 (lv_at hl 4 rfl) ?_
  refine lv_icmp_lt (tgt := 853) hx hb dL_law_821 (by decide) (fun c_821 => ?_) (fun c_821 => ?_)
  · skip
    have c_821 : (wst y) < w0 := (nI_ltI (a := (wst y)) (b := w0) (by omega) (by omega)).mp c_821
    exact absurd c_821 (by omega)
  · skip
    have c_821 : w0 ≤ (wst y) := Nat.not_lt.mp (fun z => c_821 ((nI_ltI (a := (wst y)) (b := w0) (by omega) (by omega)).mpr z))
    refine lv_aload_n hx hb dL_law_824 rfl (lv_at hl 7 rfl) ?_
    refine lv_iconst (v := nI 5) hx hb dL_law_825 (by decide) ?_
    refine g_callV0 (As := [.int (nI 5)]) (rest := []) (b := hy) (n := 1) S hE hI hA (e_many5 l K _ L1 L2 M hy y  hlS hy_816 hPI) gL_law_X4_many rfl (by decide +kernel) ⟨Nat.le_of_ble_eq_true rfl, Nat.le_of_ble_eq_true rfl⟩ (g_hro hE hI hy_816.1 rfl) rfl hl.1 rfl (Nat.le_of_ble_eq_true rfl) dL_law_826 hcs (fun rv Gc_826 H locs hp hI => ?_)
    obtain ⟨rfl, hy_826, -⟩ := hp
    refine W.eq (g2 := F0 m 829 ls [.int (nI (wst y))]) rfl ?_
    refine lv_aload_n hx hb dL_law_829 rfl (lv_at hl 7 rfl) ?_
    refine lv_bipush (v := nI 7) hx hb dL_law_830 (by decide) ?_
    refine g_callV0 (As := [.int (nI 7)]) (rest := [.int (nI (wst y))]) (b := hy) (n := 1) S hE hI hA (e_many7 l K _ L1 L2 M hy y  hlS hy_826 ) gL_law_X4_many rfl (by decide +kernel) ⟨Nat.le_of_ble_eq_true rfl, Nat.le_of_ble_eq_true rfl⟩ (g_hro hE hI hy_826.1 rfl) rfl hl.1 rfl (Nat.le_of_ble_eq_true rfl) dL_law_832 hcs (fun rv Gc_832 H locs hp hI => ?_)
    obtain ⟨rfl, hy_832, -⟩ := hp
    refine W.eq (g2 := F0 m 835 ls [.int (nI (yAreaT y)), .int (nI (wst y))]) rfl ?_
    refine t_iadd hx hb dL_law_835 (nI_add _ _) ?_
    refine lv_iload hx hb dL_law_836 (lv_at hl 1 rfl) ?_
    refine t_iadd hx hb dL_law_838 (nI_add _ _) ?_
    refine lv_iload_n hx hb dL_law_839 rfl (lv_at hl 3 rfl) ?_
    refine lv_icmp_ne (tgt := 853) hx hb dL_law_840 (by decide) (fun c_840 => ?_) (fun c_840 => ?_)
    · skip
      have c_840 : (((wst y) + (yAreaT y)) + (ySt y)) ≠ (yArea0 y) := fun z => c_840 ((nI_eq (a := (((wst y) + (yAreaT y)) + (ySt y))) (b := (yArea0 y)) (by omega) (by omega)).mpr z)
      exact (c_840 (by omega)).elim
    · skip
      have c_840 : (((wst y) + (yAreaT y)) + (ySt y)) = (yArea0 y) := (nI_eq (a := (((wst y) + (yAreaT y)) + (ySt y))) (b := (yArea0 y)) (by omega) (by omega)).mp c_840
      refine lv_aload_n hx hb dL_law_843 rfl (lv_at hl 7 rfl) ?_
      refine lv_iconst (v := nI 4) hx hb dL_law_844 (by decide) ?_
      refine g_callV0 (As := [.int (nI 4)]) (rest := []) (b := hy) (n := 1) S hE hI hA (e_many4 l K _ L1 L2 M hy y  hlS hy_832 ) gL_law_X4_many rfl (by decide +kernel) ⟨Nat.le_of_ble_eq_true rfl, Nat.le_of_ble_eq_true rfl⟩ (g_hro hE hI hy_832.1 rfl) rfl hl.1 rfl (Nat.le_of_ble_eq_true rfl) dL_law_845 hcs (fun rv Gc_845 H locs hp hI => ?_)
      obtain ⟨rfl, hy_845, -⟩ := hp
      refine W.eq (g2 := F0 m 848 ls [.int (nI (yPaid y))]) rfl ?_
      refine lv_iload hx hb dL_law_848 (lv_at hl 5 rfl) ?_
      refine lv_icmp_ge (tgt := 855) hx hb dL_law_850 (by decide) (fun c_850 => ?_) (fun c_850 => ?_)
      · skip
        have c_850 : p0 ≤ (yPaid y) := (nI_leI (a := p0) (b := (yPaid y)) (by omega) (by omega)).mp c_850
        exact kk _ y _ _ ls hI hy_845 (lv_sub hl [2,3,6,7,8] rfl)
      · skip
        have c_850 : (yPaid y) < p0 := Nat.not_le.mp (fun z => c_850 ((nI_leI (a := p0) (b := (yPaid y)) (by omega) (by omega)).mpr z))
        exact absurd c_850 (by omega)
set_option maxHeartbeats 4000000 in
set_option maxRecDepth 100000 in
/-- slab by slab -/
theorem w_slabsHead (S : CallFix p m c cL_law 20 s #[Value.ref b] wsL_law RL) (hE : gE K A s s.heap) (hA : ∀ q, s.heap.size ≤ q → A q) (hX : va_X b Ln xs s s.heap) (hbl : b < s.heap.size) (hbA : ¬ A b) (hlS : l.stackTraces = false) (hLn : Ln ≤ 260) (hcs : cells ≤ 600104 ∧ slots ≤ 7301314) (hk40 : k ≤ 40) (hI : gI K A s G H locs) (hy0 : YardC K L1 L2 M hy G y) (hl : lv_has ls 20 [(6, .int (nI k)), (4, .long d9), (2, .int (nI kn)), (1, .ref hy), (0, .ref b)])
    (kk : k < ySc y → ∀ (G1 : gW) (y1 : YV) (H1 : Heap) (locs1 : List Loc) (ls1 : Array Slot), gI K A s G1 H1 locs1 → YardC K L1 L2 M hy G1 y → lv_has ls1 20 [(6, .int (nI k)), (4, .long d9), (2, .int (nI kn)), (1, .ref hy), (0, .ref b)] → W p l e room_1 s m #[Value.ref b] below meth c H1 locs1 cells slots Q (F0 m 880 ls1 []))
    (kx : ySc y ≤ k → ∀ (G1 : gW) (y1 : YV) (H1 : Heap) (locs1 : List Loc) (ls1 : Array Slot), gI K A s G1 H1 locs1 → YardC K L1 L2 M hy G1 y → lv_has ls1 20 [(6, .int (nI k)), (4, .long d9), (2, .int (nI kn)), (1, .ref hy), (0, .ref b)] → W p l e room_1 s m #[Value.ref b] below meth c H1 locs1 cells slots Q (F0 m 1002 ls1 [])) : W p l e room_1 s m #[Value.ref b] below meth c H locs cells slots Q (F0 m 870 ls []) := by
  have hx := S.1
  have hb := S.2.1
  have hml := S.2.2.1
  have h40 : ySc y ≤ 40 := hy0.2.2.2.2
  have h6 : yKc y ≤ 6 := hy0.2.1.1.2.2.2.2.1
  refine lv_iload hx hb dL_law_870 (lv_at hl 0 rfl) ?_
  refine lv_aload_n hx hb dL_law_872 rfl (lv_at hl 3 rfl) ?_
  refine lv_iconst (v := nI 0) hx hb dL_law_873 (by decide) ?_
  refine g_callV0 (As := [.int (nI 0)]) (rest := [.int (nI k)]) (b := hy) (n := 1) S hE hI hA (e_many0 l K _ L1 L2 M hy y  hlS hy0 ) gL_law_X4_many rfl (by decide +kernel) ⟨Nat.le_of_ble_eq_true rfl, Nat.le_of_ble_eq_true rfl⟩ (g_hro hE hI hy0.1 rfl) rfl hl.1 rfl (Nat.le_of_ble_eq_true rfl) dL_law_874 hcs (fun rv Gc_874 H locs hp hI => ?_)
  obtain ⟨rfl, hy_874, -⟩ := hp
  refine W.eq (g2 := F0 m 877 ls [.int (nI (ySc y)), .int (nI k)]) rfl ?_
  refine lv_icmp_ge (tgt := 1002) hx hb dL_law_877 (by decide) (fun c_877 => ?_) (fun c_877 => ?_)
  · skip
    have c_877 : (ySc y) ≤ k := (nI_leI (a := (ySc y)) (b := k) (by omega) (by omega)).mp c_877
    exact kx c_877 _ y _ _ ls hI hy_874 (lv_sub hl [0,1,2,3,4] rfl)
  · skip
    have c_877 : k < (ySc y) := Nat.not_le.mp (fun z => c_877 ((nI_leI (a := (ySc y)) (b := k) (by omega) (by omega)).mpr z))
    exact kk c_877 _ y _ _ ls hI hy_874 (lv_sub hl [0,1,2,3,4] rfl)
set_option maxHeartbeats 4000000 in
set_option maxRecDepth 100000 in
/-- a slab that comes of none -/
theorem w_slabOwn (S : CallFix p m c cL_law 20 s #[Value.ref b] wsL_law RL) (hE : gE K A s s.heap) (hA : ∀ q, s.heap.size ≤ q → A q) (hX : va_X b Ln xs s s.heap) (hbl : b < s.heap.size) (hbA : ¬ A b) (hlS : l.stackTraces = false) (hLn : Ln ≤ 260) (hcs : cells ≤ 600104 ∧ slots ≤ 7301314) (hk : k < ySc y) (hFc : yFc y) (hF : sF (yS y k) = -1) (hI : gI K A s G H locs) (hy0 : YardC K L1 L2 M hy G y) (hl : lv_has ls 20 [(6, .int (nI k)), (4, .long d9), (2, .int (nI kn)), (1, .ref hy), (0, .ref b)])
    (kk : ∀ (G1 : gW) (y1 : YV) (H1 : Heap) (locs1 : List Loc) (ls1 : Array Slot), gI K A s G1 H1 locs1 → YardC K L1 L2 M hy G1 y → lv_has ls1 20 [(6, .int (nI k)), (4, .long d9), (2, .int (nI kn)), (1, .ref hy), (0, .ref b)] → W p l e room_1 s m #[Value.ref b] below meth c H1 locs1 cells slots Q (F0 m 996 ls1 [])) : W p l e room_1 s m #[Value.ref b] below meth c H locs cells slots Q (F0 m 880 ls []) := by
  have hx := S.1
  have hb := S.2.1
  have hml := S.2.2.1
  have h40 : ySc y ≤ 40 := hy0.2.2.2.2
  have h6 : yKc y ≤ 6 := hy0.2.1.1.2.2.2.2.1
  refine lv_aload_n hx hb dL_law_880 rfl (lv_at hl 3 rfl) ?_
  refine lv_iload hx hb dL_law_881 (lv_at hl 0 rfl) ?_
  refine lv_iconst (v := nI 4) hx hb dL_law_883 (by decide) ?_
  refine g_callV0 (As := [.int (nI k), .int (nI 4)]) (rest := []) (b := hy) (n := 2) S hE hI hA (d_ofSlab l K _ L1 L2 M hy y k 4 hlS hy0 hk (by decide)) gL_law_X4_ofSlab rfl (by decide +kernel) ⟨Nat.le_of_ble_eq_true rfl, Nat.le_of_ble_eq_true rfl⟩ (g_hro hE hI hy0.1 rfl) rfl hl.1 rfl (Nat.le_of_ble_eq_true rfl) dL_law_884 hcs (fun rv Gc_884 H locs hp hI => ?_)
  obtain ⟨rfl, hy_884, -⟩ := hp
  refine W.eq (g2 := F0 m 887 ls [.int (-1)]) (congrArg (fun z9 : Int32 => F0 m 887 ls (.int z9 :: [])) (hF)) ?_
  refine lv_istore (lv' := [(7, .int (-1)), (6, .int (nI k)), (4, .long d9), (2, .int (nI kn)), (1, .ref hy), (0, .ref b)]) hx hb dL_law_887 hl (by decide) rfl (fun ls hl => ?_)
  refine lv_iload hx hb dL_law_889 (lv_at hl 0 rfl) ?_
  refine lv_iload hx hb dL_law_891 (lv_at hl 1 rfl) ?_
  refine lv_icmp_ge (tgt := 994) hx hb dL_law_893 (by decide) (fun c_893 => ?_) (fun c_893 => ?_)
  · skip
    exact (lw_m1le (by omega) c_893).elim
  · skip
    refine lv_iload hx hb dL_law_896 (lv_at hl 0 rfl) ?_
    refine lv_if_lt (tgt := 978) hx hb dL_law_898 (by decide) (fun c_898 => ?_) (fun c_898 => ?_)
    · skip
      refine lv_iload hx hb dL_law_978 (lv_at hl 0 rfl) ?_
      refine lv_if_ge (tgt := 996) hx hb dL_law_980 (by decide) (fun c_980 => ?_) (fun c_980 => ?_)
      · skip
        exact absurd c_980 (by decide)
      · skip
        refine lv_aload_n hx hb dL_law_983 rfl (lv_at hl 4 rfl) ?_
        refine lv_iload hx hb dL_law_984 (lv_at hl 1 rfl) ?_
        refine g_callV0 (As := [.int (nI k)]) (rest := []) (b := hy) (n := 1) S hE hI hA (e_root l K _ L1 L2 M hy y k hlS hy_884 hk hFc.fr) gL_law_X4_root rfl (by decide +kernel) ⟨Nat.le_of_ble_eq_true rfl, Nat.le_of_ble_eq_true rfl⟩ (g_hro hE hI hy_884.1 rfl) rfl hl.1 rfl (Nat.le_of_ble_eq_true rfl) dL_law_986 hcs (fun rv Gc_986 H locs hp hI => ?_)
        obtain ⟨rfl, hy_986, -⟩ := hp
        refine W.eq (g2 := F0 m 989 ls [.int (nI k)]) (congrArg (fun z9 : Int32 => F0 m 989 ls (.int z9 :: [])) (congrArg nI (yRoot_end hF))) ?_
        refine lv_iload hx hb dL_law_989 (lv_at hl 1 rfl) ?_
        refine lv_icmp_eq (tgt := 996) hx hb dL_law_991 (by decide) (fun c_991 => ?_) (fun c_991 => ?_)
        · skip
          have c_991 : k = k := (nI_eq (a := k) (b := k) (by omega) (by omega)).mp c_991
          exact kk _ y _ _ ls hI hy_986 (lv_sub hl [1,2,3,4,5] rfl)
        · skip
          have c_991 : k ≠ k := fun z => c_991 ((nI_eq (a := k) (b := k) (by omega) (by omega)).mpr z)
          exact absurd rfl c_991
    · skip
      exact absurd (by decide) c_898
set_option maxHeartbeats 4000000 in
set_option maxRecDepth 100000 in
/-- a slab that comes of another -/
theorem w_slabOf (S : CallFix p m c cL_law 20 s #[Value.ref b] wsL_law RL) (hE : gE K A s s.heap) (hA : ∀ q, s.heap.size ≤ q → A q) (hX : va_X b Ln xs s s.heap) (hbl : b < s.heap.size) (hbA : ¬ A b) (hlS : l.stackTraces = false) (hLn : Ln ≤ 260) (hcs : cells ≤ 600104 ∧ slots ≤ 7301314) (hk : k < ySc y) (hFc : yFc y) (hjk : j < k) (hF : sF (yS y k) = nI j ∧ sT (yS y j) = 1 ∧ sG (yS y k) = sG (yS y j) ∧ sW (yS y k) ≤ sW (yS y j) ∧ sH (yS y k) ≤ sH (yS y j)) (hI : gI K A s G H locs) (hy0 : YardC K L1 L2 M hy G y) (hl : lv_has ls 20 [(6, .int (nI k)), (4, .long d9), (2, .int (nI kn)), (1, .ref hy), (0, .ref b)])
    (kk : ∀ (G1 : gW) (y1 : YV) (H1 : Heap) (locs1 : List Loc) (ls1 : Array Slot), gI K A s G1 H1 locs1 → YardC K L1 L2 M hy G1 y → lv_has ls1 20 [(6, .int (nI k)), (4, .long d9), (2, .int (nI kn)), (1, .ref hy), (0, .ref b)] → W p l e room_1 s m #[Value.ref b] below meth c H1 locs1 cells slots Q (F0 m 996 ls1 [])) : W p l e room_1 s m #[Value.ref b] below meth c H locs cells slots Q (F0 m 880 ls []) := by
  have hx := S.1
  have hb := S.2.1
  have hml := S.2.2.1
  have h40 : ySc y ≤ 40 := hy0.2.2.2.2
  have h6 : yKc y ≤ 6 := hy0.2.1.1.2.2.2.2.1
  obtain ⟨hF, hF1, hF2, hF3, hF4⟩ := hF
  have hj : j < ySc y := by omega
  obtain ⟨s1, s2, s3, s4, s5, s6, s7, s8⟩ := hy0.sok k hk
  obtain ⟨t1, t2, t3, t4, t5, t6, t7, t8⟩ := hy0.sok j hj
  have hrt := yRoot_from hFc.fr h40 hk hjk hF
  refine lv_aload_n hx hb dL_law_880 rfl (lv_at hl 3 rfl) ?_
  refine lv_iload hx hb dL_law_881 (lv_at hl 0 rfl) ?_
  refine lv_iconst (v := nI 4) hx hb dL_law_883 (by decide) ?_
  refine g_callV0 (As := [.int (nI k), .int (nI 4)]) (rest := []) (b := hy) (n := 2) S hE hI hA (d_ofSlab l K _ L1 L2 M hy y k 4 hlS hy0 hk (by decide)) gL_law_X4_ofSlab rfl (by decide +kernel) ⟨Nat.le_of_ble_eq_true rfl, Nat.le_of_ble_eq_true rfl⟩ (g_hro hE hI hy0.1 rfl) rfl hl.1 rfl (Nat.le_of_ble_eq_true rfl) dL_law_884 hcs (fun rv Gc_884 H locs hp hI => ?_)
  obtain ⟨rfl, hy_884, -⟩ := hp
  refine W.eq (g2 := F0 m 887 ls [.int (nI j)]) (congrArg (fun z9 : Int32 => F0 m 887 ls (.int z9 :: [])) (hF)) ?_
  refine lv_istore (lv' := [(7, .int (nI j)), (6, .int (nI k)), (4, .long d9), (2, .int (nI kn)), (1, .ref hy), (0, .ref b)]) hx hb dL_law_887 hl (by decide) rfl (fun ls hl => ?_)
  refine lv_iload hx hb dL_law_889 (lv_at hl 0 rfl) ?_
  refine lv_iload hx hb dL_law_891 (lv_at hl 1 rfl) ?_
  refine lv_icmp_ge (tgt := 994) hx hb dL_law_893 (by decide) (fun c_893 => ?_) (fun c_893 => ?_)
  · skip
    have c_893 : k ≤ j := (nI_leI (a := k) (b := j) (by omega) (by omega)).mp c_893
    exact absurd c_893 (by omega)
  · skip
    have c_893 : j < k := Nat.not_le.mp (fun z => c_893 ((nI_leI (a := k) (b := j) (by omega) (by omega)).mpr z))
    refine lv_iload hx hb dL_law_896 (lv_at hl 0 rfl) ?_
    refine lv_if_lt (tgt := 978) hx hb dL_law_898 (by decide) (fun c_898 => ?_) (fun c_898 => ?_)
    · skip
      have c_898 : j < 0 := (nI_ltI (a := j) (b := 0) (by omega) (by omega)).mp c_898
      exact absurd c_898 (by omega)
    · skip
      have c_898 : 0 ≤ j := Nat.not_lt.mp (fun z => c_898 ((nI_ltI (a := j) (b := 0) (by omega) (by omega)).mpr z))
      refine lv_aload_n hx hb dL_law_901 rfl (lv_at hl 4 rfl) ?_
      refine lv_iload hx hb dL_law_902 (lv_at hl 1 rfl) ?_
      refine g_callV0 (As := [.int (nI k)]) (rest := []) (b := hy) (n := 1) S hE hI hA (e_root l K _ L1 L2 M hy y k hlS hy_884 hk hFc.fr) gL_law_X4_root rfl (by decide +kernel) ⟨Nat.le_of_ble_eq_true rfl, Nat.le_of_ble_eq_true rfl⟩ (g_hro hE hI hy_884.1 rfl) rfl hl.1 rfl (Nat.le_of_ble_eq_true rfl) dL_law_904 hcs (fun rv Gc_904 H locs hp hI => ?_)
      obtain ⟨rfl, hy_904, -⟩ := hp
      refine W.eq (g2 := F0 m 907 ls [.int (nI (yRoot y 40 j))]) (congrArg (fun z9 : Int32 => F0 m 907 ls (.int z9 :: [])) (congrArg nI hrt)) ?_
      refine lv_aload_n hx hb dL_law_907 rfl (lv_at hl 4 rfl) ?_
      refine lv_iload hx hb dL_law_908 (lv_at hl 0 rfl) ?_
      refine g_callV0 (As := [.int (nI j)]) (rest := [.int (nI (yRoot y 40 j))]) (b := hy) (n := 1) S hE hI hA (e_root l K _ L1 L2 M hy y j hlS hy_904 hj hFc.fr) gL_law_X4_root rfl (by decide +kernel) ⟨Nat.le_of_ble_eq_true rfl, Nat.le_of_ble_eq_true rfl⟩ (g_hro hE hI hy_904.1 rfl) rfl hl.1 rfl (Nat.le_of_ble_eq_true rfl) dL_law_910 hcs (fun rv Gc_910 H locs hp hI => ?_)
      obtain ⟨rfl, hy_910, -⟩ := hp
      refine W.eq (g2 := F0 m 913 ls [.int (nI (yRoot y 40 j)), .int (nI (yRoot y 40 j))]) rfl ?_
      refine lv_icmp_ne (tgt := 994) hx hb dL_law_913 (by decide) (fun c_913 => ?_) (fun c_913 => ?_)
      · skip
        exact absurd rfl c_913
      · skip
        refine lv_aload_n hx hb dL_law_916 rfl (lv_at hl 4 rfl) ?_
        refine lv_iload hx hb dL_law_917 (lv_at hl 0 rfl) ?_
        refine lv_iconst (v := nI 5) hx hb dL_law_919 (by decide) ?_
        refine g_callV0 (As := [.int (nI j), .int (nI 5)]) (rest := []) (b := hy) (n := 2) S hE hI hA (d_ofSlab l K _ L1 L2 M hy y j 5 hlS hy_910 hj (by decide)) gL_law_X4_ofSlab rfl (by decide +kernel) ⟨Nat.le_of_ble_eq_true rfl, Nat.le_of_ble_eq_true rfl⟩ (g_hro hE hI hy_910.1 rfl) rfl hl.1 rfl (Nat.le_of_ble_eq_true rfl) dL_law_920 hcs (fun rv Gc_920 H locs hp hI => ?_)
        obtain ⟨rfl, hy_920, -⟩ := hp
        refine W.eq (g2 := F0 m 923 ls [.int (nI 1)]) (congrArg (fun z9 : Int32 => F0 m 923 ls (.int z9 :: [])) (congrArg nI hF1)) ?_
        refine lv_iconst (v := nI 1) hx hb dL_law_923 (by decide) ?_
        refine lv_icmp_ne (tgt := 994) hx hb dL_law_924 (by decide) (fun c_924 => ?_) (fun c_924 => ?_)
        · skip
          have c_924 : 1 ≠ 1 := fun z => c_924 ((nI_eq (a := 1) (b := 1) (by omega) (by omega)).mpr z)
          exact absurd rfl c_924
        · skip
          have c_924 : 1 = 1 := (nI_eq (a := 1) (b := 1) (by omega) (by omega)).mp c_924
          refine lv_aload_n hx hb dL_law_927 rfl (lv_at hl 4 rfl) ?_
          refine lv_iload hx hb dL_law_928 (lv_at hl 1 rfl) ?_
          refine lv_iconst (v := nI 2) hx hb dL_law_930 (by decide) ?_
          refine g_callV0 (As := [.int (nI k), .int (nI 2)]) (rest := []) (b := hy) (n := 2) S hE hI hA (d_ofSlab l K _ L1 L2 M hy y k 2 hlS hy_920 hk (by decide)) gL_law_X4_ofSlab rfl (by decide +kernel) ⟨Nat.le_of_ble_eq_true rfl, Nat.le_of_ble_eq_true rfl⟩ (g_hro hE hI hy_920.1 rfl) rfl hl.1 rfl (Nat.le_of_ble_eq_true rfl) dL_law_931 hcs (fun rv Gc_931 H locs hp hI => ?_)
          obtain ⟨rfl, hy_931, -⟩ := hp
          refine W.eq (g2 := F0 m 934 ls [.int (nI (sG (yS y j)))]) (congrArg (fun z9 : Int32 => F0 m 934 ls (.int z9 :: [])) (congrArg nI hF2)) ?_
          refine lv_aload_n hx hb dL_law_934 rfl (lv_at hl 4 rfl) ?_
          refine lv_iload hx hb dL_law_935 (lv_at hl 0 rfl) ?_
          refine lv_iconst (v := nI 2) hx hb dL_law_937 (by decide) ?_
          refine g_callV0 (As := [.int (nI j), .int (nI 2)]) (rest := [.int (nI (sG (yS y j)))]) (b := hy) (n := 2) S hE hI hA (d_ofSlab l K _ L1 L2 M hy y j 2 hlS hy_931 hj (by decide)) gL_law_X4_ofSlab rfl (by decide +kernel) ⟨Nat.le_of_ble_eq_true rfl, Nat.le_of_ble_eq_true rfl⟩ (g_hro hE hI hy_931.1 rfl) rfl hl.1 rfl (Nat.le_of_ble_eq_true rfl) dL_law_938 hcs (fun rv Gc_938 H locs hp hI => ?_)
          obtain ⟨rfl, hy_938, -⟩ := hp
          refine W.eq (g2 := F0 m 941 ls [.int (nI (sG (yS y j))), .int (nI (sG (yS y j)))]) rfl ?_
          refine lv_icmp_ne (tgt := 994) hx hb dL_law_941 (by decide) (fun c_941 => ?_) (fun c_941 => ?_)
          · skip
            have c_941 : (sG (yS y j)) ≠ (sG (yS y j)) := fun z => c_941 ((nI_eq (a := (sG (yS y j))) (b := (sG (yS y j))) (by omega) (by omega)).mpr z)
            exact absurd rfl c_941
          · skip
            have c_941 : (sG (yS y j)) = (sG (yS y j)) := (nI_eq (a := (sG (yS y j))) (b := (sG (yS y j))) (by omega) (by omega)).mp c_941
            refine lv_aload_n hx hb dL_law_944 rfl (lv_at hl 4 rfl) ?_
            refine lv_iload hx hb dL_law_945 (lv_at hl 1 rfl) ?_
            refine lv_iconst (v := nI 0) hx hb dL_law_947 (by decide) ?_
            refine g_callV0 (As := [.int (nI k), .int (nI 0)]) (rest := []) (b := hy) (n := 2) S hE hI hA (d_ofSlab l K _ L1 L2 M hy y k 0 hlS hy_938 hk (by decide)) gL_law_X4_ofSlab rfl (by decide +kernel) ⟨Nat.le_of_ble_eq_true rfl, Nat.le_of_ble_eq_true rfl⟩ (g_hro hE hI hy_938.1 rfl) rfl hl.1 rfl (Nat.le_of_ble_eq_true rfl) dL_law_948 hcs (fun rv Gc_948 H locs hp hI => ?_)
            obtain ⟨rfl, hy_948, -⟩ := hp
            refine W.eq (g2 := F0 m 951 ls [.int (nI (sW (yS y k)))]) rfl ?_
            refine lv_aload_n hx hb dL_law_951 rfl (lv_at hl 4 rfl) ?_
            refine lv_iload hx hb dL_law_952 (lv_at hl 0 rfl) ?_
            refine lv_iconst (v := nI 0) hx hb dL_law_954 (by decide) ?_
            refine g_callV0 (As := [.int (nI j), .int (nI 0)]) (rest := [.int (nI (sW (yS y k)))]) (b := hy) (n := 2) S hE hI hA (d_ofSlab l K _ L1 L2 M hy y j 0 hlS hy_948 hj (by decide)) gL_law_X4_ofSlab rfl (by decide +kernel) ⟨Nat.le_of_ble_eq_true rfl, Nat.le_of_ble_eq_true rfl⟩ (g_hro hE hI hy_948.1 rfl) rfl hl.1 rfl (Nat.le_of_ble_eq_true rfl) dL_law_955 hcs (fun rv Gc_955 H locs hp hI => ?_)
            obtain ⟨rfl, hy_955, -⟩ := hp
            refine W.eq (g2 := F0 m 958 ls [.int (nI (sW (yS y j))), .int (nI (sW (yS y k)))]) rfl ?_
            refine lv_icmp_gt (tgt := 994) hx hb dL_law_958 (by decide) (fun c_958 => ?_) (fun c_958 => ?_)
            · skip
              have c_958 : (sW (yS y j)) < (sW (yS y k)) := (nI_ltI (a := (sW (yS y j))) (b := (sW (yS y k))) (by omega) (by omega)).mp c_958
              exact absurd c_958 (by omega)
            · skip
              have c_958 : (sW (yS y k)) ≤ (sW (yS y j)) := Nat.not_lt.mp (fun z => c_958 ((nI_ltI (a := (sW (yS y j))) (b := (sW (yS y k))) (by omega) (by omega)).mpr z))
              refine lv_aload_n hx hb dL_law_961 rfl (lv_at hl 4 rfl) ?_
              refine lv_iload hx hb dL_law_962 (lv_at hl 1 rfl) ?_
              refine lv_iconst (v := nI 1) hx hb dL_law_964 (by decide) ?_
              refine g_callV0 (As := [.int (nI k), .int (nI 1)]) (rest := []) (b := hy) (n := 2) S hE hI hA (d_ofSlab l K _ L1 L2 M hy y k 1 hlS hy_955 hk (by decide)) gL_law_X4_ofSlab rfl (by decide +kernel) ⟨Nat.le_of_ble_eq_true rfl, Nat.le_of_ble_eq_true rfl⟩ (g_hro hE hI hy_955.1 rfl) rfl hl.1 rfl (Nat.le_of_ble_eq_true rfl) dL_law_965 hcs (fun rv Gc_965 H locs hp hI => ?_)
              obtain ⟨rfl, hy_965, -⟩ := hp
              refine W.eq (g2 := F0 m 968 ls [.int (nI (sH (yS y k)))]) rfl ?_
              refine lv_aload_n hx hb dL_law_968 rfl (lv_at hl 4 rfl) ?_
              refine lv_iload hx hb dL_law_969 (lv_at hl 0 rfl) ?_
              refine lv_iconst (v := nI 1) hx hb dL_law_971 (by decide) ?_
              refine g_callV0 (As := [.int (nI j), .int (nI 1)]) (rest := [.int (nI (sH (yS y k)))]) (b := hy) (n := 2) S hE hI hA (d_ofSlab l K _ L1 L2 M hy y j 1 hlS hy_965 hj (by decide)) gL_law_X4_ofSlab rfl (by decide +kernel) ⟨Nat.le_of_ble_eq_true rfl, Nat.le_of_ble_eq_true rfl⟩ (g_hro hE hI hy_965.1 rfl) rfl hl.1 rfl (Nat.le_of_ble_eq_true rfl) dL_law_972 hcs (fun rv Gc_972 H locs hp hI => ?_)
              obtain ⟨rfl, hy_972, -⟩ := hp
              refine W.eq (g2 := F0 m 975 ls [.int (nI (sH (yS y j))), .int (nI (sH (yS y k)))]) rfl ?_
              refine lv_icmp_gt (tgt := 994) hx hb dL_law_975 (by decide) (fun c_975 => ?_) (fun c_975 => ?_)
              · skip
                have c_975 : (sH (yS y j)) < (sH (yS y k)) := (nI_ltI (a := (sH (yS y j))) (b := (sH (yS y k))) (by omega) (by omega)).mp c_975
                exact absurd c_975 (by omega)
              · skip
                have c_975 : (sH (yS y k)) ≤ (sH (yS y j)) := Nat.not_lt.mp (fun z => c_975 ((nI_ltI (a := (sH (yS y j))) (b := (sH (yS y k))) (by omega) (by omega)).mpr z))
                refine lv_iload hx hb dL_law_978 (lv_at hl 0 rfl) ?_
                refine lv_if_ge (tgt := 996) hx hb dL_law_980 (by decide) (fun c_980 => ?_) (fun c_980 => ?_)
                · skip
                  have c_980 : 0 ≤ j := (nI_leI (a := 0) (b := j) (by omega) (by omega)).mp c_980
                  exact kk _ y _ _ ls hI hy_972 (lv_sub hl [1,2,3,4,5] rfl)
                · skip
                  have c_980 : j < 0 := Nat.not_le.mp (fun z => c_980 ((nI_leI (a := 0) (b := j) (by omega) (by omega)).mpr z))
                  exact absurd c_980 (by omega)
set_option maxHeartbeats 4000000 in
set_option maxRecDepth 100000 in
/-- a piece -/
theorem w_piece (S : CallFix p m c cL_law 20 s #[Value.ref b] wsL_law RL) (hE : gE K A s s.heap) (hA : ∀ q, s.heap.size ≤ q → A q) (hX : va_X b Ln xs s s.heap) (hbl : b < s.heap.size) (hbA : ¬ A b) (hlS : l.stackTraces = false) (hLn : Ln ≤ 260) (hcs : cells ≤ 600104 ∧ slots ≤ 7301314) (hPI : PI y) (hk : k < 4) (hI : gI K A s G H locs) (hy0 : YardC K L1 L2 M hy G y) (hl : lv_has ls 20 [(6, .int (nI k)), (4, .long d9), (2, .int (nI kn)), (1, .ref hy), (0, .ref b)])
    (kk : ∀ (G1 : gW) (y1 : YV) (H1 : Heap) (locs1 : List Loc) (ls1 : Array Slot) (wd hd g : Nat), ((1 ≤ wd ∧ wd ≤ 20) ∧ (1 ≤ hd ∧ hd ≤ 20) ∧ g ≤ 1) → gI K A s G1 H1 locs1 → YardC K L1 L2 M hy G1 y → lv_has ls1 20 [(7, .int (nI wd)), (8, .int (nI hd)), (9, .int (nI g)), (10, .int (nI (wV (ySt2 y g) (yF y) wd hd))), (11, .int (cE (qV (ySt2 y g) (yF y) wd hd).2)), (6, .int (nI k)), (4, .long d9), (2, .int (nI kn)), (1, .ref hy), (0, .ref b)] → W p l e room_1 s m #[Value.ref b] below meth c H1 locs1 cells slots Q (F0 m 1151 ls1 [])) : W p l e room_1 s m #[Value.ref b] below meth c H locs cells slots Q (F0 m 1011 ls []) := by
  have hx := S.1
  have hb := S.2.1
  have hml := S.2.2.1
  have h40 : ySc y ≤ 40 := hy0.2.2.2.2
  have h6 : yKc y ≤ 6 := hy0.2.1.1.2.2.2.2.1
  have hF : yF y = 1 := hPI.1
  refine lv_iconst (v := nI 1) hx hb dL_law_1011 (by decide) ?_
  refine lv_aload_n hx hb dL_law_1012 rfl (lv_at hl 4 rfl) ?_
  refine lv_iload hx hb dL_law_1013 (lv_at hl 0 rfl) ?_
  refine g_callCell (rest := [.int (nI 1)]) S hE hI hA hX hbl hbA hLn (k := k) (by omega) gL_law_L_cell ⟨Nat.le_of_ble_eq_true rfl, Nat.le_of_ble_eq_true rfl⟩ hl.1 (Nat.le_of_ble_eq_true rfl) dL_law_1015 hcs (fun x_1015 H locs hI => ?_)
  refine W.eq (g2 := F0 m 1018 ls [.int x_1015, .int (nI 1)]) rfl ?_
  refine lv_bipush (v := nI 20) hx hb dL_law_1018 (by decide) ?_
  refine g_callS0 (As := [.int x_1015, .int (nI 20)]) (rest := [.int (nI 1)]) (n := 2) S hE hI hA (c_L_below l K _ x_1015 20 ⟨by omega, by omega⟩) gL_law_L_below rfl (by decide +kernel) ⟨Nat.le_of_ble_eq_true rfl, Nat.le_of_ble_eq_true rfl⟩ rfl hl.1 rfl (Nat.le_of_ble_eq_true rfl) dL_law_1020 hcs (fun rv Gc_1020 H locs hp hI => ?_)
  obtain ⟨⟨r_1020, hr_1020, rfl⟩, hq9⟩ := hp
  rw [hq9] at hI
  refine W.eq (g2 := F0 m 1023 ls [.int (nI r_1020), .int (nI 1)]) rfl ?_
  refine t_iadd hx hb dL_law_1023 (nI_add _ _) ?_
  refine lv_istore (lv' := [(7, .int (nI (1 + r_1020))), (6, .int (nI k)), (4, .long d9), (2, .int (nI kn)), (1, .ref hy), (0, .ref b)]) hx hb dL_law_1024 hl (by decide) rfl (fun ls hl => ?_)
  refine lv_iconst (v := nI 1) hx hb dL_law_1026 (by decide) ?_
  refine lv_aload_n hx hb dL_law_1027 rfl (lv_at hl 5 rfl) ?_
  refine lv_iload hx hb dL_law_1028 (lv_at hl 1 rfl) ?_
  refine g_callCell (rest := [.int (nI 1)]) S hE hI hA hX hbl hbA hLn (k := k) (by omega) gL_law_L_cell ⟨Nat.le_of_ble_eq_true rfl, Nat.le_of_ble_eq_true rfl⟩ hl.1 (Nat.le_of_ble_eq_true rfl) dL_law_1030 hcs (fun x_1030 H locs hI => ?_)
  refine W.eq (g2 := F0 m 1033 ls [.int x_1030, .int (nI 1)]) rfl ?_
  refine lv_iconst (v := nI 5) hx hb dL_law_1033 (by decide) ?_
  refine g_shr hx hb dL_law_1034 (fun v_1034 => ?_)
  refine lv_bipush (v := nI 20) hx hb dL_law_1035 (by decide) ?_
  refine g_callS0 (As := [.int v_1034, .int (nI 20)]) (rest := [.int (nI 1)]) (n := 2) S hE hI hA (c_L_below l K _ v_1034 20 ⟨by omega, by omega⟩) gL_law_L_below rfl (by decide +kernel) ⟨Nat.le_of_ble_eq_true rfl, Nat.le_of_ble_eq_true rfl⟩ rfl hl.1 rfl (Nat.le_of_ble_eq_true rfl) dL_law_1037 hcs (fun rv Gc_1037 H locs hp hI => ?_)
  obtain ⟨⟨r_1037, hr_1037, rfl⟩, hq9⟩ := hp
  rw [hq9] at hI
  refine W.eq (g2 := F0 m 1040 ls [.int (nI r_1037), .int (nI 1)]) rfl ?_
  refine t_iadd hx hb dL_law_1040 (nI_add _ _) ?_
  refine lv_istore (lv' := [(8, .int (nI (1 + r_1037))), (7, .int (nI (1 + r_1020))), (6, .int (nI k)), (4, .long d9), (2, .int (nI kn)), (1, .ref hy), (0, .ref b)]) hx hb dL_law_1041 hl (by decide) rfl (fun ls hl => ?_)
  refine lv_aload_n hx hb dL_law_1043 rfl (lv_at hl 6 rfl) ?_
  refine lv_iload hx hb dL_law_1044 (lv_at hl 2 rfl) ?_
  refine g_callCell (rest := []) S hE hI hA hX hbl hbA hLn (k := k) (by omega) gL_law_L_cell ⟨Nat.le_of_ble_eq_true rfl, Nat.le_of_ble_eq_true rfl⟩ hl.1 (Nat.le_of_ble_eq_true rfl) dL_law_1046 hcs (fun x_1046 H locs hI => ?_)
  refine W.eq (g2 := F0 m 1049 ls [.int x_1046]) rfl ?_
  refine lv_bipush (v := nI 9) hx hb dL_law_1049 (by decide) ?_
  refine g_shr hx hb dL_law_1051 (fun v_1051 => ?_)
  refine lv_iconst (v := nI 2) hx hb dL_law_1052 (by decide) ?_
  refine g_callS0 (As := [.int v_1051, .int (nI 2)]) (rest := []) (n := 2) S hE hI hA (c_L_below l K _ v_1051 2 ⟨by omega, by omega⟩) gL_law_L_below rfl (by decide +kernel) ⟨Nat.le_of_ble_eq_true rfl, Nat.le_of_ble_eq_true rfl⟩ rfl hl.1 rfl (Nat.le_of_ble_eq_true rfl) dL_law_1053 hcs (fun rv Gc_1053 H locs hp hI => ?_)
  obtain ⟨⟨r_1053, hr_1053, rfl⟩, hq9⟩ := hp
  rw [hq9] at hI
  refine W.eq (g2 := F0 m 1056 ls [.int (nI r_1053)]) rfl ?_
  refine lv_istore (lv' := [(9, .int (nI r_1053)), (8, .int (nI (1 + r_1037))), (7, .int (nI (1 + r_1020))), (6, .int (nI k)), (4, .long d9), (2, .int (nI kn)), (1, .ref hy), (0, .ref b)]) hx hb dL_law_1056 hl (by decide) rfl (fun ls hl => ?_)
  refine lv_aload_n hx hb dL_law_1058 rfl (lv_at hl 6 rfl) ?_
  refine lv_iload hx hb dL_law_1059 (lv_at hl 2 rfl) ?_
  refine lv_iload hx hb dL_law_1061 (lv_at hl 1 rfl) ?_
  refine lv_iload hx hb dL_law_1063 (lv_at hl 0 rfl) ?_
  refine g_callV0 (As := [.int (nI (1 + r_1020)), .int (nI (1 + r_1037)), .int (nI r_1053)]) (rest := []) (b := hy) (n := 3) S hE hI hA (d_worth l K _ L1 L2 M hy y (1 + r_1020) (1 + r_1037) r_1053 hlS hy0 ⟨⟨by omega, by omega⟩, ⟨by omega, by omega⟩, by omega⟩) gL_law_X4_worth rfl (by decide +kernel) ⟨Nat.le_of_ble_eq_true rfl, Nat.le_of_ble_eq_true rfl⟩ (g_hro hE hI hy0.1 rfl) rfl hl.1 rfl (Nat.le_of_ble_eq_true rfl) dL_law_1065 hcs (fun rv Gc_1065 H locs hp hI => ?_)
  obtain ⟨rfl, hy_1065, -⟩ := hp
  refine W.eq (g2 := F0 m 1068 ls [.int (nI (wV (ySt2 y r_1053) (yF y) (1 + r_1020) (1 + r_1037)))]) rfl ?_
  refine lv_istore (lv' := [(10, .int (nI (wV (ySt2 y r_1053) (yF y) (1 + r_1020) (1 + r_1037)))), (9, .int (nI r_1053)), (8, .int (nI (1 + r_1037))), (7, .int (nI (1 + r_1020))), (6, .int (nI k)), (4, .long d9), (2, .int (nI kn)), (1, .ref hy), (0, .ref b)]) hx hb dL_law_1068 hl (by decide) rfl (fun ls hl => ?_)
  refine lv_aload_n hx hb dL_law_1070 rfl (lv_at hl 7 rfl) ?_
  refine lv_iload hx hb dL_law_1071 (lv_at hl 3 rfl) ?_
  refine lv_iload hx hb dL_law_1073 (lv_at hl 2 rfl) ?_
  refine lv_iload hx hb dL_law_1075 (lv_at hl 1 rfl) ?_
  refine g_callV0 (As := [.int (nI (1 + r_1020)), .int (nI (1 + r_1037)), .int (nI r_1053)]) (rest := []) (b := hy) (n := 3) S hE hI hA (d_best l K _ L1 L2 M hy y (1 + r_1020) (1 + r_1037) r_1053 hlS hy_1065 ⟨⟨by omega, by omega⟩, ⟨by omega, by omega⟩, by omega⟩) gL_law_X4_bestCut rfl (by decide +kernel) ⟨Nat.le_of_ble_eq_true rfl, Nat.le_of_ble_eq_true rfl⟩ (g_hro hE hI hy_1065.1 rfl) rfl hl.1 rfl (Nat.le_of_ble_eq_true rfl) dL_law_1077 hcs (fun rv Gc_1077 H locs hp hI => ?_)
  obtain ⟨rfl, hy_1077, -⟩ := hp
  refine W.eq (g2 := F0 m 1080 ls [.int (cE (qV (ySt2 y r_1053) (yF y) (1 + r_1020) (1 + r_1037)).2)]) rfl ?_
  refine lv_istore (lv' := [(11, .int (cE (qV (ySt2 y r_1053) (yF y) (1 + r_1020) (1 + r_1037)).2)), (10, .int (nI (wV (ySt2 y r_1053) (yF y) (1 + r_1020) (1 + r_1037)))), (9, .int (nI r_1053)), (8, .int (nI (1 + r_1037))), (7, .int (nI (1 + r_1020))), (6, .int (nI k)), (4, .long d9), (2, .int (nI kn)), (1, .ref hy), (0, .ref b)]) hx hb dL_law_1080 hl (by decide) rfl (fun ls hl => ?_)
  have hb0 := (lw_worth (g := r_1053) hPI.2.2.1 (a := (1 + r_1020)) (b := (1 + r_1037)) (by omega) (by omega) (by omega) (by omega))
  refine lv_iload hx hb dL_law_1082 (lv_at hl 4 rfl) ?_
  refine lv_iconst (v := nI 2) hx hb dL_law_1084 (by decide) ?_
  refine lv_icmp_le (tgt := 1115) hx hb dL_law_1085 (by decide) (fun c_1085 => ?_) (fun c_1085 => ?_)
  · skip
    have c_1085 : (1 + r_1020) ≤ 2 := (nI_leI (a := (1 + r_1020)) (b := 2) (by omega) (by omega)).mp c_1085
    refine lv_aload_n hx hb dL_law_1115 rfl (lv_at hl 8 rfl) ?_
    refine lv_iload hx hb dL_law_1116 (lv_at hl 4 rfl) ?_
    refine lv_iconst (v := nI 1) hx hb dL_law_1118 (by decide) ?_
    refine t_iadd hx hb dL_law_1119 (nI_add _ _) ?_
    refine lv_iload hx hb dL_law_1120 (lv_at hl 3 rfl) ?_
    refine lv_iload hx hb dL_law_1122 (lv_at hl 2 rfl) ?_
    refine g_callV0 (As := [.int (nI ((1 + r_1020) + 1)), .int (nI (1 + r_1037)), .int (nI r_1053)]) (rest := []) (b := hy) (n := 3) S hE hI hA (d_worth l K _ L1 L2 M hy y ((1 + r_1020) + 1) (1 + r_1037) r_1053 hlS hy_1077 ⟨⟨by omega, by omega⟩, ⟨by omega, by omega⟩, by omega⟩) gL_law_X4_worth rfl (by decide +kernel) ⟨Nat.le_of_ble_eq_true rfl, Nat.le_of_ble_eq_true rfl⟩ (g_hro hE hI hy_1077.1 rfl) rfl hl.1 rfl (Nat.le_of_ble_eq_true rfl) dL_law_1124 hcs (fun rv Gc_1124 H locs hp hI => ?_)
    obtain ⟨rfl, hy_1124, -⟩ := hp
    refine W.eq (g2 := F0 m 1127 ls [.int (nI (wV (ySt2 y r_1053) (yF y) ((1 + r_1020) + 1) (1 + r_1037)))]) rfl ?_
    refine lv_iload hx hb dL_law_1127 (lv_at hl 1 rfl) ?_
    have hb3 := (lw_worth (g := r_1053) hPI.2.2.1 (a := ((1 + r_1020) + 1)) (b := (1 + r_1037)) (by omega) (by omega) (by omega) (by omega))
    have hc3 := yWorth_wide y (g := r_1053) (w := (1 + r_1020)) (h := (1 + r_1037)) (by omega) (by omega)
    refine lv_icmp_lt (tgt := 1149) hx hb dL_law_1129 (by decide) (fun c_1129 => ?_) (fun c_1129 => ?_)
    · skip
      have c_1129 : (wV (ySt2 y r_1053) (yF y) ((1 + r_1020) + 1) (1 + r_1037)) < (wV (ySt2 y r_1053) (yF y) (1 + r_1020) (1 + r_1037)) := (nI_ltI (a := (wV (ySt2 y r_1053) (yF y) ((1 + r_1020) + 1) (1 + r_1037))) (b := (wV (ySt2 y r_1053) (yF y) (1 + r_1020) (1 + r_1037))) (by omega) (by omega)).mp c_1129
      exact absurd c_1129 (by omega)
    · skip
      have c_1129 : (wV (ySt2 y r_1053) (yF y) (1 + r_1020) (1 + r_1037)) ≤ (wV (ySt2 y r_1053) (yF y) ((1 + r_1020) + 1) (1 + r_1037)) := Nat.not_lt.mp (fun z => c_1129 ((nI_ltI (a := (wV (ySt2 y r_1053) (yF y) ((1 + r_1020) + 1) (1 + r_1037))) (b := (wV (ySt2 y r_1053) (yF y) (1 + r_1020) (1 + r_1037))) (by omega) (by omega)).mpr z))
      refine lv_aload_n hx hb dL_law_1132 rfl (lv_at hl 8 rfl) ?_
      refine lv_iload hx hb dL_law_1133 (lv_at hl 3 rfl) ?_
      refine lv_iload hx hb dL_law_1135 (lv_at hl 4 rfl) ?_
      refine lv_iconst (v := nI 1) hx hb dL_law_1137 (by decide) ?_
      refine lv_iload hx hb dL_law_1138 (lv_at hl 2 rfl) ?_
      refine t_isub hx hb dL_law_1140 (v := nI (1 - r_1053)) (pk_sub (by omega)) ?_
      refine g_callV0 (As := [.int (nI (1 + r_1037)), .int (nI (1 + r_1020)), .int (nI (1 - r_1053))]) (rest := []) (b := hy) (n := 3) S hE hI hA (d_worth l K _ L1 L2 M hy y (1 + r_1037) (1 + r_1020) (1 - r_1053) hlS hy_1124 ⟨⟨by omega, by omega⟩, ⟨by omega, by omega⟩, by omega⟩) gL_law_X4_worth rfl (by decide +kernel) ⟨Nat.le_of_ble_eq_true rfl, Nat.le_of_ble_eq_true rfl⟩ (g_hro hE hI hy_1124.1 rfl) rfl hl.1 rfl (Nat.le_of_ble_eq_true rfl) dL_law_1141 hcs (fun rv Gc_1141 H locs hp hI => ?_)
      obtain ⟨rfl, hy_1141, -⟩ := hp
      refine W.eq (g2 := F0 m 1144 ls [.int (nI (wV (ySt2 y r_1053) (yF y) (1 + r_1020) (1 + r_1037)))]) (congrArg (fun z9 : Int32 => F0 m 1144 ls (.int z9 :: [])) (congrArg nI (yWorth_turn y (g := r_1053) (w := (1 + r_1020)) (h := (1 + r_1037)) (by omega) (by omega) (by omega)))) ?_
      refine lv_iload hx hb dL_law_1144 (lv_at hl 1 rfl) ?_
      refine lv_icmp_eq (tgt := 1151) hx hb dL_law_1146 (by decide) (fun c_1146 => ?_) (fun c_1146 => ?_)
      · skip
        have c_1146 : (wV (ySt2 y r_1053) (yF y) (1 + r_1020) (1 + r_1037)) = (wV (ySt2 y r_1053) (yF y) (1 + r_1020) (1 + r_1037)) := (nI_eq (a := (wV (ySt2 y r_1053) (yF y) (1 + r_1020) (1 + r_1037))) (b := (wV (ySt2 y r_1053) (yF y) (1 + r_1020) (1 + r_1037))) (by omega) (by omega)).mp c_1146
        exact kk _ y _ _ ls (1 + r_1020) (1 + r_1037) r_1053 ⟨⟨by omega, by omega⟩, ⟨by omega, by omega⟩, by omega⟩ hI hy_1141 (lv_sub hl [4,3,2,1,0,5,6,7,8,9] rfl)
      · skip
        have c_1146 : (wV (ySt2 y r_1053) (yF y) (1 + r_1020) (1 + r_1037)) ≠ (wV (ySt2 y r_1053) (yF y) (1 + r_1020) (1 + r_1037)) := fun z => c_1146 ((nI_eq (a := (wV (ySt2 y r_1053) (yF y) (1 + r_1020) (1 + r_1037))) (b := (wV (ySt2 y r_1053) (yF y) (1 + r_1020) (1 + r_1037))) (by omega) (by omega)).mpr z)
        exact absurd rfl c_1146
  · skip
    have c_1085 : 2 < (1 + r_1020) := Nat.not_le.mp (fun z => c_1085 ((nI_leI (a := (1 + r_1020)) (b := 2) (by omega) (by omega)).mpr z))
    refine lv_iload hx hb dL_law_1088 (lv_at hl 1 rfl) ?_
    refine lv_aload_n hx hb dL_law_1090 rfl (lv_at hl 8 rfl) ?_
    refine lv_iconst (v := nI 1) hx hb dL_law_1091 (by decide) ?_
    refine lv_iload hx hb dL_law_1092 (lv_at hl 3 rfl) ?_
    refine lv_iload hx hb dL_law_1094 (lv_at hl 2 rfl) ?_
    refine g_callV0 (As := [.int (nI 1), .int (nI (1 + r_1037)), .int (nI r_1053)]) (rest := [.int (nI (wV (ySt2 y r_1053) (yF y) (1 + r_1020) (1 + r_1037)))]) (b := hy) (n := 3) S hE hI hA (d_worth l K _ L1 L2 M hy y 1 (1 + r_1037) r_1053 hlS hy_1077 ⟨⟨by omega, by omega⟩, ⟨by omega, by omega⟩, by omega⟩) gL_law_X4_worth rfl (by decide +kernel) ⟨Nat.le_of_ble_eq_true rfl, Nat.le_of_ble_eq_true rfl⟩ (g_hro hE hI hy_1077.1 rfl) rfl hl.1 rfl (Nat.le_of_ble_eq_true rfl) dL_law_1096 hcs (fun rv Gc_1096 H locs hp hI => ?_)
    obtain ⟨rfl, hy_1096, -⟩ := hp
    refine W.eq (g2 := F0 m 1099 ls [.int (nI (wV (ySt2 y r_1053) (yF y) 1 (1 + r_1037))), .int (nI (wV (ySt2 y r_1053) (yF y) (1 + r_1020) (1 + r_1037)))]) rfl ?_
    refine lv_aload_n hx hb dL_law_1099 rfl (lv_at hl 8 rfl) ?_
    refine lv_iload hx hb dL_law_1100 (lv_at hl 4 rfl) ?_
    refine lv_iconst (v := nI 2) hx hb dL_law_1102 (by decide) ?_
    refine t_isub hx hb dL_law_1103 (v := nI ((1 + r_1020) - 2)) (pk_sub (by omega)) ?_
    refine lv_iload hx hb dL_law_1104 (lv_at hl 3 rfl) ?_
    refine lv_iload hx hb dL_law_1106 (lv_at hl 2 rfl) ?_
    refine g_callV0 (As := [.int (nI ((1 + r_1020) - 2)), .int (nI (1 + r_1037)), .int (nI r_1053)]) (rest := [.int (nI (wV (ySt2 y r_1053) (yF y) 1 (1 + r_1037))), .int (nI (wV (ySt2 y r_1053) (yF y) (1 + r_1020) (1 + r_1037)))]) (b := hy) (n := 3) S hE hI hA (d_worth l K _ L1 L2 M hy y ((1 + r_1020) - 2) (1 + r_1037) r_1053 hlS hy_1096 ⟨⟨by omega, by omega⟩, ⟨by omega, by omega⟩, by omega⟩) gL_law_X4_worth rfl (by decide +kernel) ⟨Nat.le_of_ble_eq_true rfl, Nat.le_of_ble_eq_true rfl⟩ (g_hro hE hI hy_1096.1 rfl) rfl hl.1 rfl (Nat.le_of_ble_eq_true rfl) dL_law_1108 hcs (fun rv Gc_1108 H locs hp hI => ?_)
    obtain ⟨rfl, hy_1108, -⟩ := hp
    refine W.eq (g2 := F0 m 1111 ls [.int (nI (wV (ySt2 y r_1053) (yF y) ((1 + r_1020) - 2) (1 + r_1037))), .int (nI (wV (ySt2 y r_1053) (yF y) 1 (1 + r_1037))), .int (nI (wV (ySt2 y r_1053) (yF y) (1 + r_1020) (1 + r_1037)))]) rfl ?_
    refine t_iadd hx hb dL_law_1111 (nI_add _ _) ?_
    have hb1 := (lw_worth (g := r_1053) hPI.2.2.1 (a := 1) (b := (1 + r_1037)) (by omega) (by omega) (by omega) (by omega))
    have hb2 := (lw_worth (g := r_1053) hPI.2.2.1 (a := ((1 + r_1020) - 2)) (b := (1 + r_1037)) (by omega) (by omega) (by omega) (by omega))
    have hc1 := lw_cut1 (g := r_1053) (w := (1 + r_1020)) (h := (1 + r_1037)) hF (by omega) (by omega)
    refine lv_icmp_lt (tgt := 1149) hx hb dL_law_1112 (by decide) (fun c_1112 => ?_) (fun c_1112 => ?_)
    · skip
      have c_1112 : (wV (ySt2 y r_1053) (yF y) (1 + r_1020) (1 + r_1037)) < ((wV (ySt2 y r_1053) (yF y) 1 (1 + r_1037)) + (wV (ySt2 y r_1053) (yF y) ((1 + r_1020) - 2) (1 + r_1037))) := (nI_ltI (a := (wV (ySt2 y r_1053) (yF y) (1 + r_1020) (1 + r_1037))) (b := ((wV (ySt2 y r_1053) (yF y) 1 (1 + r_1037)) + (wV (ySt2 y r_1053) (yF y) ((1 + r_1020) - 2) (1 + r_1037)))) (by omega) (by omega)).mp c_1112
      exact absurd c_1112 (by omega)
    · skip
      have c_1112 : ((wV (ySt2 y r_1053) (yF y) 1 (1 + r_1037)) + (wV (ySt2 y r_1053) (yF y) ((1 + r_1020) - 2) (1 + r_1037))) ≤ (wV (ySt2 y r_1053) (yF y) (1 + r_1020) (1 + r_1037)) := Nat.not_lt.mp (fun z => c_1112 ((nI_ltI (a := (wV (ySt2 y r_1053) (yF y) (1 + r_1020) (1 + r_1037))) (b := ((wV (ySt2 y r_1053) (yF y) 1 (1 + r_1037)) + (wV (ySt2 y r_1053) (yF y) ((1 + r_1020) - 2) (1 + r_1037)))) (by omega) (by omega)).mpr z))
      refine lv_aload_n hx hb dL_law_1115 rfl (lv_at hl 8 rfl) ?_
      refine lv_iload hx hb dL_law_1116 (lv_at hl 4 rfl) ?_
      refine lv_iconst (v := nI 1) hx hb dL_law_1118 (by decide) ?_
      refine t_iadd hx hb dL_law_1119 (nI_add _ _) ?_
      refine lv_iload hx hb dL_law_1120 (lv_at hl 3 rfl) ?_
      refine lv_iload hx hb dL_law_1122 (lv_at hl 2 rfl) ?_
      refine g_callV0 (As := [.int (nI ((1 + r_1020) + 1)), .int (nI (1 + r_1037)), .int (nI r_1053)]) (rest := []) (b := hy) (n := 3) S hE hI hA (d_worth l K _ L1 L2 M hy y ((1 + r_1020) + 1) (1 + r_1037) r_1053 hlS hy_1108 ⟨⟨by omega, by omega⟩, ⟨by omega, by omega⟩, by omega⟩) gL_law_X4_worth rfl (by decide +kernel) ⟨Nat.le_of_ble_eq_true rfl, Nat.le_of_ble_eq_true rfl⟩ (g_hro hE hI hy_1108.1 rfl) rfl hl.1 rfl (Nat.le_of_ble_eq_true rfl) dL_law_1124 hcs (fun rv Gc_1124 H locs hp hI => ?_)
      obtain ⟨rfl, hy_1124, -⟩ := hp
      refine W.eq (g2 := F0 m 1127 ls [.int (nI (wV (ySt2 y r_1053) (yF y) ((1 + r_1020) + 1) (1 + r_1037)))]) rfl ?_
      refine lv_iload hx hb dL_law_1127 (lv_at hl 1 rfl) ?_
      have hb3 := (lw_worth (g := r_1053) hPI.2.2.1 (a := ((1 + r_1020) + 1)) (b := (1 + r_1037)) (by omega) (by omega) (by omega) (by omega))
      have hc3 := yWorth_wide y (g := r_1053) (w := (1 + r_1020)) (h := (1 + r_1037)) (by omega) (by omega)
      refine lv_icmp_lt (tgt := 1149) hx hb dL_law_1129 (by decide) (fun c_1129 => ?_) (fun c_1129 => ?_)
      · skip
        have c_1129 : (wV (ySt2 y r_1053) (yF y) ((1 + r_1020) + 1) (1 + r_1037)) < (wV (ySt2 y r_1053) (yF y) (1 + r_1020) (1 + r_1037)) := (nI_ltI (a := (wV (ySt2 y r_1053) (yF y) ((1 + r_1020) + 1) (1 + r_1037))) (b := (wV (ySt2 y r_1053) (yF y) (1 + r_1020) (1 + r_1037))) (by omega) (by omega)).mp c_1129
        exact absurd c_1129 (by omega)
      · skip
        have c_1129 : (wV (ySt2 y r_1053) (yF y) (1 + r_1020) (1 + r_1037)) ≤ (wV (ySt2 y r_1053) (yF y) ((1 + r_1020) + 1) (1 + r_1037)) := Nat.not_lt.mp (fun z => c_1129 ((nI_ltI (a := (wV (ySt2 y r_1053) (yF y) ((1 + r_1020) + 1) (1 + r_1037))) (b := (wV (ySt2 y r_1053) (yF y) (1 + r_1020) (1 + r_1037))) (by omega) (by omega)).mpr z))
        refine lv_aload_n hx hb dL_law_1132 rfl (lv_at hl 8 rfl) ?_
        refine lv_iload hx hb dL_law_1133 (lv_at hl 3 rfl) ?_
        refine lv_iload hx hb dL_law_1135 (lv_at hl 4 rfl) ?_
        refine lv_iconst (v := nI 1) hx hb dL_law_1137 (by decide) ?_
        refine lv_iload hx hb dL_law_1138 (lv_at hl 2 rfl) ?_
        refine t_isub hx hb dL_law_1140 (v := nI (1 - r_1053)) (pk_sub (by omega)) ?_
        refine g_callV0 (As := [.int (nI (1 + r_1037)), .int (nI (1 + r_1020)), .int (nI (1 - r_1053))]) (rest := []) (b := hy) (n := 3) S hE hI hA (d_worth l K _ L1 L2 M hy y (1 + r_1037) (1 + r_1020) (1 - r_1053) hlS hy_1124 ⟨⟨by omega, by omega⟩, ⟨by omega, by omega⟩, by omega⟩) gL_law_X4_worth rfl (by decide +kernel) ⟨Nat.le_of_ble_eq_true rfl, Nat.le_of_ble_eq_true rfl⟩ (g_hro hE hI hy_1124.1 rfl) rfl hl.1 rfl (Nat.le_of_ble_eq_true rfl) dL_law_1141 hcs (fun rv Gc_1141 H locs hp hI => ?_)
        obtain ⟨rfl, hy_1141, -⟩ := hp
        refine W.eq (g2 := F0 m 1144 ls [.int (nI (wV (ySt2 y r_1053) (yF y) (1 + r_1020) (1 + r_1037)))]) (congrArg (fun z9 : Int32 => F0 m 1144 ls (.int z9 :: [])) (congrArg nI (yWorth_turn y (g := r_1053) (w := (1 + r_1020)) (h := (1 + r_1037)) (by omega) (by omega) (by omega)))) ?_
        refine lv_iload hx hb dL_law_1144 (lv_at hl 1 rfl) ?_
        refine lv_icmp_eq (tgt := 1151) hx hb dL_law_1146 (by decide) (fun c_1146 => ?_) (fun c_1146 => ?_)
        · skip
          have c_1146 : (wV (ySt2 y r_1053) (yF y) (1 + r_1020) (1 + r_1037)) = (wV (ySt2 y r_1053) (yF y) (1 + r_1020) (1 + r_1037)) := (nI_eq (a := (wV (ySt2 y r_1053) (yF y) (1 + r_1020) (1 + r_1037))) (b := (wV (ySt2 y r_1053) (yF y) (1 + r_1020) (1 + r_1037))) (by omega) (by omega)).mp c_1146
          exact kk _ y _ _ ls (1 + r_1020) (1 + r_1037) r_1053 ⟨⟨by omega, by omega⟩, ⟨by omega, by omega⟩, by omega⟩ hI hy_1141 (lv_sub hl [4,3,2,1,0,5,6,7,8,9] rfl)
        · skip
          have c_1146 : (wV (ySt2 y r_1053) (yF y) (1 + r_1020) (1 + r_1037)) ≠ (wV (ySt2 y r_1053) (yF y) (1 + r_1020) (1 + r_1037)) := fun z => c_1146 ((nI_eq (a := (wV (ySt2 y r_1053) (yF y) (1 + r_1020) (1 + r_1037))) (b := (wV (ySt2 y r_1053) (yF y) (1 + r_1020) (1 + r_1037))) (by omega) (by omega)).mpr z)
          exact absurd rfl c_1146
set_option maxHeartbeats 4000000 in
set_option maxRecDepth 100000 in
/-- no best cut -/
theorem w_cutN (S : CallFix p m c cL_law 20 s #[Value.ref b] wsL_law RL) (hE : gE K A s s.heap) (hA : ∀ q, s.heap.size ≤ q → A q) (hX : va_X b Ln xs s s.heap) (hbl : b < s.heap.size) (hbA : ¬ A b) (hlS : l.stackTraces = false) (hLn : Ln ≤ 260) (hcs : cells ≤ 600104 ∧ slots ≤ 7301314) (hPI : PI y) (hwh : (1 ≤ wd ∧ wd ≤ 20) ∧ (1 ≤ hd ∧ hd ≤ 20) ∧ g ≤ 1) (hI : gI K A s G H locs) (hy0 : YardC K L1 L2 M hy G y) (hl : lv_has ls 20 [(7, .int (nI wd)), (8, .int (nI hd)), (9, .int (nI g)), (10, .int (nI (wV (ySt2 y g) (yF y) wd hd))), (11, .int (-1)), (6, .int (nI k)), (4, .long d9), (2, .int (nI kn)), (1, .ref hy), (0, .ref b)])
    (kk : ∀ (G1 : gW) (y1 : YV) (H1 : Heap) (locs1 : List Loc) (ls1 : Array Slot), gI K A s G1 H1 locs1 → YardC K L1 L2 M hy G1 y → lv_has ls1 20 [(7, .int (nI wd)), (8, .int (nI hd)), (9, .int (nI g)), (10, .int (nI (wV (ySt2 y g) (yF y) wd hd))), (6, .int (nI k)), (4, .long d9), (2, .int (nI kn)), (1, .ref hy), (0, .ref b)] → W p l e room_1 s m #[Value.ref b] below meth c H1 locs1 cells slots Q (F0 m 1238 ls1 [])) : W p l e room_1 s m #[Value.ref b] below meth c H locs cells slots Q (F0 m 1151 ls []) := by
  have hx := S.1
  have hb := S.2.1
  have hml := S.2.2.1
  have h40 : ySc y ≤ 40 := hy0.2.2.2.2
  have h6 : yKc y ≤ 6 := hy0.2.1.1.2.2.2.2.1
  have hF : yF y = 1 := hPI.1
  obtain ⟨⟨q1, q2⟩, ⟨q3, q4⟩, q5⟩ := hwh
  refine lv_iload hx hb dL_law_1151 (lv_at hl 4 rfl) ?_
  refine lv_if_lt (tgt := 1194) hx hb dL_law_1153 (by decide) (fun c_1153 => ?_) (fun c_1153 => ?_)
  · skip
    refine lv_iload hx hb dL_law_1194 (lv_at hl 4 rfl) ?_
    refine lv_bipush (v := nI 100) hx hb dL_law_1196 (by decide) ?_
    refine lv_icmp_lt (tgt := 1238) hx hb dL_law_1198 (by decide) (fun c_1198 => ?_) (fun c_1198 => ?_)
    · skip
      exact kk _ y _ _ ls hI hy0 (lv_sub hl [0,1,2,3,5,6,7,8,9] rfl)
    · skip
      exact absurd (by decide) c_1198
  · skip
    exact absurd (by decide) c_1153
set_option maxHeartbeats 4000000 in
set_option maxRecDepth 100000 in
/-- the best cut is down -/
theorem w_cutV (S : CallFix p m c cL_law 20 s #[Value.ref b] wsL_law RL) (hE : gE K A s s.heap) (hA : ∀ q, s.heap.size ≤ q → A q) (hX : va_X b Ln xs s s.heap) (hbl : b < s.heap.size) (hbA : ¬ A b) (hlS : l.stackTraces = false) (hLn : Ln ≤ 260) (hcs : cells ≤ 600104 ∧ slots ≤ 7301314) (hPI : PI y) (hwh : (1 ≤ wd ∧ wd ≤ 20) ∧ (1 ≤ hd ∧ hd ≤ 20) ∧ g ≤ 1) {q : Nat} (hq : (qV (ySt2 y g) (yF y) wd hd).2 = some (true, q)) (hI : gI K A s G H locs) (hy0 : YardC K L1 L2 M hy G y) (hl : lv_has ls 20 [(7, .int (nI wd)), (8, .int (nI hd)), (9, .int (nI g)), (10, .int (nI (wV (ySt2 y g) (yF y) wd hd))), (11, .int (nI q)), (6, .int (nI k)), (4, .long d9), (2, .int (nI kn)), (1, .ref hy), (0, .ref b)])
    (kk : ∀ (G1 : gW) (y1 : YV) (H1 : Heap) (locs1 : List Loc) (ls1 : Array Slot), gI K A s G1 H1 locs1 → YardC K L1 L2 M hy G1 y → lv_has ls1 20 [(7, .int (nI wd)), (8, .int (nI hd)), (9, .int (nI g)), (10, .int (nI (wV (ySt2 y g) (yF y) wd hd))), (6, .int (nI k)), (4, .long d9), (2, .int (nI kn)), (1, .ref hy), (0, .ref b)] → W p l e room_1 s m #[Value.ref b] below meth c H1 locs1 cells slots Q (F0 m 1238 ls1 [])) : W p l e room_1 s m #[Value.ref b] below meth c H locs cells slots Q (F0 m 1151 ls []) := by
  have hx := S.1
  have hb := S.2.1
  have hml := S.2.2.1
  have h40 : ySc y ≤ 40 := hy0.2.2.2.2
  have h6 : yKc y ≤ 6 := hy0.2.1.1.2.2.2.2.1
  have hF : yF y = 1 := hPI.1
  obtain ⟨⟨q1, q2⟩, ⟨q3, q4⟩, q5⟩ := hwh
  obtain ⟨⟨q6, q7⟩, q8⟩ := lw_cutV (g := g) hF q1 q3 hq
  have hb0 := (lw_worth (g := g) hPI.2.2.1 (a := wd) (b := hd) (by omega) (by omega) (by omega) (by omega))
  refine lv_iload hx hb dL_law_1151 (lv_at hl 4 rfl) ?_
  refine lv_if_lt (tgt := 1194) hx hb dL_law_1153 (by decide) (fun c_1153 => ?_) (fun c_1153 => ?_)
  · skip
    have c_1153 : q < 0 := (nI_ltI (a := q) (b := 0) (by omega) (by omega)).mp c_1153
    exact absurd c_1153 (by omega)
  · skip
    have c_1153 : 0 ≤ q := Nat.not_lt.mp (fun z => c_1153 ((nI_ltI (a := q) (b := 0) (by omega) (by omega)).mpr z))
    refine lv_iload hx hb dL_law_1156 (lv_at hl 4 rfl) ?_
    refine lv_bipush (v := nI 100) hx hb dL_law_1158 (by decide) ?_
    refine lv_icmp_ge (tgt := 1194) hx hb dL_law_1160 (by decide) (fun c_1160 => ?_) (fun c_1160 => ?_)
    · skip
      have c_1160 : 100 ≤ q := (nI_leI (a := 100) (b := q) (by omega) (by omega)).mp c_1160
      exact absurd c_1160 (by omega)
    · skip
      have c_1160 : q < 100 := Nat.not_le.mp (fun z => c_1160 ((nI_leI (a := 100) (b := q) (by omega) (by omega)).mpr z))
      refine lv_aload_n hx hb dL_law_1163 rfl (lv_at hl 8 rfl) ?_
      refine lv_iload hx hb dL_law_1164 (lv_at hl 4 rfl) ?_
      refine lv_iload hx hb dL_law_1166 (lv_at hl 1 rfl) ?_
      refine lv_iload hx hb dL_law_1168 (lv_at hl 2 rfl) ?_
      refine g_callV0 (As := [.int (nI q), .int (nI hd), .int (nI g)]) (rest := []) (b := hy) (n := 3) S hE hI hA (d_worth l K _ L1 L2 M hy y q hd g hlS hy0 ⟨⟨by omega, by omega⟩, ⟨by omega, by omega⟩, by omega⟩) gL_law_X4_worth rfl (by decide +kernel) ⟨Nat.le_of_ble_eq_true rfl, Nat.le_of_ble_eq_true rfl⟩ (g_hro hE hI hy0.1 rfl) rfl hl.1 rfl (Nat.le_of_ble_eq_true rfl) dL_law_1170 hcs (fun rv Gc_1170 H locs hp hI => ?_)
      obtain ⟨rfl, hy_1170, -⟩ := hp
      refine W.eq (g2 := F0 m 1173 ls [.int (nI (wV (ySt2 y g) (yF y) q hd))]) rfl ?_
      refine lv_aload_n hx hb dL_law_1173 rfl (lv_at hl 8 rfl) ?_
      refine lv_iload hx hb dL_law_1174 (lv_at hl 0 rfl) ?_
      refine lv_iload hx hb dL_law_1176 (lv_at hl 4 rfl) ?_
      refine t_isub hx hb dL_law_1178 (v := nI (wd - q)) (pk_sub (by omega)) ?_
      refine lv_iconst (v := nI 1) hx hb dL_law_1179 (by decide) ?_
      refine t_isub hx hb dL_law_1180 (v := nI (wd - q - 1)) (pk_sub (by omega)) ?_
      refine lv_iload hx hb dL_law_1181 (lv_at hl 1 rfl) ?_
      refine lv_iload hx hb dL_law_1183 (lv_at hl 2 rfl) ?_
      refine g_callV0 (As := [.int (nI (wd - q - 1)), .int (nI hd), .int (nI g)]) (rest := [.int (nI (wV (ySt2 y g) (yF y) q hd))]) (b := hy) (n := 3) S hE hI hA (d_worth l K _ L1 L2 M hy y (wd - q - 1) hd g hlS hy_1170 ⟨⟨by omega, by omega⟩, ⟨by omega, by omega⟩, by omega⟩) gL_law_X4_worth rfl (by decide +kernel) ⟨Nat.le_of_ble_eq_true rfl, Nat.le_of_ble_eq_true rfl⟩ (g_hro hE hI hy_1170.1 rfl) rfl hl.1 rfl (Nat.le_of_ble_eq_true rfl) dL_law_1185 hcs (fun rv Gc_1185 H locs hp hI => ?_)
      obtain ⟨rfl, hy_1185, -⟩ := hp
      refine W.eq (g2 := F0 m 1188 ls [.int (nI (wV (ySt2 y g) (yF y) (wd - q - 1) hd)), .int (nI (wV (ySt2 y g) (yF y) q hd))]) rfl ?_
      refine t_iadd hx hb dL_law_1188 (nI_add _ _) ?_
      refine lv_iload hx hb dL_law_1189 (lv_at hl 3 rfl) ?_
      refine lv_icmp_ne (tgt := 1236) hx hb dL_law_1191 (by decide) (fun c_1191 => ?_) (fun c_1191 => ?_)
      · skip
        have c_1191 : ((wV (ySt2 y g) (yF y) q hd) + (wV (ySt2 y g) (yF y) (wd - q - 1) hd)) ≠ (wV (ySt2 y g) (yF y) wd hd) := fun z => c_1191 ((nI_eq (a := ((wV (ySt2 y g) (yF y) q hd) + (wV (ySt2 y g) (yF y) (wd - q - 1) hd))) (b := (wV (ySt2 y g) (yF y) wd hd)) (by omega) (by omega)).mpr z)
        exact (c_1191 (by omega)).elim
      · skip
        have c_1191 : ((wV (ySt2 y g) (yF y) q hd) + (wV (ySt2 y g) (yF y) (wd - q - 1) hd)) = (wV (ySt2 y g) (yF y) wd hd) := (nI_eq (a := ((wV (ySt2 y g) (yF y) q hd) + (wV (ySt2 y g) (yF y) (wd - q - 1) hd))) (b := (wV (ySt2 y g) (yF y) wd hd)) (by omega) (by omega)).mp c_1191
        refine lv_iload hx hb dL_law_1194 (lv_at hl 4 rfl) ?_
        refine lv_bipush (v := nI 100) hx hb dL_law_1196 (by decide) ?_
        refine lv_icmp_lt (tgt := 1238) hx hb dL_law_1198 (by decide) (fun c_1198 => ?_) (fun c_1198 => ?_)
        · skip
          have c_1198 : q < 100 := (nI_ltI (a := q) (b := 100) (by omega) (by omega)).mp c_1198
          exact kk _ y _ _ ls hI hy_1185 (lv_sub hl [0,1,2,3,5,6,7,8,9] rfl)
        · skip
          have c_1198 : 100 ≤ q := Nat.not_lt.mp (fun z => c_1198 ((nI_ltI (a := q) (b := 100) (by omega) (by omega)).mpr z))
          exact absurd c_1198 (by omega)
set_option maxHeartbeats 4000000 in
set_option maxRecDepth 100000 in
/-- the best cut is across -/
theorem w_cutH (S : CallFix p m c cL_law 20 s #[Value.ref b] wsL_law RL) (hE : gE K A s s.heap) (hA : ∀ q, s.heap.size ≤ q → A q) (hX : va_X b Ln xs s s.heap) (hbl : b < s.heap.size) (hbA : ¬ A b) (hlS : l.stackTraces = false) (hLn : Ln ≤ 260) (hcs : cells ≤ 600104 ∧ slots ≤ 7301314) (hPI : PI y) (hwh : (1 ≤ wd ∧ wd ≤ 20) ∧ (1 ≤ hd ∧ hd ≤ 20) ∧ g ≤ 1) {q : Nat} (hq : (qV (ySt2 y g) (yF y) wd hd).2 = some (false, q)) (hI : gI K A s G H locs) (hy0 : YardC K L1 L2 M hy G y) (hl : lv_has ls 20 [(7, .int (nI wd)), (8, .int (nI hd)), (9, .int (nI g)), (10, .int (nI (wV (ySt2 y g) (yF y) wd hd))), (11, .int (nI (100 + q))), (6, .int (nI k)), (4, .long d9), (2, .int (nI kn)), (1, .ref hy), (0, .ref b)])
    (kk : ∀ (G1 : gW) (y1 : YV) (H1 : Heap) (locs1 : List Loc) (ls1 : Array Slot), gI K A s G1 H1 locs1 → YardC K L1 L2 M hy G1 y → lv_has ls1 20 [(7, .int (nI wd)), (8, .int (nI hd)), (9, .int (nI g)), (10, .int (nI (wV (ySt2 y g) (yF y) wd hd))), (6, .int (nI k)), (4, .long d9), (2, .int (nI kn)), (1, .ref hy), (0, .ref b)] → W p l e room_1 s m #[Value.ref b] below meth c H1 locs1 cells slots Q (F0 m 1238 ls1 [])) : W p l e room_1 s m #[Value.ref b] below meth c H locs cells slots Q (F0 m 1151 ls []) := by
  have hx := S.1
  have hb := S.2.1
  have hml := S.2.2.1
  have h40 : ySc y ≤ 40 := hy0.2.2.2.2
  have h6 : yKc y ≤ 6 := hy0.2.1.1.2.2.2.2.1
  have hF : yF y = 1 := hPI.1
  obtain ⟨⟨q1, q2⟩, ⟨q3, q4⟩, q5⟩ := hwh
  obtain ⟨⟨q6, q7⟩, q8⟩ := lw_cutH (g := g) hF q1 q3 hq
  have hb0 := (lw_worth (g := g) hPI.2.2.1 (a := wd) (b := hd) (by omega) (by omega) (by omega) (by omega))
  refine lv_iload hx hb dL_law_1151 (lv_at hl 4 rfl) ?_
  refine lv_if_lt (tgt := 1194) hx hb dL_law_1153 (by decide) (fun c_1153 => ?_) (fun c_1153 => ?_)
  · skip
    have c_1153 : (100 + q) < 0 := (nI_ltI (a := (100 + q)) (b := 0) (by omega) (by omega)).mp c_1153
    exact absurd c_1153 (by omega)
  · skip
    have c_1153 : 0 ≤ (100 + q) := Nat.not_lt.mp (fun z => c_1153 ((nI_ltI (a := (100 + q)) (b := 0) (by omega) (by omega)).mpr z))
    refine lv_iload hx hb dL_law_1156 (lv_at hl 4 rfl) ?_
    refine lv_bipush (v := nI 100) hx hb dL_law_1158 (by decide) ?_
    refine lv_icmp_ge (tgt := 1194) hx hb dL_law_1160 (by decide) (fun c_1160 => ?_) (fun c_1160 => ?_)
    · skip
      have c_1160 : 100 ≤ (100 + q) := (nI_leI (a := 100) (b := (100 + q)) (by omega) (by omega)).mp c_1160
      refine lv_iload hx hb dL_law_1194 (lv_at hl 4 rfl) ?_
      refine lv_bipush (v := nI 100) hx hb dL_law_1196 (by decide) ?_
      refine lv_icmp_lt (tgt := 1238) hx hb dL_law_1198 (by decide) (fun c_1198 => ?_) (fun c_1198 => ?_)
      · skip
        have c_1198 : (100 + q) < 100 := (nI_ltI (a := (100 + q)) (b := 100) (by omega) (by omega)).mp c_1198
        exact absurd c_1198 (by omega)
      · skip
        have c_1198 : 100 ≤ (100 + q) := Nat.not_lt.mp (fun z => c_1198 ((nI_ltI (a := (100 + q)) (b := 100) (by omega) (by omega)).mpr z))
        refine lv_aload_n hx hb dL_law_1201 rfl (lv_at hl 8 rfl) ?_
        refine lv_iload hx hb dL_law_1202 (lv_at hl 0 rfl) ?_
        refine lv_iload hx hb dL_law_1204 (lv_at hl 4 rfl) ?_
        refine lv_bipush (v := nI 100) hx hb dL_law_1206 (by decide) ?_
        refine t_isub hx hb dL_law_1208 (v := nI q) (by rw [pk_sub (by omega), Nat.add_sub_cancel_left]) ?_
        refine lv_iload hx hb dL_law_1209 (lv_at hl 2 rfl) ?_
        refine g_callV0 (As := [.int (nI wd), .int (nI q), .int (nI g)]) (rest := []) (b := hy) (n := 3) S hE hI hA (d_worth l K _ L1 L2 M hy y wd q g hlS hy0 ⟨⟨by omega, by omega⟩, ⟨by omega, by omega⟩, by omega⟩) gL_law_X4_worth rfl (by decide +kernel) ⟨Nat.le_of_ble_eq_true rfl, Nat.le_of_ble_eq_true rfl⟩ (g_hro hE hI hy0.1 rfl) rfl hl.1 rfl (Nat.le_of_ble_eq_true rfl) dL_law_1211 hcs (fun rv Gc_1211 H locs hp hI => ?_)
        obtain ⟨rfl, hy_1211, -⟩ := hp
        refine W.eq (g2 := F0 m 1214 ls [.int (nI (wV (ySt2 y g) (yF y) wd q))]) rfl ?_
        refine lv_aload_n hx hb dL_law_1214 rfl (lv_at hl 8 rfl) ?_
        refine lv_iload hx hb dL_law_1215 (lv_at hl 0 rfl) ?_
        refine lv_iload hx hb dL_law_1217 (lv_at hl 1 rfl) ?_
        refine lv_iload hx hb dL_law_1219 (lv_at hl 4 rfl) ?_
        refine lv_isub hx hb dL_law_1221 ?_
        refine lv_bipush (v := nI 99) hx hb dL_law_1222 (by decide) ?_
        refine t_iadd hx hb dL_law_1224 (v := nI (hd - q - 1)) (lw_hk (by omega) (by omega)) ?_
        refine lv_iload hx hb dL_law_1225 (lv_at hl 2 rfl) ?_
        refine g_callV0 (As := [.int (nI wd), .int (nI (hd - q - 1)), .int (nI g)]) (rest := [.int (nI (wV (ySt2 y g) (yF y) wd q))]) (b := hy) (n := 3) S hE hI hA (d_worth l K _ L1 L2 M hy y wd (hd - q - 1) g hlS hy_1211 ⟨⟨by omega, by omega⟩, ⟨by omega, by omega⟩, by omega⟩) gL_law_X4_worth rfl (by decide +kernel) ⟨Nat.le_of_ble_eq_true rfl, Nat.le_of_ble_eq_true rfl⟩ (g_hro hE hI hy_1211.1 rfl) rfl hl.1 rfl (Nat.le_of_ble_eq_true rfl) dL_law_1227 hcs (fun rv Gc_1227 H locs hp hI => ?_)
        obtain ⟨rfl, hy_1227, -⟩ := hp
        refine W.eq (g2 := F0 m 1230 ls [.int (nI (wV (ySt2 y g) (yF y) wd (hd - q - 1))), .int (nI (wV (ySt2 y g) (yF y) wd q))]) rfl ?_
        refine t_iadd hx hb dL_law_1230 (nI_add _ _) ?_
        refine lv_iload hx hb dL_law_1231 (lv_at hl 3 rfl) ?_
        refine lv_icmp_eq (tgt := 1238) hx hb dL_law_1233 (by decide) (fun c_1233 => ?_) (fun c_1233 => ?_)
        · skip
          have c_1233 : ((wV (ySt2 y g) (yF y) wd q) + (wV (ySt2 y g) (yF y) wd (hd - q - 1))) = (wV (ySt2 y g) (yF y) wd hd) := (nI_eq (a := ((wV (ySt2 y g) (yF y) wd q) + (wV (ySt2 y g) (yF y) wd (hd - q - 1)))) (b := (wV (ySt2 y g) (yF y) wd hd)) (by omega) (by omega)).mp c_1233
          exact kk _ y _ _ ls hI hy_1227 (lv_sub hl [0,1,2,3,5,6,7,8,9] rfl)
        · skip
          have c_1233 : ((wV (ySt2 y g) (yF y) wd q) + (wV (ySt2 y g) (yF y) wd (hd - q - 1))) ≠ (wV (ySt2 y g) (yF y) wd hd) := fun z => c_1233 ((nI_eq (a := ((wV (ySt2 y g) (yF y) wd q) + (wV (ySt2 y g) (yF y) wd (hd - q - 1)))) (b := (wV (ySt2 y g) (yF y) wd hd)) (by omega) (by omega)).mpr z)
          exact (c_1233 (by omega)).elim
    · skip
      have c_1160 : (100 + q) < 100 := Nat.not_le.mp (fun z => c_1160 ((nI_leI (a := 100) (b := (100 + q)) (by omega) (by omega)).mpr z))
      exact absurd c_1160 (by omega)
set_option maxHeartbeats 4000000 in
set_option maxRecDepth 100000 in
/-- the stones of a kind that come of it -/
theorem w_column (S : CallFix p m c cL_law 20 s #[Value.ref b] wsL_law RL) (hE : gE K A s s.heap) (hA : ∀ q, s.heap.size ≤ q → A q) (hX : va_X b Ln xs s s.heap) (hbl : b < s.heap.size) (hbA : ¬ A b) (hlS : l.stackTraces = false) (hLn : Ln ≤ 260) (hcs : cells ≤ 600104 ∧ slots ≤ 7301314) (hPI : PI y) (hwh : (1 ≤ wd ∧ wd ≤ 20) ∧ (1 ≤ hd ∧ hd ≤ 20) ∧ g ≤ 1) (hj : j < yKc y) (hI : gI K A s G H locs) (hy0 : YardC K L1 L2 M hy G y) (hl : lv_has ls 20 [(13, .int (nI j)), (12, .int (nI acc)), (7, .int (nI wd)), (8, .int (nI hd)), (9, .int (nI g)), (10, .int (nI (wV (ySt2 y g) (yF y) wd hd))), (6, .int (nI k)), (4, .long d9), (2, .int (nI kn)), (1, .ref hy), (0, .ref b)])
    (kk : ∀ (G1 : gW) (y1 : YV) (H1 : Heap) (locs1 : List Loc) (ls1 : Array Slot), gI K A s G1 H1 locs1 → YardC K L1 L2 M hy G1 y → lv_has ls1 20 [(13, .int (nI j)), (12, .int (nI (acc + nV (ySt2 y g) (yF y) j wd hd * kP (yK y j)))), (7, .int (nI wd)), (8, .int (nI hd)), (9, .int (nI g)), (10, .int (nI (wV (ySt2 y g) (yF y) wd hd))), (6, .int (nI k)), (4, .long d9), (2, .int (nI kn)), (1, .ref hy), (0, .ref b)] → W p l e room_1 s m #[Value.ref b] below meth c H1 locs1 cells slots Q (F0 m 1275 ls1 [])) : W p l e room_1 s m #[Value.ref b] below meth c H locs cells slots Q (F0 m 1250 ls []) := by
  have hx := S.1
  have hb := S.2.1
  have hml := S.2.2.1
  have h40 : ySc y ≤ 40 := hy0.2.2.2.2
  have h6 : yKc y ≤ 6 := hy0.2.1.1.2.2.2.2.1
  obtain ⟨⟨q1, q2⟩, ⟨q3, q4⟩, q5⟩ := hwh
  refine lv_iload hx hb dL_law_1250 (lv_at hl 1 rfl) ?_
  refine lv_aload_n hx hb dL_law_1252 rfl (lv_at hl 9 rfl) ?_
  refine lv_iload hx hb dL_law_1253 (lv_at hl 2 rfl) ?_
  refine lv_iload hx hb dL_law_1255 (lv_at hl 3 rfl) ?_
  refine lv_iload hx hb dL_law_1257 (lv_at hl 4 rfl) ?_
  refine lv_iload hx hb dL_law_1259 (lv_at hl 0 rfl) ?_
  refine g_callV0 (As := [.int (nI wd), .int (nI hd), .int (nI g), .int (nI j)]) (rest := [.int (nI acc)]) (b := hy) (n := 4) S hE hI hA (e_column l K _ L1 L2 M hy y wd hd g j hlS hy0 hj ⟨⟨by omega, by omega⟩, ⟨by omega, by omega⟩, by omega⟩) gL_law_X4_column rfl (by decide +kernel) ⟨Nat.le_of_ble_eq_true rfl, Nat.le_of_ble_eq_true rfl⟩ (g_hro hE hI hy0.1 rfl) rfl hl.1 rfl (Nat.le_of_ble_eq_true rfl) dL_law_1261 hcs (fun rv Gc_1261 H locs hp hI => ?_)
  obtain ⟨rfl, hy_1261, -⟩ := hp
  refine W.eq (g2 := F0 m 1264 ls [.int (nI (nV (ySt2 y g) (yF y) j wd hd)), .int (nI acc)]) rfl ?_
  refine lv_aload_n hx hb dL_law_1264 rfl (lv_at hl 9 rfl) ?_
  refine lv_iload hx hb dL_law_1265 (lv_at hl 0 rfl) ?_
  refine lv_iconst (v := nI 4) hx hb dL_law_1267 (by decide) ?_
  refine g_callV0 (As := [.int (nI j), .int (nI 4)]) (rest := [.int (nI (nV (ySt2 y g) (yF y) j wd hd)), .int (nI acc)]) (b := hy) (n := 2) S hE hI hA (d_ofKind l K _ L1 L2 M hy y j 4 hlS hy_1261 hj (by decide)) gL_law_X4_ofKind rfl (by decide +kernel) ⟨Nat.le_of_ble_eq_true rfl, Nat.le_of_ble_eq_true rfl⟩ (g_hro hE hI hy_1261.1 rfl) rfl hl.1 rfl (Nat.le_of_ble_eq_true rfl) dL_law_1268 hcs (fun rv Gc_1268 H locs hp hI => ?_)
  obtain ⟨rfl, hy_1268, -⟩ := hp
  refine W.eq (g2 := F0 m 1271 ls [.int (nI (kP (yK y j))), .int (nI (nV (ySt2 y g) (yF y) j wd hd)), .int (nI acc)]) rfl ?_
  refine t_imul hx hb dL_law_1271 (pk_mul _ _) ?_
  refine t_iadd hx hb dL_law_1272 (nI_add _ _) ?_
  refine lv_istore (lv' := [(12, .int (nI (acc + ((nV (ySt2 y g) (yF y) j wd hd) * (kP (yK y j)))))), (13, .int (nI j)), (7, .int (nI wd)), (8, .int (nI hd)), (9, .int (nI g)), (10, .int (nI (wV (ySt2 y g) (yF y) wd hd))), (6, .int (nI k)), (4, .long d9), (2, .int (nI kn)), (1, .ref hy), (0, .ref b)]) hx hb dL_law_1273 hl (by decide) rfl (fun ls hl => ?_)
  exact kk _ y _ _ ls hI hy_1268 (lv_sub hl [1,0,2,3,4,5,6,7,8,9,10] rfl)
set_option maxHeartbeats 4000000 in
set_option maxRecDepth 100000 in
/-- all is worth no less at the highest price -/
theorem w_more (S : CallFix p m c cL_law 20 s #[Value.ref b] wsL_law RL) (hE : gE K A s s.heap) (hA : ∀ q, s.heap.size ≤ q → A q) (hX : va_X b Ln xs s s.heap) (hbl : b < s.heap.size) (hbA : ¬ A b) (hlS : l.stackTraces = false) (hLn : Ln ≤ 260) (hcs : cells ≤ 600104 ∧ slots ≤ 7301314) (hPI : PI y) (hwh : (1 ≤ wd ∧ wd ≤ 20) ∧ (1 ≤ hd ∧ hd ≤ 20) ∧ g ≤ 1) (hk : k < 4) (hkc : yKc y = kn) (hkn : 1 ≤ kn ∧ kn ≤ 4) (hI : gI K A s G H locs) (hy0 : YardC K L1 L2 M hy G y) (hl : lv_has ls 20 [(12, .int (nI (wV (ySt2 y g) (yF y) wd hd))), (7, .int (nI wd)), (8, .int (nI hd)), (9, .int (nI g)), (10, .int (nI (wV (ySt2 y g) (yF y) wd hd))), (6, .int (nI k)), (4, .long d9), (2, .int (nI kn)), (1, .ref hy), (0, .ref b)])
    (kk : ∀ (G1 : gW) (y1 : YV) (H1 : Heap) (locs1 : List Loc) (ls1 : Array Slot), gI K A s G1 H1 locs1 → YardC K L1 L2 M hy G1 y → lv_has ls1 20 [(6, .int (nI k)), (4, .long d9), (2, .int (nI kn)), (1, .ref hy), (0, .ref b)] → W p l e room_1 s m #[Value.ref b] below meth c H1 locs1 cells slots Q (F0 m 1310 ls1 [])) : W p l e room_1 s m #[Value.ref b] below meth c H locs cells slots Q (F0 m 1281 ls []) := by
  have hx := S.1
  have hb := S.2.1
  have hml := S.2.2.1
  have h40 : ySc y ≤ 40 := hy0.2.2.2.2
  have h6 : yKc y ≤ 6 := hy0.2.1.1.2.2.2.2.1
  obtain ⟨⟨q1, q2⟩, ⟨q3, q4⟩, q5⟩ := hwh
  have hb0 := (lw_worth (g := g) hPI.2.2.1 (a := wd) (b := hd) (by omega) (by omega) (by omega) (by omega))
  refine lv_iload hx hb dL_law_1281 (lv_at hl 0 rfl) ?_
  refine lv_iload hx hb dL_law_1283 (lv_at hl 4 rfl) ?_
  refine lv_icmp_ne (tgt := 1308) hx hb dL_law_1285 (by decide) (fun c_1285 => ?_) (fun c_1285 => ?_)
  · skip
    have c_1285 : (wV (ySt2 y g) (yF y) wd hd) ≠ (wV (ySt2 y g) (yF y) wd hd) := fun z => c_1285 ((nI_eq (a := (wV (ySt2 y g) (yF y) wd hd)) (b := (wV (ySt2 y g) (yF y) wd hd)) (by omega) (by omega)).mpr z)
    exact absurd rfl c_1285
  · skip
    have c_1285 : (wV (ySt2 y g) (yF y) wd hd) = (wV (ySt2 y g) (yF y) wd hd) := (nI_eq (a := (wV (ySt2 y g) (yF y) wd hd)) (b := (wV (ySt2 y g) (yF y) wd hd)) (by omega) (by omega)).mp c_1285
    refine lv_aload_n hx hb dL_law_1288 rfl (lv_at hl 8 rfl) ?_
    refine lv_aload_n hx hb dL_law_1289 rfl (lv_at hl 9 rfl) ?_
    refine lv_iload hx hb dL_law_1290 (lv_at hl 5 rfl) ?_
    refine g_callCell (rest := [.ref hy]) S hE hI hA hX hbl hbA hLn (k := k) (by omega) gL_law_L_cell ⟨Nat.le_of_ble_eq_true rfl, Nat.le_of_ble_eq_true rfl⟩ hl.1 (Nat.le_of_ble_eq_true rfl) dL_law_1292 hcs (fun x_1292 H locs hI => ?_)
    refine W.eq (g2 := F0 m 1295 ls [.int x_1292, .ref hy]) rfl ?_
    refine lv_iload_n hx hb dL_law_1295 rfl (lv_at hl 7 rfl) ?_
    refine g_callS0 (As := [.int x_1292, .int (nI kn)]) (rest := [.ref hy]) (n := 2) S hE hI hA (c_L_below l K _ x_1292 kn ⟨by omega, by omega⟩) gL_law_L_below rfl (by decide +kernel) ⟨Nat.le_of_ble_eq_true rfl, Nat.le_of_ble_eq_true rfl⟩ rfl hl.1 rfl (Nat.le_of_ble_eq_true rfl) dL_law_1296 hcs (fun rv Gc_1296 H locs hp hI => ?_)
    obtain ⟨⟨r_1296, hr_1296, rfl⟩, hq9⟩ := hp
    rw [hq9] at hI
    refine W.eq (g2 := F0 m 1299 ls [.int (nI r_1296), .ref hy]) rfl ?_
    refine lv_sipush (v := nI 999) hx hb dL_law_1299 (by decide) ?_
    have hm := yAll_more (j := r_1296) hy0.sok (hPI.2.2.1 r_1296 (by omega)).2
    have hml9 := yAll_lt (y := (ySetK y r_1296 (kPr (yK y r_1296) 999))) (by show ySc y ≤ 44; omega) (fun j9 hj9 => by
    show kP (fU (yK y) r_1296 (kPr (yK y r_1296) 999) j9) ≤ 999
    by_cases e9 : j9 = r_1296
    · subst e9; rw [fU_eq]; exact Nat.le_refl _
    · rw [fU_ne e9]; exact (hPI.2.2.1 j9 hj9).2) hy0.sok
    refine g_callV0 (As := [.int (nI r_1296), .int (nI 999)]) (rest := []) (b := hy) (n := 2) S hE hI hA (e_more l K _ L1 L2 M hy y r_1296 999 hlS hy0 (by omega) ⟨by decide, by decide⟩) gL_law_X4_worthMore rfl (by decide +kernel) ⟨Nat.le_of_ble_eq_true rfl, Nat.le_of_ble_eq_true rfl⟩ (g_hro hE hI hy0.1 rfl) rfl hl.1 rfl (Nat.le_of_ble_eq_true rfl) dL_law_1302 hcs (fun rv Gc_1302 H locs hp hI => ?_)
    obtain ⟨rfl, hy_1302, -⟩ := hp
    refine W.eq (g2 := F0 m 1305 ls [.int (nI (yAll (ySetK y r_1296 (kPr (yK y r_1296) 999))) - nI (yAll y))]) rfl ?_
    refine lv_if_ge (tgt := 1310) hx hb dL_law_1305 (by decide) (fun c_1305 => ?_) (fun c_1305 => ?_)
    · skip
      exact kk _ y _ _ ls hI hy_1302 (lv_sub hl [5,6,7,8,9] rfl)
    · skip
      exact (c_1305 (lw_ge0 hm (by omega))).elim
end GL2
