/-! the law: its loops, its start, its end -/
section GL3
variable {p : Program} {l : Launch} {e : Env} {s : State} {m : MethodId} {below : List Frame} {meth : Method} {c : Code} {H : Heap} {locs : List Loc} {cells slots : Nat} {Q : State → Prop}
variable {b Ln kn : Nat} {xs : Nat → Int32} {ls : Array Slot} {K : gK} {A : Nat → Prop} {G : gW} {L1 L2 : Nat → Nat → Nat} {M : Nat → Nat} {hy i k sl : Nat} {y : YV} {xv : Int32}
variable {acc j v0 w0 p0 wd hd g : Nat} {d9 : Int64}
set_option maxHeartbeats 4000000 in
set_option maxRecDepth 100000 in
theorem w_mid (S : CallFix p m c cL_law 20 s #[Value.ref b] wsL_law RL) (hE : gE K A s s.heap) (hA : ∀ q, s.heap.size ≤ q → A q) (hX : va_X b Ln xs s s.heap) (hbl : b < s.heap.size) (hbA : ¬ A b) (hlS : l.stackTraces = false) (hLn : Ln ≤ 260) (hcs : cells ≤ 600104 ∧ slots ≤ 7301314) (hk : KI kn y) (hI : gI K A s G H locs) (hy0 : YardC K L1 L2 M hy G y) (hl : lv_has ls 20 [(2, .int (nI kn)), (1, .ref hy), (0, .ref b)])
    (kk : ∀ (G1 : gW) (y1 : YV) (H1 : Heap) (locs1 : List Loc) (ls1 : Array Slot), gI K A s G1 H1 locs1 → YardC K L1 L2 M hy G1 y → lv_has ls1 20 [(4, .int (nI 0)), (3, .int (nI (yArea0 y))), (2, .int (nI kn)), (1, .ref hy), (0, .ref b)] → W p l e room_1 s m #[Value.ref b] below meth c H1 locs1 cells slots Q (F0 m 125 ls1 [])) : W p l e room_1 s m #[Value.ref b] below meth c H locs cells slots Q (F0 m 120 ls []) := by
  have hx := S.1
  have hb := S.2.1
  have hml := S.2.2.1
  have h40 : ySc y ≤ 40 := hy0.2.2.2.2
  have h6 : yKc y ≤ 6 := hy0.2.1.1.2.2.2.2.1
  refine lv_iconst (v := nI 0) hx hb dL_law_120 (by decide) ?_
  refine lv_istore_n (lv' := [(3, .int (nI 0)), (2, .int (nI kn)), (1, .ref hy), (0, .ref b)]) hx hb dL_law_121 rfl hl (by decide) rfl (fun ls hl => ?_)
  refine lv_iconst (v := nI 0) hx hb dL_law_122 (by decide) ?_
  refine lv_istore (lv' := [(4, .int (nI 0)), (3, .int (nI 0)), (2, .int (nI kn)), (1, .ref hy), (0, .ref b)]) hx hb dL_law_123 hl (by decide) rfl (fun ls hl => ?_)
  have hA0 : yArea0 y = 0 := yArea0_z hk.2.1
  exact kk _ y _ _ ls hI hy0 (by rw [hA0]; exact lv_sub hl [0,1,2,3,4] rfl)
set_option maxHeartbeats 4000000 in
set_option maxRecDepth 100000 in
theorem w_st0 (S : CallFix p m c cL_law 20 s #[Value.ref b] wsL_law RL) (hE : gE K A s s.heap) (hA : ∀ q, s.heap.size ≤ q → A q) (hX : va_X b Ln xs s s.heap) (hbl : b < s.heap.size) (hbA : ¬ A b) (hlS : l.stackTraces = false) (hLn : Ln ≤ 260) (hcs : cells ≤ 600104 ∧ slots ≤ 7301314)  (hI : gI K A s G H locs) (hy0 : YardC K L1 L2 M hy G y) (hl : lv_has ls 20 [(4, .int (nI i)), (3, .int (nI (yArea0 y))), (9, .int (nI w0)), (10, .int (nI p0)), (2, .int (nI kn)), (1, .ref hy), (0, .ref b)])
    (kk : ∀ (G1 : gW) (y1 : YV) (H1 : Heap) (locs1 : List Loc) (ls1 : Array Slot), gI K A s G1 H1 locs1 → YardC K L1 L2 M hy G1 y → lv_has ls1 20 [(12, .int (nI 0)), (11, .int (nI 0)), (4, .int (nI i)), (3, .int (nI (yArea0 y))), (9, .int (nI w0)), (10, .int (nI p0)), (2, .int (nI kn)), (1, .ref hy), (0, .ref b)] → W p l e room_1 s m #[Value.ref b] below meth c H1 locs1 cells slots Q (F0 m 773 ls1 [])) : W p l e room_1 s m #[Value.ref b] below meth c H locs cells slots Q (F0 m 767 ls []) := by
  have hx := S.1
  have hb := S.2.1
  have hml := S.2.2.1
  have h40 : ySc y ≤ 40 := hy0.2.2.2.2
  have h6 : yKc y ≤ 6 := hy0.2.1.1.2.2.2.2.1
  refine lv_iconst (v := nI 0) hx hb dL_law_767 (by decide) ?_
  refine lv_istore (lv' := [(11, .int (nI 0)), (4, .int (nI i)), (3, .int (nI (yArea0 y))), (9, .int (nI w0)), (10, .int (nI p0)), (2, .int (nI kn)), (1, .ref hy), (0, .ref b)]) hx hb dL_law_768 hl (by decide) rfl (fun ls hl => ?_)
  refine lv_iconst (v := nI 0) hx hb dL_law_770 (by decide) ?_
  refine lv_istore (lv' := [(12, .int (nI 0)), (11, .int (nI 0)), (4, .int (nI i)), (3, .int (nI (yArea0 y))), (9, .int (nI w0)), (10, .int (nI p0)), (2, .int (nI kn)), (1, .ref hy), (0, .ref b)]) hx hb dL_law_771 hl (by decide) rfl (fun ls hl => ?_)
  exact kk _ y _ _ ls hI hy0 (lv_sub hl [0,1,2,3,4,5,6,7,8] rfl)
set_option maxHeartbeats 4000000 in
set_option maxRecDepth 100000 in
theorem w_dig (S : CallFix p m c cL_law 20 s #[Value.ref b] wsL_law RL) (hE : gE K A s s.heap) (hA : ∀ q, s.heap.size ≤ q → A q) (hX : va_X b Ln xs s s.heap) (hbl : b < s.heap.size) (hbA : ¬ A b) (hlS : l.stackTraces = false) (hLn : Ln ≤ 260) (hcs : cells ≤ 600104 ∧ slots ≤ 7301314)  (hI : gI K A s G H locs) (hy0 : YardC K L1 L2 M hy G y) (hl : lv_has ls 20 [(2, .int (nI kn)), (1, .ref hy), (0, .ref b)])
    (kk : ∀ (G1 : gW) (y1 : YV) (H1 : Heap) (locs1 : List Loc) (ls1 : Array Slot), gI K A s G1 H1 locs1 → YardC K L1 L2 M hy G1 y → lv_has ls1 20 [(6, .int (nI 0)), (4, .long (yDigest y)), (2, .int (nI kn)), (1, .ref hy), (0, .ref b)] → W p l e room_1 s m #[Value.ref b] below meth c H1 locs1 cells slots Q (F0 m 870 ls1 [])) : W p l e room_1 s m #[Value.ref b] below meth c H locs cells slots Q (F0 m 861 ls []) := by
  have hx := S.1
  have hb := S.2.1
  have hml := S.2.2.1
  have h40 : ySc y ≤ 40 := hy0.2.2.2.2
  have h6 : yKc y ≤ 6 := hy0.2.1.1.2.2.2.2.1
  refine lv_aload_n hx hb dL_law_861 rfl (lv_at hl 1 rfl) ?_
  refine g_callV0 (As := []) (rest := []) (b := hy) (n := 0) S hE hI hA (c_X4_digest l K _ L1 L2 M hy y  hlS hy0 ) gL_law_X4_digest rfl (by decide +kernel) ⟨Nat.le_of_ble_eq_true rfl, Nat.le_of_ble_eq_true rfl⟩ (g_hro hE hI hy0.1 rfl) rfl hl.1 rfl (Nat.le_of_ble_eq_true rfl) dL_law_862 hcs (fun rv Gc_862 H locs hp hI => ?_)
  obtain ⟨rfl, hy_862, -⟩ := hp
  refine W.eq (g2 := F0 m 865 ls [.long (yDigest y)]) rfl ?_
  refine lv_lstore (lv' := [(4, .long (yDigest y)), (2, .int (nI kn)), (1, .ref hy), (0, .ref b)]) hx hb dL_law_865 hl (by decide) rfl (fun ls hl => ?_)
  refine lv_iconst (v := nI 0) hx hb dL_law_867 (by decide) ?_
  refine lv_istore (lv' := [(6, .int (nI 0)), (4, .long (yDigest y)), (2, .int (nI kn)), (1, .ref hy), (0, .ref b)]) hx hb dL_law_868 hl (by decide) rfl (fun ls hl => ?_)
  exact kk _ y _ _ ls hI hy_862 (lv_sub hl [0,1,2,3,4] rfl)
set_option maxHeartbeats 4000000 in
set_option maxRecDepth 100000 in
theorem w_p0 (S : CallFix p m c cL_law 20 s #[Value.ref b] wsL_law RL) (hE : gE K A s s.heap) (hA : ∀ q, s.heap.size ≤ q → A q) (hX : va_X b Ln xs s s.heap) (hbl : b < s.heap.size) (hbA : ¬ A b) (hlS : l.stackTraces = false) (hLn : Ln ≤ 260) (hcs : cells ≤ 600104 ∧ slots ≤ 7301314)  (hI : gI K A s G H locs) (hy0 : YardC K L1 L2 M hy G y) (hl : lv_has ls 20 [(6, .int (nI k)), (4, .long d9), (2, .int (nI kn)), (1, .ref hy), (0, .ref b)])
    (kk : ∀ (G1 : gW) (y1 : YV) (H1 : Heap) (locs1 : List Loc) (ls1 : Array Slot), gI K A s G1 H1 locs1 → YardC K L1 L2 M hy G1 y → lv_has ls1 20 [(6, .int (nI 0)), (4, .long d9), (2, .int (nI kn)), (1, .ref hy), (0, .ref b)] → W p l e room_1 s m #[Value.ref b] below meth c H1 locs1 cells slots Q (F0 m 1005 ls1 [])) : W p l e room_1 s m #[Value.ref b] below meth c H locs cells slots Q (F0 m 1002 ls []) := by
  have hx := S.1
  have hb := S.2.1
  have hml := S.2.2.1
  have h40 : ySc y ≤ 40 := hy0.2.2.2.2
  have h6 : yKc y ≤ 6 := hy0.2.1.1.2.2.2.2.1
  refine lv_iconst (v := nI 0) hx hb dL_law_1002 (by decide) ?_
  refine lv_istore (lv' := [(6, .int (nI 0)), (4, .long d9), (2, .int (nI kn)), (1, .ref hy), (0, .ref b)]) hx hb dL_law_1003 hl (by decide) rfl (fun ls hl => ?_)
  exact kk _ y _ _ ls hI hy0 (lv_sub hl [0,1,2,3,4] rfl)
set_option maxHeartbeats 4000000 in
set_option maxRecDepth 100000 in
theorem w_c0 (S : CallFix p m c cL_law 20 s #[Value.ref b] wsL_law RL) (hE : gE K A s s.heap) (hA : ∀ q, s.heap.size ≤ q → A q) (hX : va_X b Ln xs s s.heap) (hbl : b < s.heap.size) (hbA : ¬ A b) (hlS : l.stackTraces = false) (hLn : Ln ≤ 260) (hcs : cells ≤ 600104 ∧ slots ≤ 7301314)  (hI : gI K A s G H locs) (hy0 : YardC K L1 L2 M hy G y) (hl : lv_has ls 20 [(7, .int (nI wd)), (8, .int (nI hd)), (9, .int (nI g)), (10, .int (nI (wV (ySt2 y g) (yF y) wd hd))), (6, .int (nI k)), (4, .long d9), (2, .int (nI kn)), (1, .ref hy), (0, .ref b)])
    (kk : ∀ (G1 : gW) (y1 : YV) (H1 : Heap) (locs1 : List Loc) (ls1 : Array Slot), gI K A s G1 H1 locs1 → YardC K L1 L2 M hy G1 y → lv_has ls1 20 [(13, .int (nI 0)), (12, .int (nI 0)), (7, .int (nI wd)), (8, .int (nI hd)), (9, .int (nI g)), (10, .int (nI (wV (ySt2 y g) (yF y) wd hd))), (6, .int (nI k)), (4, .long d9), (2, .int (nI kn)), (1, .ref hy), (0, .ref b)] → W p l e room_1 s m #[Value.ref b] below meth c H1 locs1 cells slots Q (F0 m 1244 ls1 [])) : W p l e room_1 s m #[Value.ref b] below meth c H locs cells slots Q (F0 m 1238 ls []) := by
  have hx := S.1
  have hb := S.2.1
  have hml := S.2.2.1
  have h40 : ySc y ≤ 40 := hy0.2.2.2.2
  have h6 : yKc y ≤ 6 := hy0.2.1.1.2.2.2.2.1
  refine lv_iconst (v := nI 0) hx hb dL_law_1238 (by decide) ?_
  refine lv_istore (lv' := [(12, .int (nI 0)), (7, .int (nI wd)), (8, .int (nI hd)), (9, .int (nI g)), (10, .int (nI (wV (ySt2 y g) (yF y) wd hd))), (6, .int (nI k)), (4, .long d9), (2, .int (nI kn)), (1, .ref hy), (0, .ref b)]) hx hb dL_law_1239 hl (by decide) rfl (fun ls hl => ?_)
  refine lv_iconst (v := nI 0) hx hb dL_law_1241 (by decide) ?_
  refine lv_istore (lv' := [(13, .int (nI 0)), (12, .int (nI 0)), (7, .int (nI wd)), (8, .int (nI hd)), (9, .int (nI g)), (10, .int (nI (wV (ySt2 y g) (yF y) wd hd))), (6, .int (nI k)), (4, .long d9), (2, .int (nI kn)), (1, .ref hy), (0, .ref b)]) hx hb dL_law_1242 hl (by decide) rfl (fun ls hl => ?_)
  exact kk _ y _ _ ls hI hy0 (lv_sub hl [0,1,2,3,4,5,6,7,8,9,10] rfl)
set_option maxHeartbeats 4000000 in
set_option maxRecDepth 100000 in
theorem w_end (S : CallFix p m c cL_law 20 s #[Value.ref b] wsL_law RL) (hE : gE K A s s.heap) (hA : ∀ q, s.heap.size ≤ q → A q) (hX : va_X b Ln xs s s.heap) (hbl : b < s.heap.size) (hbA : ¬ A b) (hlS : l.stackTraces = false) (hLn : Ln ≤ 260) (hcs : cells ≤ 600104 ∧ slots ≤ 7301314)  (hI : gI K A s G H locs) (hy0 : YardC K L1 L2 M hy G y) (hl : lv_has ls 20 [(6, .int (nI k)), (4, .long (yDigest y)), (2, .int (nI kn)), (1, .ref hy), (0, .ref b)])
    (kk : ∀ (G1 : gW) (H1 : Heap) (locs1 : List Loc) {ls1 : Array Slot}, gI K A s G1 H1 locs1 → W p l e room_1 s m #[Value.ref b] below meth c H1 locs1 cells slots Q (F0 m 1331 ls1 [.int 1])) : W p l e room_1 s m #[Value.ref b] below meth c H locs cells slots Q (F0 m 1316 ls []) := by
  have hx := S.1
  have hb := S.2.1
  have hml := S.2.2.1
  have h40 : ySc y ≤ 40 := hy0.2.2.2.2
  have h6 : yKc y ≤ 6 := hy0.2.1.1.2.2.2.2.1
  refine lv_aload_n hx hb dL_law_1316 rfl (lv_at hl 3 rfl) ?_
  refine g_callV0 (As := []) (rest := []) (b := hy) (n := 0) S hE hI hA (c_X4_digest l K _ L1 L2 M hy y  hlS hy0 ) gL_law_X4_digest rfl (by decide +kernel) ⟨Nat.le_of_ble_eq_true rfl, Nat.le_of_ble_eq_true rfl⟩ (g_hro hE hI hy0.1 rfl) rfl hl.1 rfl (Nat.le_of_ble_eq_true rfl) dL_law_1317 hcs (fun rv Gc_1317 H locs hp hI => ?_)
  obtain ⟨rfl, hy_1317, -⟩ := hp
  refine W.eq (g2 := F0 m 1320 ls [.long (yDigest y)]) rfl ?_
  refine lv_lload hx hb dL_law_1320 (lv_at hl 1 rfl) ?_
  refine g_lcmpE hx hb rfl dL_law_1322 ?_
  refine lv_if_ne (tgt := 1330) hx hb dL_law_1323 (by decide) (fun c_1323 => ?_) (fun c_1323 => ?_)
  · skip
    have c_1323 : 0 ≠ 0 := fun z => c_1323 ((nI_eq (a := 0) (b := 0) (by omega) (by omega)).mpr z)
    exact absurd rfl c_1323
  · skip
    have c_1323 : 0 = 0 := (nI_eq (a := 0) (b := 0) (by omega) (by omega)).mp c_1323
    refine lv_iconst (v := nI 1) hx hb dL_law_1326 (by decide) ?_
    refine lv_goto (tgt := 1331) hx hb dL_law_1327 (by decide) ?_
    refine W.eq (g2 := F0 m 1331 ls [.int 1]) rfl ?_
    exact kk _ _ _ hI
/-- the kinds -/
theorem w_kinds (S : CallFix p m c cL_law 20 s #[Value.ref b] wsL_law RL) (hE : gE K A s s.heap) (hA : ∀ q, s.heap.size ≤ q → A q) (hX : va_X b Ln xs s s.heap) (hbl : b < s.heap.size) (hbA : ¬ A b) (hlS : l.stackTraces = false) (hLn : Ln ≤ 260) (hcs : cells ≤ 600104 ∧ slots ≤ 7301314) (hkn : 1 ≤ kn ∧ kn ≤ 4)
    (kx : ∀ (G : gW) (y : YV) (H : Heap) (locs : List Loc) (ls : Array Slot), KI kn y → gI K A s G H locs → YardC K L1 L2 M hy G y → lv_has ls 20 [(2, .int (nI kn)), (1, .ref hy), (0, .ref b)] → W p l e room_1 s m #[Value.ref b] below meth c H locs cells slots Q (F0 m 120 ls [])) :
    ∀ (n k : Nat) (G : gW) (y : YV) (H : Heap) (locs : List Loc) (ls : Array Slot), kn ≤ k + n → k ≤ kn → KI k y → gI K A s G H locs → YardC K L1 L2 M hy G y → lv_has ls 20 [(3, .int (nI k)), (2, .int (nI kn)), (1, .ref hy), (0, .ref b)] → W p l e room_1 s m #[Value.ref b] below meth c H locs cells slots Q (F0 m 22 ls []) := by
  intro n
  induction n with
  | zero =>
    intro k G y H locs ls hn hk hKI hI hY hl
    have e : k = kn := by omega
    refine lv_iload_n S.1 S.2.1 dL_law_22 rfl (lv_at hl 0 rfl) ?_
    refine lv_iload_n S.1 S.2.1 dL_law_23 rfl (lv_at hl 1 rfl) ?_
    refine lv_icmp_ge (tgt := 120) S.1 S.2.1 dL_law_24 (by decide) (fun c => ?_) (fun c => ?_)
    · rw [e] at hKI
      exact kx G y H locs ls hKI hI hY (lv_sub hl [1, 2, 3] rfl)
    · exact absurd (nI_le (by omega) (by omega)) c
  | succ n ih =>
    intro k G y H locs ls hn hk hKI hI hY hl
    refine lv_iload_n S.1 S.2.1 dL_law_22 rfl (lv_at hl 0 rfl) ?_
    refine lv_iload_n S.1 S.2.1 dL_law_23 rfl (lv_at hl 1 rfl) ?_
    refine lv_icmp_ge (tgt := 120) S.1 S.2.1 dL_law_24 (by decide) (fun c => ?_) (fun c => ?_)
    · have c1 := (nI_leI (by omega) (by omega)).mp c
      have e : k = kn := by omega
      rw [e] at hKI
      exact kx G y H locs ls hKI hI hY (lv_sub hl [1, 2, 3] rfl)
    · have c1 : k < kn := Nat.not_le.mp (fun q => c (nI_le q (by omega)))
      refine w_kind S hE hA hX hbl hbA hlS hLn hcs hKI ⟨c1, hkn.2⟩ hI hY hl (fun G1 y1 H1 locs1 ls1 hKI1 hI1 hY1 hl1 => ?_)
      refine lv_iinc (v := nI (k + 1)) (lv' := [(3, .int (nI (k + 1))), (2, .int (nI kn)), (1, .ref hy), (0, .ref b)]) S.1 S.2.1 dL_law_114 hl1 (k := 0) rfl (nI_add _ 1) (by decide) rfl (fun ls2 hl2 => ?_)
      refine lv_goto (tgt := 22) S.1 S.2.1 dL_law_117 (by decide) ?_
      exact ih (k + 1) G1 y1 H1 locs1 ls2 (by omega) (by omega) hKI1 hI1 hY1 hl2
/-- a step, by what it chose -/
theorem w_switch (S : CallFix p m c cL_law 20 s #[Value.ref b] wsL_law RL) (hE : gE K A s s.heap) (hA : ∀ q, s.heap.size ≤ q → A q) (hX : va_X b Ln xs s s.heap) (hbl : b < s.heap.size) (hbA : ¬ A b) (hlS : l.stackTraces = false) (hLn : Ln ≤ 260) (hcs : cells ≤ 600104 ∧ slots ≤ 7301314) (hPI : PI y) (hkc : yKc y = kn) (hkn : 1 ≤ kn ∧ kn ≤ 4) (hi : i < 30) {sl t : Nat} (hz : sl < ySc y ∨ (ySc y = 0 ∧ sl = 0 ∧ t = 0)) (hk : k < kn) (ht : t < 7) (hI : gI K A s G H locs) (hy0 : YardC K L1 L2 M hy G y) (hl : lv_has ls 20 [(5, .int xv), (6, .int (nI (ySc y))), (7, .int (nI sl)), (8, .int (nI k)), (9, .int (nI (wst y))), (10, .int (nI (yPaid y))), (4, .int (nI i)), (3, .int (nI (yArea0 y))), (2, .int (nI kn)), (1, .ref hy), (0, .ref b)])
    (kk : ∀ (G1 : gW) (y1 : YV) (H1 : Heap) (locs1 : List Loc) (ls1 : Array Slot), TR y y1 → gI K A s G1 H1 locs1 → YardC K L1 L2 M hy G1 y1 → lv_has ls1 20 [(4, .int (nI i)), (3, .int (nI (yArea0 y1))), (9, .int (nI (wst y))), (10, .int (nI (yPaid y))), (2, .int (nI kn)), (1, .ref hy), (0, .ref b)] → W p l e room_1 s m #[Value.ref b] below meth c H1 locs1 cells slots Q (F0 m 767 ls1 [])) : W p l e room_1 s m #[Value.ref b] below meth c H locs cells slots Q (F0 m 224 ls [.int (nI t)]) := by
  have hx := S.1
  have hb := S.2.1
  match t, ht, hz with
  | 0, _, _ =>
    refine lv_tableIn (tgt := 260) (off := 36) hx hb dL_law_224 (by decide +kernel) (by decide +kernel) (by decide +kernel) (by decide) ?_
    exact w_slab S hE hA hX hbl hbA hlS hLn hcs hPI hkc hkn hi hI hy0 hl kk
  | 1, _, hz =>
    refine lv_tableIn (tgt := 328) (off := 104) hx hb dL_law_224 (by decide +kernel) (by decide +kernel) (by decide +kernel) (by decide) ?_
    exact w_flaw S hE hA hX hbl hbA hlS hLn hcs hPI hkc hkn hi (hz.resolve_right (fun q => absurd q.2.2 (by decide))) hI hy0 hl kk
  | 2, _, _ =>
    refine lv_tableIn (tgt := 378) (off := 154) hx hb dL_law_224 (by decide +kernel) (by decide +kernel) (by decide +kernel) (by decide) ?_
    exact w_order S hE hA hX hbl hbA hlS hLn hcs hPI hkc hkn hi hk hI hy0 hl kk
  | 3, _, hz =>
    refine lv_tableIn (tgt := 409) (off := 185) hx hb dL_law_224 (by decide +kernel) (by decide +kernel) (by decide +kernel) (by decide) ?_
    exact w_cut S hE hA hX hbl hbA hlS hLn hcs hPI hkc hkn hi (hz.resolve_right (fun q => absurd q.2.2 (by decide))) hI hy0 hl kk
  | 4, _, _ =>
    refine lv_tableIn (tgt := 583) (off := 359) hx hb dL_law_224 (by decide +kernel) (by decide +kernel) (by decide +kernel) (by decide) ?_
    exact w_plan S hE hA hX hbl hbA hlS hLn hcs hPI hkc hkn hi hI hy0 hl kk
  | n + 5, hn, hz =>
    have hz1 : sl < ySc y := hz.resolve_right (fun q => absurd q.2.2 (by omega))
    refine lv_tableOut (tgt := 614) hx hb dL_law_224 (Or.inr (by rw [nI_toInt (by omega)]; omega)) (by decide) ?_
    cases hf : sFits (yS y sl) (yK y k) with
    | none => exact w_takeN S hE hA hX hbl hbA hlS hLn hcs hPI hkc hkn hi hz1 hk hf hI hy0 hl kk
    | some mn => exact w_takeS S hE hA hX hbl hbA hlS hLn hcs hPI hkc hkn hi hz1 hk hf hI hy0 hl kk
/-- the stones of all kinds -/
theorem w_stones (S : CallFix p m c cL_law 20 s #[Value.ref b] wsL_law RL) (hE : gE K A s s.heap) (hA : ∀ q, s.heap.size ≤ q → A q) (hX : va_X b Ln xs s s.heap) (hbl : b < s.heap.size) (hbA : ¬ A b) (hlS : l.stackTraces = false) (hLn : Ln ≤ 260) (hcs : cells ≤ 600104 ∧ slots ≤ 7301314) (hkc : yKc y = kn) (hkn : 1 ≤ kn ∧ kn ≤ 4)
    (kx : ∀ (G : gW) (H : Heap) (locs : List Loc) (ls : Array Slot), gI K A s G H locs → YardC K L1 L2 M hy G y → lv_has ls 20 [(12, .int (nI kn)), (11, .int (nI (ySt y))), (4, .int (nI i)), (3, .int (nI (yArea0 y))), (9, .int (nI w0)), (10, .int (nI p0)), (2, .int (nI kn)), (1, .ref hy), (0, .ref b)] → W p l e room_1 s m #[Value.ref b] below meth c H locs cells slots Q (F0 m 814 ls [])) :
    ∀ (n j acc : Nat) (G : gW) (H : Heap) (locs : List Loc) (ls : Array Slot), kn ≤ j + n → j ≤ kn → acc = sumN (fun q => kS (yK y q)) j → gI K A s G H locs → YardC K L1 L2 M hy G y → lv_has ls 20 [(12, .int (nI j)), (11, .int (nI acc)), (4, .int (nI i)), (3, .int (nI (yArea0 y))), (9, .int (nI w0)), (10, .int (nI p0)), (2, .int (nI kn)), (1, .ref hy), (0, .ref b)] → W p l e room_1 s m #[Value.ref b] below meth c H locs cells slots Q (F0 m 773 ls []) := by
  intro n
  induction n with
  | zero =>
    intro j acc G H locs ls hn hk hac hI hY hl
    have e : j = kn := by omega
    refine lv_iload S.1 S.2.1 dL_law_773 (lv_at hl 0 rfl) ?_
    refine lv_iload_n S.1 S.2.1 dL_law_775 rfl (lv_at hl 6 rfl) ?_
    refine lv_icmp_ge (tgt := 814) S.1 S.2.1 dL_law_776 (by decide) (fun c => ?_) (fun c => ?_)
    · have hs : acc = ySt y := by rw [hac, e, ← hkc]; rfl
      rw [e, hs] at hl
      exact kx G H locs ls hI hY hl
    · exact absurd (nI_le (by omega) (by omega)) c
  | succ n ih =>
    intro j acc G H locs ls hn hk hac hI hY hl
    refine lv_iload S.1 S.2.1 dL_law_773 (lv_at hl 0 rfl) ?_
    refine lv_iload_n S.1 S.2.1 dL_law_775 rfl (lv_at hl 6 rfl) ?_
    refine lv_icmp_ge (tgt := 814) S.1 S.2.1 dL_law_776 (by decide) (fun c => ?_) (fun c => ?_)
    · have c1 := (nI_leI (by omega) (by omega)).mp c
      have e : j = kn := by omega
      have hs : acc = ySt y := by rw [hac, e, ← hkc]; rfl
      rw [e, hs] at hl
      exact kx G H locs ls hI hY hl
    · have c1 : j < kn := Nat.not_le.mp (fun q => c (nI_le q (by omega)))
      refine w_stone S hE hA hX hbl hbA hlS hLn hcs (by omega) hI hY hl (fun G1 y1 H1 locs1 ls1 hI1 hY1 hl1 => ?_)
      refine lv_iinc (v := nI (j + 1)) (lv' := [(12, .int (nI (j + 1))), (11, .int (nI (acc + kS (yK y j)))), (4, .int (nI i)), (3, .int (nI (yArea0 y))), (9, .int (nI w0)), (10, .int (nI p0)), (2, .int (nI kn)), (1, .ref hy), (0, .ref b)]) S.1 S.2.1 dL_law_808 hl1 (k := 0) rfl (nI_add _ 1) (by decide) rfl (fun ls2 hl2 => ?_)
      refine lv_goto (tgt := 773) S.1 S.2.1 dL_law_811 (by decide) ?_
      exact ih (j + 1) (acc + kS (yK y j)) G1 H1 locs1 ls2 (by omega) (by omega) (by rw [hac, sumN_s]) hI1 hY1 hl2
/-- the steps -/
theorem w_main (S : CallFix p m c cL_law 20 s #[Value.ref b] wsL_law RL) (hE : gE K A s s.heap) (hA : ∀ q, s.heap.size ≤ q → A q) (hX : va_X b Ln xs s s.heap) (hbl : b < s.heap.size) (hbA : ¬ A b) (hlS : l.stackTraces = false) (hLn : Ln ≤ 260) (hcs : cells ≤ 600104 ∧ slots ≤ 7301314) (hkn : 1 ≤ kn ∧ kn ≤ 4)
    (kx : ∀ (G : gW) (y : YV) (H : Heap) (locs : List Loc) (ls : Array Slot), PI y → yKc y = kn → gI K A s G H locs → YardC K L1 L2 M hy G y → lv_has ls 20 [(2, .int (nI kn)), (1, .ref hy), (0, .ref b)] → W p l e room_1 s m #[Value.ref b] below meth c H locs cells slots Q (F0 m 861 ls [])) :
    ∀ (n i : Nat) (G : gW) (y : YV) (H : Heap) (locs : List Loc) (ls : Array Slot), 30 ≤ i + n → i ≤ 30 → PI y → yKc y = kn → yPaid y ≤ 1998 * i → gI K A s G H locs → YardC K L1 L2 M hy G y → lv_has ls 20 [(4, .int (nI i)), (3, .int (nI (yArea0 y))), (2, .int (nI kn)), (1, .ref hy), (0, .ref b)] → W p l e room_1 s m #[Value.ref b] below meth c H locs cells slots Q (F0 m 125 ls []) := by
  intro n
  induction n with
  | zero =>
    intro i G y H locs ls hn hk hPI hkc hpd hI hY hl
    refine lv_iload S.1 S.2.1 dL_law_125 (lv_at hl 0 rfl) ?_
    refine lv_bipush (v := nI 30) S.1 S.2.1 dL_law_127 (by decide) ?_
    refine lv_icmp_ge (tgt := 861) S.1 S.2.1 dL_law_129 (by decide) (fun c => ?_) (fun c => ?_)
    · exact kx G y H locs ls hPI hkc hI hY (lv_sub hl [2, 3, 4] rfl)
    · exact absurd (nI_le (by omega) (by omega)) c
  | succ n ih =>
    intro i G y H locs ls hn hk hPI hkc hpd hI hY hl
    refine lv_iload S.1 S.2.1 dL_law_125 (lv_at hl 0 rfl) ?_
    refine lv_bipush (v := nI 30) S.1 S.2.1 dL_law_127 (by decide) ?_
    refine lv_icmp_ge (tgt := 861) S.1 S.2.1 dL_law_129 (by decide) (fun c => ?_) (fun c => ?_)
    · exact kx G y H locs ls hPI hkc hI hY (lv_sub hl [2, 3, 4] rfl)
    · have c1 : i < 30 := Nat.not_le.mp (fun q => c (nI_le q (by omega)))
      refine w_front S hE hA hX hbl hbA hlS hLn hcs hPI hkc hkn c1 hI hY hl (fun G1 _ H1 locs1 ls1 xv sl k t hz hk2 ht hI1 hY1 hl1 => ?_)
      refine w_switch S hE hA hX hbl hbA hlS hLn hcs hPI hkc hkn c1 hz hk2 ht hI1 hY1 hl1 (fun G2 y2 H2 locs2 ls2 hTR hI2 hY2 hl2 => ?_)
      obtain ⟨t1, t2, t3, t4, t5⟩ := hTR
      have hkc2 : yKc y2 = kn := t2.trans hkc
      refine w_st0 S hE hA hX hbl hbA hlS hLn hcs hI2 hY2 hl2 (fun G3 _ H3 locs3 ls3 hI3 hY3 hl3 => ?_)
      refine w_stones S hE hA hX hbl hbA hlS hLn hcs hkc2 hkn (fun G4 H4 locs4 ls4 hI4 hY4 hl4 => ?_) kn 0 0 G3 H3 locs3 ls3 (by omega) (by omega) rfl hI3 hY3 hl3
      refine w_tail S hE hA hX hbl hbA hlS hLn hcs t1 t3 t4 (by omega) hI4 hY4 hl4 (fun G5 _ H5 locs5 ls5 hI5 hY5 hl5 => ?_)
      refine lv_iinc (v := nI (i + 1)) (lv' := [(4, .int (nI (i + 1))), (3, .int (nI (yArea0 y2))), (2, .int (nI kn)), (1, .ref hy), (0, .ref b)]) S.1 S.2.1 dL_law_855 hl5 (k := 0) rfl (nI_add _ 1) (by decide) rfl (fun ls6 hl6 => ?_)
      refine lv_goto (tgt := 125) S.1 S.2.1 dL_law_858 (by decide) ?_
      exact ih (i + 1) G5 y2 H5 locs5 ls6 (by omega) (by omega) t1 hkc2 (by omega) hI5 hY5 hl6
/-- the slabs -/
theorem w_slabs (S : CallFix p m c cL_law 20 s #[Value.ref b] wsL_law RL) (hE : gE K A s s.heap) (hA : ∀ q, s.heap.size ≤ q → A q) (hX : va_X b Ln xs s s.heap) (hbl : b < s.heap.size) (hbA : ¬ A b) (hlS : l.stackTraces = false) (hLn : Ln ≤ 260) (hcs : cells ≤ 600104 ∧ slots ≤ 7301314) (hFc : yFc y)
    (kx : ∀ (k : Nat) (G : gW) (H : Heap) (locs : List Loc) (ls : Array Slot), gI K A s G H locs → YardC K L1 L2 M hy G y → lv_has ls 20 [(6, .int (nI k)), (4, .long d9), (2, .int (nI kn)), (1, .ref hy), (0, .ref b)] → W p l e room_1 s m #[Value.ref b] below meth c H locs cells slots Q (F0 m 1002 ls [])) :
    ∀ (n k : Nat) (G : gW) (H : Heap) (locs : List Loc) (ls : Array Slot), ySc y ≤ k + n → k ≤ ySc y → gI K A s G H locs → YardC K L1 L2 M hy G y → lv_has ls 20 [(6, .int (nI k)), (4, .long d9), (2, .int (nI kn)), (1, .ref hy), (0, .ref b)] → W p l e room_1 s m #[Value.ref b] below meth c H locs cells slots Q (F0 m 870 ls []) := by
  intro n
  induction n with
  | zero =>
    intro k G H locs ls hn hk hI hY hl
    have h40 : ySc y ≤ 40 := hY.2.2.2.2
    exact w_slabsHead S hE hA hX hbl hbA hlS hLn hcs (by omega) hI hY hl (fun c => absurd c (by omega)) (fun _ G1 _ H1 locs1 ls1 hI1 hY1 hl1 => kx k G1 H1 locs1 ls1 hI1 hY1 hl1)
  | succ n ih =>
    intro k G H locs ls hn hk hI hY hl
    have h40 : ySc y ≤ 40 := hY.2.2.2.2
    refine w_slabsHead S hE hA hX hbl hbA hlS hLn hcs (by omega) hI hY hl (fun c7 G1 _ H1 locs1 ls1 hI1 hY1 hl1 => ?_) (fun _ G1 _ H1 locs1 ls1 hI1 hY1 hl1 => kx k G1 H1 locs1 ls1 hI1 hY1 hl1)
    have nx : ∀ (G2 : gW) (y2 : YV) (H2 : Heap) (locs2 : List Loc) (ls2 : Array Slot), gI K A s G2 H2 locs2 → YardC K L1 L2 M hy G2 y → lv_has ls2 20 [(6, .int (nI k)), (4, .long d9), (2, .int (nI kn)), (1, .ref hy), (0, .ref b)] → W p l e room_1 s m #[Value.ref b] below meth c H2 locs2 cells slots Q (F0 m 996 ls2 []) := by
      intro G2 _ H2 locs2 ls3 hI2 hY2 hl3
      refine lv_iinc (v := nI (k + 1)) (lv' := [(6, .int (nI (k + 1))), (4, .long d9), (2, .int (nI kn)), (1, .ref hy), (0, .ref b)]) S.1 S.2.1 dL_law_996 hl3 (k := 0) rfl (nI_add _ 1) (by decide) rfl (fun ls4 hl4 => ?_)
      refine lv_goto (tgt := 870) S.1 S.2.1 dL_law_999 (by decide) ?_
      exact ih (k + 1) G2 H2 locs2 ls4 (by omega) (by omega) hI2 hY2 hl4
    rcases hFc k c7 with h | ⟨j, hj, h⟩
    · exact w_slabOwn S hE hA hX hbl hbA hlS hLn hcs c7 hFc h hI1 hY1 hl1 nx
    · exact w_slabOf S hE hA hX hbl hbA hlS hLn hcs c7 hFc hj h hI1 hY1 hl1 nx
/-- the stones that come of a piece -/
theorem w_columns (S : CallFix p m c cL_law 20 s #[Value.ref b] wsL_law RL) (hE : gE K A s s.heap) (hA : ∀ q, s.heap.size ≤ q → A q) (hX : va_X b Ln xs s s.heap) (hbl : b < s.heap.size) (hbA : ¬ A b) (hlS : l.stackTraces = false) (hLn : Ln ≤ 260) (hcs : cells ≤ 600104 ∧ slots ≤ 7301314) (hPI : PI y) (hwh : (1 ≤ wd ∧ wd ≤ 20) ∧ (1 ≤ hd ∧ hd ≤ 20) ∧ g ≤ 1) (hkc : yKc y = kn) (hkn : 1 ≤ kn ∧ kn ≤ 4)
    (kx : ∀ (G : gW) (H : Heap) (locs : List Loc) (ls : Array Slot), gI K A s G H locs → YardC K L1 L2 M hy G y → lv_has ls 20 [(12, .int (nI (wV (ySt2 y g) (yF y) wd hd))), (7, .int (nI wd)), (8, .int (nI hd)), (9, .int (nI g)), (10, .int (nI (wV (ySt2 y g) (yF y) wd hd))), (6, .int (nI k)), (4, .long d9), (2, .int (nI kn)), (1, .ref hy), (0, .ref b)] → W p l e room_1 s m #[Value.ref b] below meth c H locs cells slots Q (F0 m 1281 ls [])) :
    ∀ (n j acc : Nat) (G : gW) (H : Heap) (locs : List Loc) (ls : Array Slot), kn ≤ j + n → j ≤ kn → acc = sumN (fun q => nV (ySt2 y g) (yF y) q wd hd * kP (yK y q)) j → gI K A s G H locs → YardC K L1 L2 M hy G y → lv_has ls 20 [(13, .int (nI j)), (12, .int (nI acc)), (7, .int (nI wd)), (8, .int (nI hd)), (9, .int (nI g)), (10, .int (nI (wV (ySt2 y g) (yF y) wd hd))), (6, .int (nI k)), (4, .long d9), (2, .int (nI kn)), (1, .ref hy), (0, .ref b)] → W p l e room_1 s m #[Value.ref b] below meth c H locs cells slots Q (F0 m 1244 ls []) := by
  have hend : ∀ acc : Nat, acc = sumN (fun q => nV (ySt2 y g) (yF y) q wd hd * kP (yK y q)) kn → acc = wV (ySt2 y g) (yF y) wd hd := fun acc h => by
    rw [h, ← hkc]
    exact yWorth_sum y hwh.1.1 hwh.2.1.1
  intro n
  induction n with
  | zero =>
    intro j acc G H locs ls hn hk hac hI hY hl
    have e : j = kn := by omega
    refine lv_iload S.1 S.2.1 dL_law_1244 (lv_at hl 0 rfl) ?_
    refine lv_iload_n S.1 S.2.1 dL_law_1246 rfl (lv_at hl 8 rfl) ?_
    refine lv_icmp_ge (tgt := 1281) S.1 S.2.1 dL_law_1247 (by decide) (fun c => ?_) (fun c => ?_)
    · rw [e] at hac
      rw [hend acc hac] at hl
      exact kx G H locs ls hI hY (lv_sub hl [1, 2, 3, 4, 5, 6, 7, 8, 9, 10] rfl)
    · exact absurd (nI_le (by omega) (by omega)) c
  | succ n ih =>
    intro j acc G H locs ls hn hk hac hI hY hl
    refine lv_iload S.1 S.2.1 dL_law_1244 (lv_at hl 0 rfl) ?_
    refine lv_iload_n S.1 S.2.1 dL_law_1246 rfl (lv_at hl 8 rfl) ?_
    refine lv_icmp_ge (tgt := 1281) S.1 S.2.1 dL_law_1247 (by decide) (fun c => ?_) (fun c => ?_)
    · have c1 := (nI_leI (by omega) (by omega)).mp c
      have e : j = kn := by omega
      rw [e] at hac
      rw [hend acc hac] at hl
      exact kx G H locs ls hI hY (lv_sub hl [1, 2, 3, 4, 5, 6, 7, 8, 9, 10] rfl)
    · have c1 : j < kn := Nat.not_le.mp (fun q => c (nI_le q (by omega)))
      refine w_column S hE hA hX hbl hbA hlS hLn hcs hPI hwh (by omega) hI hY hl (fun G1 y1 H1 locs1 ls1 hI1 hY1 hl1 => ?_)
      refine lv_iinc (v := nI (j + 1)) (lv' := [(13, .int (nI (j + 1))), (12, .int (nI (acc + nV (ySt2 y g) (yF y) j wd hd * kP (yK y j)))), (7, .int (nI wd)), (8, .int (nI hd)), (9, .int (nI g)), (10, .int (nI (wV (ySt2 y g) (yF y) wd hd))), (6, .int (nI k)), (4, .long d9), (2, .int (nI kn)), (1, .ref hy), (0, .ref b)]) S.1 S.2.1 dL_law_1275 hl1 (k := 0) rfl (nI_add _ 1) (by decide) rfl (fun ls2 hl2 => ?_)
      refine lv_goto (tgt := 1244) S.1 S.2.1 dL_law_1278 (by decide) ?_
      exact ih (j + 1) (acc + nV (ySt2 y g) (yF y) j wd hd * kP (yK y j)) G1 H1 locs1 ls2 (by omega) (by omega) (by rw [hac, sumN_s]) hI1 hY1 hl2
/-- the pieces -/
theorem w_pieces (S : CallFix p m c cL_law 20 s #[Value.ref b] wsL_law RL) (hE : gE K A s s.heap) (hA : ∀ q, s.heap.size ≤ q → A q) (hX : va_X b Ln xs s s.heap) (hbl : b < s.heap.size) (hbA : ¬ A b) (hlS : l.stackTraces = false) (hLn : Ln ≤ 260) (hcs : cells ≤ 600104 ∧ slots ≤ 7301314) (hPI : PI y) (hkc : yKc y = kn) (hkn : 1 ≤ kn ∧ kn ≤ 4)
    (kx : ∀ (k : Nat) (G : gW) (H : Heap) (locs : List Loc) (ls : Array Slot), gI K A s G H locs → YardC K L1 L2 M hy G y → lv_has ls 20 [(6, .int (nI k)), (4, .long d9), (2, .int (nI kn)), (1, .ref hy), (0, .ref b)] → W p l e room_1 s m #[Value.ref b] below meth c H locs cells slots Q (F0 m 1316 ls [])) :
    ∀ (n k : Nat) (G : gW) (H : Heap) (locs : List Loc) (ls : Array Slot), 4 ≤ k + n → k ≤ 4 → gI K A s G H locs → YardC K L1 L2 M hy G y → lv_has ls 20 [(6, .int (nI k)), (4, .long d9), (2, .int (nI kn)), (1, .ref hy), (0, .ref b)] → W p l e room_1 s m #[Value.ref b] below meth c H locs cells slots Q (F0 m 1005 ls []) := by
  intro n
  induction n with
  | zero =>
    intro k G H locs ls hn hk hI hY hl
    refine lv_iload S.1 S.2.1 dL_law_1005 (lv_at hl 0 rfl) ?_
    refine lv_iconst (v := nI 4) S.1 S.2.1 dL_law_1007 (by decide) ?_
    refine lv_icmp_ge (tgt := 1316) S.1 S.2.1 dL_law_1008 (by decide) (fun c => ?_) (fun c => ?_)
    · exact kx k G H locs ls hI hY hl
    · exact absurd (nI_le (by omega) (by omega)) c
  | succ n ih =>
    intro k G H locs ls hn hk hI hY hl
    refine lv_iload S.1 S.2.1 dL_law_1005 (lv_at hl 0 rfl) ?_
    refine lv_iconst (v := nI 4) S.1 S.2.1 dL_law_1007 (by decide) ?_
    refine lv_icmp_ge (tgt := 1316) S.1 S.2.1 dL_law_1008 (by decide) (fun _ => ?_) (fun c7 => ?_)
    · exact kx k G H locs ls hI hY hl
    · have c1 : k < 4 := Nat.not_le.mp (fun q => c7 (nI_le q (by omega)))
      refine w_piece S hE hA hX hbl hbA hlS hLn hcs hPI c1 hI hY hl (fun G1 _ H1 locs1 ls1 wd hd g hwh hI1 hY1 hl1 => ?_)
      have nx : ∀ (G2 : gW) (y2 : YV) (H2 : Heap) (locs2 : List Loc) (ls2 : Array Slot), gI K A s G2 H2 locs2 → YardC K L1 L2 M hy G2 y → lv_has ls2 20 [(7, .int (nI wd)), (8, .int (nI hd)), (9, .int (nI g)), (10, .int (nI (wV (ySt2 y g) (yF y) wd hd))), (6, .int (nI k)), (4, .long d9), (2, .int (nI kn)), (1, .ref hy), (0, .ref b)] → W p l e room_1 s m #[Value.ref b] below meth c H2 locs2 cells slots Q (F0 m 1238 ls2 []) := by
        intro G2 _ H2 locs2 ls2 hI2 hY2 hl2
        refine w_c0 S hE hA hX hbl hbA hlS hLn hcs hI2 hY2 hl2 (fun G3 _ H3 locs3 ls3 hI3 hY3 hl3 => ?_)
        refine w_columns S hE hA hX hbl hbA hlS hLn hcs hPI hwh hkc hkn (fun G4 H4 locs4 ls4 hI4 hY4 hl4 => ?_) kn 0 0 G3 H3 locs3 ls3 (by omega) (by omega) rfl hI3 hY3 hl3
        refine w_more S hE hA hX hbl hbA hlS hLn hcs hPI hwh c1 hkc hkn hI4 hY4 hl4 (fun G5 _ H5 locs5 ls5 hI5 hY5 hl5 => ?_)
        refine lv_iinc (v := nI (k + 1)) (lv' := [(6, .int (nI (k + 1))), (4, .long d9), (2, .int (nI kn)), (1, .ref hy), (0, .ref b)]) S.1 S.2.1 dL_law_1310 hl5 (k := 0) rfl (nI_add _ 1) (by decide) rfl (fun ls6 hl6 => ?_)
        refine lv_goto (tgt := 1005) S.1 S.2.1 dL_law_1313 (by decide) ?_
        exact ih (k + 1) G5 H5 locs5 ls6 (by omega) (by omega) hI5 hY5 hl6
      rcases qV_in (st := ySt2 y g) (kf := yF y) (w := wd) (h := hd) with e | ⟨q, -, -, e⟩ | ⟨q, -, -, e⟩
      · rw [e] at hl1
        exact w_cutN S hE hA hX hbl hbA hlS hLn hcs hPI hwh hI1 hY1 hl1 nx
      · rw [e] at hl1
        exact w_cutV S hE hA hX hbl hbA hlS hLn hcs hPI hwh e hI1 hY1 hl1 nx
      · rw [e] at hl1
        exact w_cutH S hE hA hX hbl hbA hlS hLn hcs hPI hwh e hI1 hY1 hl1 nx
set_option maxHeartbeats 4000000 in
set_option maxRecDepth 100000 in
theorem w_init (S : CallFix p m c cL_law 20 s #[Value.ref b] wsL_law RL) (hE : gE K A s s.heap) (hA : ∀ q, s.heap.size ≤ q → A q) (hX : va_X b Ln xs s s.heap) (hbl : b < s.heap.size) (hbA : ¬ A b) (hlS : l.stackTraces = false) (hLn : Ln ≤ 260) (hl : lv_has ls 20 [(0, .ref b)])
    (kk : ∀ (L1 L2 : Nat → Nat → Nat) (M : Nat → Nat) (hy kn : Nat) (G1 : gW) (H1 : Heap) (locs1 : List Loc) (ls1 : Array Slot), (1 ≤ kn ∧ kn ≤ 4) → gI K A s G1 H1 locs1 → YardC K L1 L2 M hy G1 yNew → lv_has ls1 20 [(3, .int (nI 0)), (2, .int (nI kn)), (1, .ref hy), (0, .ref b)] → W p l e room_1 s m #[Value.ref b] below meth c H1 locs1 200 3858 Q (F0 m 22 ls1 [])) : W p l e room_1 s m #[Value.ref b] below meth c s.heap [] 0 0 Q (F0 m 0 ls []) := by
  have hx := S.1
  have hb := S.2.1
  have hml := S.2.2.1
  obtain ⟨G, hG⟩ : ∃ G : gW, G = fun _ => none := ⟨_, rfl⟩
  have hI : gI K A s G s.heap [] := by rw [hG]; exact ⟨⟨fun t a e h => (nomatch h), fun t u a e f h => (nomatch h)⟩, fun t a e h => (nomatch h), va_S.rf⟩
  obtain ⟨H, hHe⟩ : ∃ z, z = s.heap := ⟨_, rfl⟩
  obtain ⟨locs, hLe⟩ : ∃ z : List Loc, z = [] := ⟨_, rfl⟩
  rw [← hHe, ← hLe]
  have hI : gI K A s G H locs := by rw [hHe, hLe]; exact hI
  clear hHe hLe
  refine g_new S hE hI hA (C := RX4) (T := TX4) (N := 3) (ci := 5) (fun w h => (List.mem_append_left _ (List.mem_append_left _ (List.mem_append_left _ (List.mem_append_left _ (List.mem_append_left _ (List.mem_append_left _ (List.mem_append_left _ (List.mem_append_left _ (List.mem_append_right _ h)))))))))) tyX4 tyX4_ok (List.mem_append_left _ (List.mem_append_left _ (List.mem_append_left _ (List.mem_append_left _ (List.mem_append_left _ (List.mem_append_left _ (List.mem_append_left _ (List.mem_append_left _ (List.mem_append_left _ (List.mem_append_left _ (List.mem_of_getElem? (i := 0) rfl))))))))))) (List.mem_append_left _ (List.mem_append_left _ (List.mem_append_left _ (List.mem_append_left _ (List.mem_append_left _ (List.mem_append_left _ (List.mem_append_left _ (List.mem_append_left _ (List.mem_append_left _ (List.mem_append_left _ (List.mem_of_getElem? (i := 1) rfl))))))))))) (List.mem_append_left _ (List.mem_append_left _ (List.mem_append_left _ (List.mem_append_left _ (List.mem_append_left _ (List.mem_append_left _ (List.mem_append_left _ (List.mem_append_left _ (List.mem_append_left _ (List.mem_append_left _ (List.mem_of_getElem? (i := 2) rfl))))))))))) rfl (fs := [.null, .null, .null]) (fun j hj => by rcases (show j = 0 ∨ j = 1 ∨ j = 2 by omega) with rfl | rfl | rfl <;> rfl) (4, 20, 0) (by show _ ≤ 600104; omega) (by show _ ≤ 7301314; omega) dL_law_0 (fun q_0 H hq_0 hI => ?_)
  obtain ⟨G_1, hG_1⟩ : ∃ z, z = gset G (4, 20, 0) q_0 (.inr (5, [.null, .null, .null])) := ⟨_, rfl⟩
  have hI : gI K A s G_1 H locs := by rw [hG_1]; exact hI
  have yd_G_1 : G_1 (4, 20, 0) = some (q_0, .inr (5, [.null, .null, .null])) := by rw [hG_1]; exact gset_eq _ _ _ _
  refine lv_dup hx hb dL_law_3 rfl ?_
  refine g_callI (As := []) (rest := [.ref q_0]) (b := q_0) (n := 0) S hE hI hA (c_X4_init l K _ q_0 yd_G_1) gL_law_X4_init rfl (List.mem_append_left _ (List.mem_append_left _ (List.mem_append_left _ (List.mem_append_left _ (List.mem_append_left _ (List.mem_append_left _ (List.mem_append_left _ (List.mem_append_left _ (List.mem_append_left _ (List.mem_append_left _ (List.mem_of_getElem? (i := 2) rfl))))))))))) (List.mem_append_left _ (List.mem_append_left _ (List.mem_append_left _ (List.mem_append_left _ (List.mem_append_left _ (List.mem_append_left _ (List.mem_append_left _ (List.mem_append_left _ (List.mem_append_left _ (List.mem_append_left _ (List.mem_of_getElem? (i := 3) rfl))))))))))) (List.mem_append_left _ (List.mem_append_left _ (List.mem_append_left _ (List.mem_append_left _ (List.mem_append_left _ (List.mem_append_left _ (List.mem_append_left _ (List.mem_append_left _ (List.mem_append_left _ (List.mem_append_left _ (List.mem_of_getElem? (i := 4) rfl))))))))))) rfl (by decide +kernel) ⟨Nat.le_of_ble_eq_true rfl, Nat.le_of_ble_eq_true rfl⟩ rfl hl.1 rfl (Nat.le_of_ble_eq_true rfl) dL_law_4 ⟨by show _ ≤ 600104; omega, by show _ ≤ 7301314; omega⟩ (fun E ce q9 Gx H1 locs1 hx9 => hx9.elim) (fun rv Gc_4 H locs hp hI => ?_)
  obtain ⟨rfl, ⟨L1, L2, M, hY1⟩, ha1⟩ := hp
  have hcs : 0 + 1 + 199 ≤ 600104 ∧ 0 + 3 + 3855 ≤ 7301314 := ⟨by omega, by omega⟩
  refine W.eq (g2 := F0 m 7 ls [.ref q_0]) rfl ?_
  refine lv_astore_n (lv' := [(1, .ref q_0), (0, .ref b)]) hx hb dL_law_7 rfl hl (by decide) rfl (fun ls hl => ?_)
  refine lv_iconst (v := nI 1) hx hb dL_law_8 (by decide) ?_
  refine lv_aload_n hx hb dL_law_9 rfl (lv_at hl 1 rfl) ?_
  refine lv_iconst (v := nI 0) hx hb dL_law_10 (by decide) ?_
  refine g_callCell (rest := [.int (nI 1)]) S hE hI hA hX hbl hbA hLn (k := 0) (by omega) gL_law_L_cell ⟨Nat.le_of_ble_eq_true rfl, Nat.le_of_ble_eq_true rfl⟩ hl.1 (Nat.le_of_ble_eq_true rfl) dL_law_11 hcs (fun x_11 H locs hI => ?_)
  refine W.eq (g2 := F0 m 14 ls [.int x_11, .int (nI 1)]) rfl ?_
  refine lv_iconst (v := nI 4) hx hb dL_law_14 (by decide) ?_
  refine g_callS0 (As := [.int x_11, .int (nI 4)]) (rest := [.int (nI 1)]) (n := 2) S hE hI hA (c_L_below l K _ x_11 4 ⟨by omega, by omega⟩) gL_law_L_below rfl (by decide +kernel) ⟨Nat.le_of_ble_eq_true rfl, Nat.le_of_ble_eq_true rfl⟩ rfl hl.1 rfl (Nat.le_of_ble_eq_true rfl) dL_law_15 hcs (fun rv Gc_15 H locs hp hI => ?_)
  obtain ⟨⟨r_15, hr_15, rfl⟩, hq9⟩ := hp
  rw [hq9] at hI
  refine W.eq (g2 := F0 m 18 ls [.int (nI r_15), .int (nI 1)]) rfl ?_
  refine t_iadd hx hb dL_law_18 (nI_add _ _) ?_
  refine lv_istore_n (lv' := [(2, .int (nI (1 + r_15))), (1, .ref q_0), (0, .ref b)]) hx hb dL_law_19 rfl hl (by decide) rfl (fun ls hl => ?_)
  refine lv_iconst (v := nI 0) hx hb dL_law_20 (by decide) ?_
  refine lv_istore_n (lv' := [(3, .int (nI 0)), (2, .int (nI (1 + r_15))), (1, .ref q_0), (0, .ref b)]) hx hb dL_law_21 rfl hl (by decide) rfl (fun ls hl => ?_)
  exact W.widen (by omega) (by omega) (kk L1 L2 M q_0 (1 + r_15) _ _ _ _ ⟨by omega, by omega⟩ hI hY1 (lv_sub hl [0,1,2,3] rfl))
end GL3
/-- the law comes to its end with true, whatever the script -/
theorem law_start {p : Program} {e : Env} {s : State} {m : MethodId} {below : List Frame} {meth : Method} {c : Code} (l : Launch) (hflags : l.flags = flags0) {b L : Nat} {xs : Nat → Int32} (hL : L ≤ 260) (C0 : lw_At p s m meth c b L xs) : W p l e room_1 s m #[Value.ref b] below meth c s.heap [] 0 0 (lw_Z below #[Value.ref b] s) (entryFrame m ([Value.ref b] : List Value).toArray 20) := by
  obtain ⟨hx, hb, hr, hml, hown, hts, hX, hbl, hlocks, hgv⟩ := id C0
  obtain ⟨K, hE⟩ := lb_world hts
  have hlS : l.stackTraces = false := by rw [Launch.stackTraces, hflags]; decide +kernel
  have hbA : ¬ (fun q : Nat => s.heap.size ≤ q) b := Nat.not_le.mpr hbl
  have hA : ∀ q, s.heap.size ≤ q → (fun q : Nat => s.heap.size ≤ q) q := fun _ h => h
  have hl := lv_entry ([.ref b]) (n := 20) (Nat.le_of_ble_eq_true rfl)
  rw [lg_entry_eq]
  generalize (lg_sl ([.ref b]) ++ List.replicate (20 - (lg_sl ([.ref b])).length) Slot.unset).toArray = ls at hl ⊢
  have hl : lv_has ls 20 [(0, .ref b)] := hl
  have S : CallFix p m c cL_law 20 s #[Value.ref b] wsL_law RL := ⟨hx, hb, hml, hown, fun w h => hts w (wsL_law_in w h)⟩
  have hcs : 200 ≤ 600104 ∧ 3858 ≤ 7301314 := ⟨by decide, by decide⟩
  refine w_init S hE hA hX hbl hbA hlS hL hl (fun L1 L2 M hy kn G1 H1 locs1 ls1 hkn hI1 hY1 hl1 => ?_)
  refine w_kinds S hE hA hX hbl hbA hlS hL hcs hkn (fun G2 y2 H2 locs2 ls2 hKI hI2 hY2 hl2 => ?_) kn 0 G1 yNew H1 locs1 ls1 (by omega) (by omega) KI_new hI1 hY1 hl1
  refine w_mid S hE hA hX hbl hbA hlS hL hcs hKI hI2 hY2 hl2 (fun G3 _ H3 locs3 ls3 hI3 hY3 hl3 => ?_)
  refine w_main S hE hA hX hbl hbA hlS hL hcs hkn (fun G4 y4 H4 locs4 ls4 hPI hkc hI4 hY4 hl4 => ?_) 30 0 G3 y2 H3 locs3 ls3 (by omega) (by omega) hKI.1 hKI.2.2.2 (by rw [hKI.2.2.1]; exact Nat.zero_le _) hI3 hY3 hl3
  refine w_dig S hE hA hX hbl hbA hlS hL hcs hI4 hY4 hl4 (fun G5 _ H5 locs5 ls5 hI5 hY5 hl5 => ?_)
  refine w_slabs S hE hA hX hbl hbA hlS hL hcs hPI.2.1 (fun k6 G6 H6 locs6 ls6 hI6 hY6 hl6 => ?_) (ySc y4) 0 G5 H5 locs5 ls5 (by omega) (by omega) hI5 hY5 hl5
  refine w_p0 S hE hA hX hbl hbA hlS hL hcs hI6 hY6 hl6 (fun G7 _ H7 locs7 ls7 hI7 hY7 hl7 => ?_)
  refine w_pieces S hE hA hX hbl hbA hlS hL hcs hPI hkc hkn (fun k8 G8 H8 locs8 ls8 hI8 hY8 hl8 => ?_) 4 0 G7 H7 locs7 ls7 (by omega) (by omega) hI7 hY7 hl7
  refine w_end S hE hA hX hbl hbA hlS hL hcs hI8 hY8 hl8 (fun G9 H9 locs9 {ls9} hI9 => ?_)
  refine va_forget (fun q hq => hI9.2.2.2.2 q hq) ?_
  refine W.widen (show 200 ≤ 600104 from Nat.le_of_ble_eq_true rfl) (show 3858 ≤ 7301314 from Nat.le_of_ble_eq_true rfl) ?_
  exact lw_ret hx hb hr hlocks dL_law_1331
