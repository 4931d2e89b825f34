/-! the law's walk: its start, its loop, its end -/
section GM
variable {p : Program} {l : Launch} {e : Env} {s : State} {m : MethodId} {below : List Frame} {meth : Method} {c : Code} {H : Heap} {locs : List Loc} {cells slots : Nat} {Q : State → Prop}
variable {b Ln : Nat} {xs : Nat → Int32} {ls : Array Slot} {K : gK} {A : Nat → Prop} {G : gW} {L1 L2 : Nat → Nat → Nat} {M : Nat → Nat} {hy ho h0 i : Nat} {y : YV}
theorem law_head (S : CallFix p m c cL_law 9 s #[Value.ref b] wsL_law RL) (hX : va_X b Ln xs s s.heap) (hbl : b < s.heap.size) (hbA : ¬ A b) (hLn : Ln ≤ 2560) (hI : gI K A s G H locs) (hi : i ≤ 2560) (hl : lv_has ls 9 [(4, .int (nI i)), (3, .ref ho), (2, .ref h0), (1, .ref hy), (0, .ref b)])
    (kx : Ln < i + 5 → W p l e room_1 s m #[Value.ref b] below meth c H locs cells slots Q (F0 m 1769 ls [])) (kb : i + 5 ≤ Ln → W p l e room_1 s m #[Value.ref b] below meth c H locs cells slots Q (F0 m 32 ls [])) : W p l e room_1 s m #[Value.ref b] below meth c H locs cells slots Q (F0 m 23 ls []) := by
  have hx := S.1
  have hb := S.2.1
  refine lv_iload hx hb dL_law_23 (lv_at hl 0 rfl) ?_
  refine lv_aload_n hx hb dL_law_25 rfl (lv_at hl 4 rfl) ?_
  refine va_slen hx hb hX hbl hbA hI.2.2 dL_law_26 ?_
  refine lv_iconst (v := nI 5) hx hb dL_law_27 (by decide) ?_
  refine lv_isub hx hb dL_law_28 ?_
  exact lv_icmp_gt (tgt := 1769) hx hb dL_law_29 (by decide) (fun h => kx ((lb_gt (by omega) hLn).mp h)) (fun h => kb (Nat.not_lt.mp (fun z => h ((lb_gt (by omega) hLn).mpr z))))
theorem law_body (S : CallFix p m c cL_law 9 s #[Value.ref b] wsL_law RL) (hE : gE K A s s.heap) (hA : ∀ q, s.heap.size ≤ q → A q) (hX : va_X b Ln xs s s.heap) (hbl : b < s.heap.size) (hbA : ¬ A b) (hlS : l.stackTraces = false) (hLn : Ln ≤ 2560) (hI : gI K A s G H locs) (hLI : LI K L1 L2 M hy ho h0 G y) (hi : i + 5 ≤ Ln) (hl : lv_has ls 9 [(4, .int (nI i)), (3, .ref ho), (2, .ref h0), (1, .ref hy), (0, .ref b)]) (hcs : cells + 1040 ≤ 601024 ∧ slots + 12000 ≤ 7293034)
    (kk : ∀ (G1 : gW) (y1 : YV) (H1 : Heap) (locs1 : List Loc) (ls1 : Array Slot), gI K A s G1 H1 locs1 → LI K L1 L2 M hy ho h0 G1 y1 → lv_has ls1 9 [(4, .int (nI i)), (3, .ref ho), (2, .ref h0), (1, .ref hy), (0, .ref b)] → W p l e room_1 s m #[Value.ref b] below meth c H1 locs1 (cells + 1040) (slots + 12000) Q (F0 m 1763 ls1 [])) : W p l e room_1 s m #[Value.ref b] below meth c H locs cells slots Q (F0 m 32 ls []) := by
  have hx := S.1
  have hb := S.2.1
  refine lv_aload_n hx hb dL_law_32 rfl (lv_at hl 4 rfl) ?_
  refine lv_iload hx hb dL_law_33 (lv_at hl 0 rfl) ?_
  refine g_sld S hI hX hbl hbA (j := i) (by omega) (by omega) dL_law_35 ?_
  refine lv_bipush (v := nI 31) hx hb dL_law_36 (by decide) ?_
  refine lv_iand hx hb dL_law_38 ?_
  obtain ⟨n, hn, hop⟩ := lb_op (xs i)
  rw [hop]
  clear hop
  match n, hn with
  | 0, _ =>
    refine lv_tableIn (tgt := 148) (off := 109) hx hb dL_law_39 (by decide +kernel) (by decide +kernel) (by decide +kernel) (by decide) ?_
    exact k_slab S hE hA hX hbl hbA hlS hLn hI hLI hi hl hcs kk
  | 1, _ =>
    refine lv_tableIn (tgt := 228) (off := 189) hx hb dL_law_39 (by decide +kernel) (by decide +kernel) (by decide +kernel) (by decide) ?_
    exact k_flaw S hE hA hX hbl hbA hlS hLn hI hLI hi hl hcs kk
  | 2, _ =>
    refine lv_tableIn (tgt := 308) (off := 269) hx hb dL_law_39 (by decide +kernel) (by decide +kernel) (by decide +kernel) (by decide) ?_
    exact k_kerf S hE hA hX hbl hbA hlS hLn hI hLI hi hl hcs kk
  | 3, _ =>
    refine lv_tableIn (tgt := 364) (off := 325) hx hb dL_law_39 (by decide +kernel) (by decide +kernel) (by decide +kernel) (by decide) ?_
    exact k_cut S hE hA hX hbl hbA hlS hLn hI hLI hi hl hcs kk
  | 4, _ =>
    refine lv_tableIn (tgt := 460) (off := 421) hx hb dL_law_39 (by decide +kernel) (by decide +kernel) (by decide +kernel) (by decide) ?_
    exact k_toss S hE hA hX hbl hbA hlS hLn hI hLI hi hl hcs kk
  | 5, _ =>
    refine lv_tableIn (tgt := 516) (off := 477) hx hb dL_law_39 (by decide +kernel) (by decide +kernel) (by decide +kernel) (by decide) ?_
    exact k_ofSlab S hE hA hX hbl hbA hlS hLn hI hLI hi hl hcs kk
  | 6, _ =>
    refine lv_tableIn (tgt := 584) (off := 545) hx hb dL_law_39 (by decide +kernel) (by decide +kernel) (by decide +kernel) (by decide) ?_
    exact k_flawsAt S hE hA hX hbl hbA hlS hLn hI hLI hi hl hcs kk
  | 7, _ =>
    refine lv_tableIn (tgt := 664) (off := 625) hx hb dL_law_39 (by decide +kernel) (by decide +kernel) (by decide +kernel) (by decide) ?_
    exact k_root S hE hA hX hbl hbA hlS hLn hI hLI hi hl hcs kk
  | 8, _ =>
    refine lv_tableIn (tgt := 720) (off := 681) hx hb dL_law_39 (by decide +kernel) (by decide +kernel) (by decide +kernel) (by decide) ?_
    exact k_kind S hE hA hX hbl hbA hlS hLn hI hLI hi hl hcs kk
  | 9, _ =>
    refine lv_tableIn (tgt := 800) (off := 761) hx hb dL_law_39 (by decide +kernel) (by decide +kernel) (by decide +kernel) (by decide) ?_
    exact k_let S hE hA hX hbl hbA hlS hLn hI hLI hi hl hcs kk
  | 10, _ =>
    refine lv_tableIn (tgt := 880) (off := 841) hx hb dL_law_39 (by decide +kernel) (by decide +kernel) (by decide +kernel) (by decide) ?_
    exact k_order S hE hA hX hbl hbA hlS hLn hI hLI hi hl hcs kk
  | 11, _ =>
    refine lv_tableIn (tgt := 948) (off := 909) hx hb dL_law_39 (by decide +kernel) (by decide +kernel) (by decide +kernel) (by decide) ?_
    exact k_ofKind S hE hA hX hbl hbA hlS hLn hI hLI hi hl hcs kk
  | 12, _ =>
    refine lv_tableIn (tgt := 1016) (off := 977) hx hb dL_law_39 (by decide +kernel) (by decide +kernel) (by decide +kernel) (by decide) ?_
    exact k_fits S hE hA hX hbl hbA hlS hLn hI hLI hi hl hcs kk
  | 13, _ =>
    refine lv_tableIn (tgt := 1084) (off := 1045) hx hb dL_law_39 (by decide +kernel) (by decide +kernel) (by decide +kernel) (by decide) ?_
    exact k_take S hE hA hX hbl hbA hlS hLn hI hLI hi hl hcs kk
  | 14, _ =>
    refine lv_tableIn (tgt := 1152) (off := 1113) hx hb dL_law_39 (by decide +kernel) (by decide +kernel) (by decide +kernel) (by decide) ?_
    exact k_plan S hE hA hX hbl hbA hlS hLn hI hLI hi hl hcs kk
  | 15, _ =>
    refine lv_tableIn (tgt := 1208) (off := 1169) hx hb dL_law_39 (by decide +kernel) (by decide +kernel) (by decide +kernel) (by decide) ?_
    exact k_many S hE hA hX hbl hbA hlS hLn hI hLI hi hl hcs kk
  | 16, _ =>
    refine lv_tableIn (tgt := 1264) (off := 1225) hx hb dL_law_39 (by decide +kernel) (by decide +kernel) (by decide +kernel) (by decide) ?_
    exact k_mean S hE hA hX hbl hbA hlS hLn hI hLI hi hl hcs kk
  | 17, _ =>
    refine lv_tableIn (tgt := 1305) (off := 1266) hx hb dL_law_39 (by decide +kernel) (by decide +kernel) (by decide +kernel) (by decide) ?_
    exact k_worth S hE hA hX hbl hbA hlS hLn hI hLI hi hl hcs kk
  | 18, _ =>
    refine lv_tableIn (tgt := 1385) (off := 1346) hx hb dL_law_39 (by decide +kernel) (by decide +kernel) (by decide +kernel) (by decide) ?_
    exact k_bestCut S hE hA hX hbl hbA hlS hLn hI hLI hi hl hcs kk
  | 19, _ =>
    refine lv_tableIn (tgt := 1465) (off := 1426) hx hb dL_law_39 (by decide +kernel) (by decide +kernel) (by decide +kernel) (by decide) ?_
    exact k_column S hE hA hX hbl hbA hlS hLn hI hLI hi hl hcs kk
  | 20, _ =>
    refine lv_tableIn (tgt := 1557) (off := 1518) hx hb dL_law_39 (by decide +kernel) (by decide +kernel) (by decide +kernel) (by decide) ?_
    exact k_worthMore S hE hA hX hbl hbA hlS hLn hI hLI hi hl hcs kk
  | 21, _ =>
    refine lv_tableIn (tgt := 1625) (off := 1586) hx hb dL_law_39 (by decide +kernel) (by decide +kernel) (by decide +kernel) (by decide) ?_
    exact k_wasteBy S hE hA hX hbl hbA hlS hLn hI hLI hi hl hcs kk
  | 22, _ =>
    refine lv_tableIn (tgt := 1693) (off := 1654) hx hb dL_law_39 (by decide +kernel) (by decide +kernel) (by decide +kernel) (by decide) ?_
    exact k_planPays S hE hA hX hbl hbA hlS hLn hI hLI hi hl hcs kk
  | 23, _ =>
    refine lv_tableIn (tgt := 1749) (off := 1710) hx hb dL_law_39 (by decide +kernel) (by decide +kernel) (by decide +kernel) (by decide) ?_
    exact k_digest S hE hA hX hbl hbA hlS hLn hI hLI hi hl hcs kk
  | n + 24, hn =>
    refine lv_tableOut (tgt := 1763) hx hb dL_law_39 (Or.inr (by rw [nI_toInt (by omega)]; omega)) (by decide) ?_
    exact W.widen (Nat.le_add_right _ _) (Nat.le_add_right _ _) (kk G y H locs ls hI hLI hl)
theorem law_loop (S : CallFix p m c cL_law 9 s #[Value.ref b] wsL_law RL) (hE : gE K A s s.heap) (hA : ∀ q, s.heap.size ≤ q → A q) (hX : va_X b Ln xs s s.heap) (hbl : b < s.heap.size) (hbA : ¬ A b) (hlS : l.stackTraces = false) (hLn : Ln ≤ 2560)
    (kx : ∀ (i : Nat) (G : gW) (H : Heap) (locs : List Loc) (ls : Array Slot) (cells slots : Nat), gI K A s G H locs → lv_has ls 9 [(4, .int (nI i)), (3, .ref ho), (2, .ref h0), (1, .ref hy), (0, .ref b)] → cells ≤ 601024 → slots ≤ 7293034 → W p l e room_1 s m #[Value.ref b] below meth c H locs cells slots Q (F0 m 1769 ls [])) :
    ∀ (n i : Nat) (G : gW) (y : YV) (H : Heap) (locs : List Loc) (ls : Array Slot) (cells slots : Nat), Ln < i + 5 * n + 5 → i ≤ 2560 → cells + 1040 * n ≤ 601024 → slots + 12000 * n ≤ 7293034 → gI K A s G H locs → LI K L1 L2 M hy ho h0 G y → lv_has ls 9 [(4, .int (nI i)), (3, .ref ho), (2, .ref h0), (1, .ref hy), (0, .ref b)] → W p l e room_1 s m #[Value.ref b] below meth c H locs cells slots Q (F0 m 23 ls []) := by
  intro n
  induction n with
  | zero =>
    intro i G y H locs ls cells slots hn hi hc hs hI hLI hl
    exact law_head S hX hbl hbA hLn hI hi hl (fun _ => kx i G H locs ls cells slots hI hl (Nat.le_trans (Nat.le_add_right _ _) hc) (Nat.le_trans (Nat.le_add_right _ _) hs)) (fun z => absurd z (by omega))
  | succ n ih =>
    intro i G y H locs ls cells slots hn hi hc hs hI hLI hl
    refine law_head S hX hbl hbA hLn hI hi hl (fun _ => kx i G H locs ls cells slots hI hl (Nat.le_trans (Nat.le_add_right _ _) hc) (Nat.le_trans (Nat.le_add_right _ _) hs)) (fun h5 => ?_)
    rw [Nat.mul_add, Nat.mul_one] at hc hs
    generalize hz1 : 1040 * n = z1 at hc ih
    generalize hz2 : 12000 * n = z2 at hs ih
    refine law_body S hE hA hX hbl hbA hlS hLn hI hLI h5 hl ⟨Nat.le_trans (Nat.add_le_add_left (Nat.le_add_left _ _) _) hc, Nat.le_trans (Nat.add_le_add_left (Nat.le_add_left _ _) _) hs⟩ (fun G1 y1 H1 locs1 ls1 hI1 hLI1 hl1 => ?_)
    refine lv_iinc (v := nI (i + 5)) (lv' := [(4, .int (nI (i + 5))), (3, .ref ho), (2, .ref h0), (1, .ref hy), (0, .ref b)]) S.1 S.2.1 dL_law_1763 hl1 (k := 0) rfl (nI_add _ 5) (by decide) rfl (fun ls2 hl2 => ?_)
    refine lv_goto (tgt := 23) S.1 S.2.1 dL_law_1766 (by decide) ?_
    exact ih (i + 5) G1 y1 H1 locs1 ls2 (cells + 1040) (slots + 12000) (by omega) (by omega) (by omega) (by omega) hI1 hLI1 hl2
set_option maxHeartbeats 4000000 in
set_option maxRecDepth 100000 in
theorem law_init (S : CallFix p m c cL_law 9 s #[Value.ref b] wsL_law RL) (hE : gE K A s s.heap) (hA : ∀ q, s.heap.size ≤ q → A q) (hl : lv_has ls 9 [(0, .ref b)])
    (kk : ∀ (L1 L2 : Nat → Nat → Nat) (M : Nat → Nat) (hy ho h0 : Nat) (G1 : gW) (H1 : Heap) (locs1 : List Loc) (ls1 : Array Slot), gI K A s G1 H1 locs1 → LI K L1 L2 M hy ho h0 G1 yNew → lv_has ls1 9 [(4, .int (nI 0)), (3, .ref ho), (2, .ref h0), (1, .ref hy), (0, .ref b)] → W p l e room_1 s m #[Value.ref b] below meth c H1 locs1 205 3880 Q (F0 m 23 ls1 [])) : W p l e room_1 s m #[Value.ref b] below meth c s.heap [] 0 0 Q (F0 m 0 ls []) := by
  have hx := S.1
  have hb := S.2.1
  have hml := S.2.2.1
  obtain ⟨G, hG⟩ : ∃ G : gW, G = fun _ => none := ⟨_, rfl⟩
  have hI : gI K A s G s.heap [] := by rw [hG]; exact ⟨⟨fun t a e h => (nomatch h), fun t u a e f h => (nomatch h)⟩, fun t a e h => (nomatch h), va_S.rf⟩
  obtain ⟨H, hHe⟩ : ∃ z, z = s.heap := ⟨_, rfl⟩
  obtain ⟨locs, hLe⟩ : ∃ z : List Loc, z = [] := ⟨_, rfl⟩
  rw [← hHe, ← hLe]
  have hI : gI K A s G H locs := by rw [hHe, hLe]; exact hI
  clear hHe hLe
  refine g_new S hE hI hA (C := RX4) (T := TX4) (N := 3) (ci := 5) (fun w h => (List.mem_append_left _ (List.mem_append_left _ (List.mem_append_left _ (List.mem_append_left _ (List.mem_append_left _ (List.mem_append_left _ (List.mem_append_left _ (List.mem_append_left _ (List.mem_append_left _ (List.mem_append_left _ (List.mem_append_left _ (List.mem_append_left _ (List.mem_append_left _ (List.mem_append_right _ h))))))))))))))) tyX4 tyX4_ok (List.mem_append_left _ (List.mem_append_left _ (List.mem_append_left _ (List.mem_append_left _ (List.mem_append_left _ (List.mem_append_left _ (List.mem_append_left _ (List.mem_append_left _ (List.mem_append_left _ (List.mem_append_left _ (List.mem_append_left _ (List.mem_append_left _ (List.mem_append_left _ (List.mem_append_left _ (List.mem_append_left _ (List.mem_of_getElem? (i := 0) rfl)))))))))))))))) (List.mem_append_left _ (List.mem_append_left _ (List.mem_append_left _ (List.mem_append_left _ (List.mem_append_left _ (List.mem_append_left _ (List.mem_append_left _ (List.mem_append_left _ (List.mem_append_left _ (List.mem_append_left _ (List.mem_append_left _ (List.mem_append_left _ (List.mem_append_left _ (List.mem_append_left _ (List.mem_append_left _ (List.mem_of_getElem? (i := 1) rfl)))))))))))))))) (List.mem_append_left _ (List.mem_append_left _ (List.mem_append_left _ (List.mem_append_left _ (List.mem_append_left _ (List.mem_append_left _ (List.mem_append_left _ (List.mem_append_left _ (List.mem_append_left _ (List.mem_append_left _ (List.mem_append_left _ (List.mem_append_left _ (List.mem_append_left _ (List.mem_append_left _ (List.mem_append_left _ (List.mem_of_getElem? (i := 2) rfl)))))))))))))))) rfl (fs := [.null, .null, .null]) (fun j hj => by rcases (show j = 0 ∨ j = 1 ∨ j = 2 by omega) with rfl | rfl | rfl <;> rfl) (4, 20, 0) (by show _ ≤ 601024; omega) (by show _ ≤ 7293034; omega) dL_law_0 (fun q_0 H hq_0 hI => ?_)
  obtain ⟨G_1, hG_1⟩ : ∃ z, z = gset G (4, 20, 0) q_0 (.inr (5, [.null, .null, .null])) := ⟨_, rfl⟩
  have hI : gI K A s G_1 H locs := by rw [hG_1]; exact hI
  have yd_G_1 : G_1 (4, 20, 0) = some (q_0, .inr (5, [.null, .null, .null])) := by rw [hG_1]; exact gset_eq _ _ _ _
  refine lv_dup hx hb dL_law_3 rfl ?_
  refine g_callI (As := []) (rest := [.ref q_0]) (b := q_0) (n := 0) S hE hI hA (c_X4_init l K _ q_0 yd_G_1) gL_law_X4_init rfl (List.mem_append_left _ (List.mem_append_left _ (List.mem_append_left _ (List.mem_append_left _ (List.mem_append_left _ (List.mem_append_left _ (List.mem_append_left _ (List.mem_append_left _ (List.mem_append_left _ (List.mem_append_left _ (List.mem_append_left _ (List.mem_append_left _ (List.mem_append_left _ (List.mem_append_left _ (List.mem_append_left _ (List.mem_of_getElem? (i := 2) rfl)))))))))))))))) (List.mem_append_left _ (List.mem_append_left _ (List.mem_append_left _ (List.mem_append_left _ (List.mem_append_left _ (List.mem_append_left _ (List.mem_append_left _ (List.mem_append_left _ (List.mem_append_left _ (List.mem_append_left _ (List.mem_append_left _ (List.mem_append_left _ (List.mem_append_left _ (List.mem_append_left _ (List.mem_append_left _ (List.mem_of_getElem? (i := 7) rfl)))))))))))))))) (List.mem_append_left _ (List.mem_append_left _ (List.mem_append_left _ (List.mem_append_left _ (List.mem_append_left _ (List.mem_append_left _ (List.mem_append_left _ (List.mem_append_left _ (List.mem_append_left _ (List.mem_append_left _ (List.mem_append_left _ (List.mem_append_left _ (List.mem_append_left _ (List.mem_append_left _ (List.mem_append_left _ (List.mem_of_getElem? (i := 8) rfl)))))))))))))))) rfl (by decide +kernel) ⟨Nat.le_of_ble_eq_true rfl, Nat.le_of_ble_eq_true rfl⟩ rfl hl.1 rfl (Nat.le_of_ble_eq_true rfl) dL_law_4 ⟨by show _ ≤ 601024; omega, by show _ ≤ 7293034; omega⟩ (fun E ce q9 Gx H1 locs1 hx9 => hx9.elim) (fun rv Gc_4 H locs hp hI => ?_)
  obtain ⟨rfl, ⟨L1, L2, M, hY1⟩, ha1⟩ := hp
  refine W.eq (g2 := F0 m 7 ls [.ref q_0]) rfl ?_
  refine lv_astore_n (lv' := [(1, .ref q_0), (0, .ref b)]) hx hb dL_law_7 rfl hl (by decide) rfl (fun ls hl => ?_)
  refine g_new S hE hI hA (C := RX8) (T := TX8) (N := 2) (ci := 9) (fun w h => (List.mem_append_left _ (List.mem_append_left _ (List.mem_append_left _ (List.mem_append_left _ (List.mem_append_left _ (List.mem_append_left _ (List.mem_append_left _ (List.mem_append_left _ (List.mem_append_left _ (List.mem_append_left _ (List.mem_append_left _ (List.mem_append_left _ (List.mem_append_right _ h)))))))))))))) tyX8 tyX8_ok (List.mem_append_left _ (List.mem_append_left _ (List.mem_append_left _ (List.mem_append_left _ (List.mem_append_left _ (List.mem_append_left _ (List.mem_append_left _ (List.mem_append_left _ (List.mem_append_left _ (List.mem_append_left _ (List.mem_append_left _ (List.mem_append_left _ (List.mem_append_left _ (List.mem_append_left _ (List.mem_append_left _ (List.mem_of_getElem? (i := 3) rfl)))))))))))))))) (List.mem_append_left _ (List.mem_append_left _ (List.mem_append_left _ (List.mem_append_left _ (List.mem_append_left _ (List.mem_append_left _ (List.mem_append_left _ (List.mem_append_left _ (List.mem_append_left _ (List.mem_append_left _ (List.mem_append_left _ (List.mem_append_left _ (List.mem_append_left _ (List.mem_append_left _ (List.mem_append_left _ (List.mem_of_getElem? (i := 4) rfl)))))))))))))))) (List.mem_append_left _ (List.mem_append_left _ (List.mem_append_left _ (List.mem_append_left _ (List.mem_append_left _ (List.mem_append_left _ (List.mem_append_left _ (List.mem_append_left _ (List.mem_append_left _ (List.mem_append_left _ (List.mem_append_left _ (List.mem_append_left _ (List.mem_append_left _ (List.mem_append_left _ (List.mem_append_left _ (List.mem_of_getElem? (i := 5) rfl)))))))))))))))) rfl (fs := [.int (nI 0), .null]) (fun j hj => by rcases (show j = 0 ∨ j = 1 by omega) with rfl | rfl <;> rfl) (9, 0, 0) (by show _ ≤ 601024; omega) (by show _ ≤ 7293034; omega) dL_law_8 (fun q_8 H hq_8 hI => ?_)
  obtain ⟨G_2, hG_2⟩ : ∃ z, z = gset Gc_4 (9, 0, 0) q_8 (.inr (9, [.int (nI 0), .null])) := ⟨_, rfl⟩
  have hI : gI K A s G_2 H locs := by rw [hG_2]; exact hI
  have md_G_2 : G_2 (9, 0, 0) = some (q_8, .inr (9, [.int (nI 0), .null])) := by rw [hG_2]; exact gset_eq _ _ _ _
  have hY2 := hY1.moved (G1 := G_2) (fun t ht => by rw [hG_2]; exact gset_ne (fun z => by rw [z] at ht; exact absurd ht (by decide)))
  refine lv_dup hx hb dL_law_11 rfl ?_
  refine g_callI (As := []) (rest := [.ref q_8]) (b := q_8) (n := 0) S hE hI hA (c_X8_init l K _ q_8 md_G_2) gL_law_X8_init rfl (List.mem_append_left _ (List.mem_append_left _ (List.mem_append_left _ (List.mem_append_left _ (List.mem_append_left _ (List.mem_append_left _ (List.mem_append_left _ (List.mem_append_left _ (List.mem_append_left _ (List.mem_append_left _ (List.mem_append_left _ (List.mem_append_left _ (List.mem_append_left _ (List.mem_append_left _ (List.mem_append_left _ (List.mem_of_getElem? (i := 5) rfl)))))))))))))))) (List.mem_append_left _ (List.mem_append_left _ (List.mem_append_left _ (List.mem_append_left _ (List.mem_append_left _ (List.mem_append_left _ (List.mem_append_left _ (List.mem_append_left _ (List.mem_append_left _ (List.mem_append_left _ (List.mem_append_left _ (List.mem_append_left _ (List.mem_append_left _ (List.mem_append_left _ (List.mem_append_right _ (List.mem_append_right _ (List.mem_append_left _ (List.mem_of_getElem? (i := 2) rfl)))))))))))))))))) (List.mem_append_left _ (List.mem_append_left _ (List.mem_append_left _ (List.mem_append_left _ (List.mem_append_left _ (List.mem_append_left _ (List.mem_append_left _ (List.mem_append_left _ (List.mem_append_left _ (List.mem_append_left _ (List.mem_append_left _ (List.mem_append_left _ (List.mem_append_left _ (List.mem_append_left _ (List.mem_append_right _ (List.mem_append_right _ (List.mem_append_left _ (List.mem_of_getElem? (i := 3) rfl)))))))))))))))))) rfl (by decide +kernel) ⟨Nat.le_of_ble_eq_true rfl, Nat.le_of_ble_eq_true rfl⟩ rfl hl.1 rfl (Nat.le_of_ble_eq_true rfl) dL_law_12 ⟨by show _ ≤ 601024; omega, by show _ ≤ 7293034; omega⟩ (fun E ce q9 Gx H1 locs1 hx9 => hx9.elim) (fun rv Gc_12 H locs hp hI => ?_)
  obtain ⟨rfl, ⟨L, hM1⟩, ha2⟩ := hp
  have hY3 := hY2.moved (fun t ht => ha2 t (Or.inl ht))
  refine W.eq (g2 := F0 m 15 ls [.ref q_8]) rfl ?_
  refine lv_astore_n (lv' := [(2, .ref q_8), (1, .ref q_0), (0, .ref b)]) hx hb dL_law_15 rfl hl (by decide) rfl (fun ls hl => ?_)
  refine lv_iconst (v := nI 1) hx hb dL_law_16 (by decide) ?_
  refine g_newJ S hE hI hA (List.mem_append_left _ (List.mem_append_left _ (List.mem_append_left _ (List.mem_append_left _ (List.mem_append_left _ (List.mem_append_left _ (List.mem_append_left _ (List.mem_append_left _ (List.mem_append_left _ (List.mem_append_left _ (List.mem_append_left _ (List.mem_append_left _ (List.mem_append_left _ (List.mem_append_left _ (List.mem_append_left _ (List.mem_of_getElem? (i := 6) rfl)))))))))))))))) (N' := 1) rfl (by omega) (20, 0, 0) (by show _ ≤ 601024; omega) (by show _ ≤ 7293034; omega) dL_law_17 (fun q_17 H hq_17 hI => ?_)
  obtain ⟨G_3, hG_3⟩ : ∃ z, z = gset Gc_12 (20, 0, 0) q_17 (.inl (K.2.1 1, 1, .inr (.inl (fun _ => 0)))) := ⟨_, rfl⟩
  have hI : gI K A s G_3 H locs := by rw [hG_3]; exact hI
  have out_G_3 : G_3 (20, 0, 0) = some (q_17, .inl (K.2.1 1, 1, .inr (.inl (fun _ => 0)))) := by rw [hG_3]; exact gset_eq _ _ _ _
  have hY4 := hY3.moved (G1 := G_3) (fun t ht => by rw [hG_3]; exact gset_ne (fun z => by rw [z] at ht; exact absurd ht (by decide)))
  have hM2 : MdC K L q_8 0 G_3 yNew 0 := hM1.moved (fun t ht => by rw [hG_3]; exact gset_ne (fun z => by rw [z] at ht; exact absurd ht (by decide)))
  refine lv_astore_n (lv' := [(3, .ref q_17), (2, .ref q_8), (1, .ref q_0), (0, .ref b)]) hx hb dL_law_19 rfl hl (by decide) rfl (fun ls hl => ?_)
  refine lv_iconst (v := nI 0) hx hb dL_law_20 (by decide) ?_
  refine lv_istore (lv' := [(4, .int (nI 0)), (3, .ref q_17), (2, .ref q_8), (1, .ref q_0), (0, .ref b)]) hx hb dL_law_21 hl (by decide) rfl (fun ls hl => ?_)
  exact W.widen (by omega) (by omega) (kk L1 L2 M q_0 q_17 q_8 _ _ _ _ hI ⟨hY4, ⟨L, 0, 0, hM2⟩, fun i hi => absurd hi (Nat.not_lt_zero _), _, out_G_3⟩ (lv_sub hl [0,1,2,3,4] rfl))
end GM
/-- the law comes to its end with true, whatever the script -/
theorem law_start {p : Program} {e : Env} {s : State} {m : MethodId} {below : List Frame} {meth : Method} {c : Code} (l : Launch) (hflags : l.flags = flags0) {b L : Nat} {xs : Nat → Int32} (hL : L ≤ 2560) (C0 : lw_At p s m meth c b L xs) : W p l e room_1 s m #[Value.ref b] below meth c s.heap [] 0 0 (lw_Z below #[Value.ref b] s) (entryFrame m ([Value.ref b] : List Value).toArray 9) := by
  obtain ⟨hx, hb, hr, hml, hown, hts, hX, hbl, hlocks, hgv⟩ := id C0
  obtain ⟨K, hE⟩ := lb_world hts hgv
  have hlS : l.stackTraces = false := by rw [Launch.stackTraces, hflags]; decide +kernel
  have hbA : ¬ (fun q : Nat => s.heap.size ≤ q) b := Nat.not_le.mpr hbl
  have hl := lv_entry ([.ref b]) (n := 9) (Nat.le_of_ble_eq_true rfl)
  rw [lg_entry_eq]
  generalize (lg_sl ([.ref b]) ++ List.replicate (9 - (lg_sl ([.ref b])).length) Slot.unset).toArray = ls at hl ⊢
  have hl : lv_has ls 9 [(0, .ref b)] := hl
  have S : CallFix p m c cL_law 9 s #[Value.ref b] wsL_law RL := ⟨hx, hb, hml, hown, fun w h => hts w (wsL_law_in w h)⟩
  refine law_init S hE (fun q h => h) hl (fun L1 L2 M hy ho h0 G1 H1 locs1 ls1 hI1 hLI1 hl1 => ?_)
  refine law_loop S hE (fun q h => h) hX hbl hbA hlS hL (fun i G H locs ls cells slots hI hl hc hs => ?_) 512 0 G1 yNew H1 locs1 ls1 205 3880 (by omega) (by omega) (by omega) (by omega) hI1 hLI1 hl1
  refine lv_iconst (v := 1) hx hb dL_law_1769 (by decide) ?_
  refine va_forget (fun q hq => hI.2.2.2.2 q hq) ?_
  refine W.widen hc hs ?_
  exact lw_ret (d0 := s.drawn) (Drawn.sameBut.refl s.drawn lw_cs) hx hb hr hlocks dL_law_1770
