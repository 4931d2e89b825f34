/-! the mean area is no NaN -/
def fpG (D : FP.Core.Datum) : Prop := (∃ s, D = .inf s) ∨ ∃ s c q, D = .fin s c q ∧ c < 9007199254740992 ∧ q ≤ FP.Core.b64.qmax
theorem fpG_enc {D : FP.Core.Datum} (h : fpG D) : ∃ (s : Bool) (e t : Nat), FP.Core.encode FP.Core.b64 D = (s.toNat * 2048 + e) * 4503599627370496 + t ∧ (e ≤ 2046 ∧ t < 4503599627370496 ∨ e = 2047 ∧ t = 0) := by
  rcases h with ⟨s, rfl⟩ | ⟨s, c, q, rfl, hc, hq⟩
  · exact ⟨s, 2047, 0, rfl, Or.inr ⟨rfl, rfl⟩⟩
  · by_cases h1 : c < 4503599627370496
    · refine ⟨s, 0, c, ?_, Or.inl ⟨by omega, h1⟩⟩
      show (if c < FP.Core.b64.tails then _ else _) = _
      rw [if_pos (show c < FP.Core.b64.tails from h1)]
      rfl
    · refine ⟨s, (q - FP.Core.b64.qmin).toNat + 1, c - 4503599627370496, ?_, Or.inl ⟨?_, by omega⟩⟩
      · show (if c < FP.Core.b64.tails then _ else _) = _
        rw [if_neg (show ¬ c < FP.Core.b64.tails from h1)]
        rfl
      · rw [show FP.Core.b64.qmin = -1074 from by decide]
        rw [show FP.Core.b64.qmax = 971 from by decide] at hq
        omega
theorem fpG_bits {D : FP.Core.Datum} (h : fpG D) : vf_n64 (UInt64.ofNat (FP.Core.encode FP.Core.b64 D)) := by
  obtain ⟨s, e, t, h1, h2⟩ := fpG_enc h
  rw [h1]
  unfold vf_n64
  rw [UInt64.le_iff_toNat_le, UInt64.toNat_and, UInt64.toNat_ofNat', show (0x7fffffffffffffff : UInt64).toNat = 2 ^ 63 - 1 from by decide, Nat.and_two_pow_sub_one_eq_mod, show (0x7ff0000000000000 : UInt64).toNat = 9218868437227405312 from by decide]
  cases s <;> simp only [Bool.toNat_false, Bool.toNat_true] <;> omega
theorem fpG_nn {D : FP.Core.Datum} (h : fpG D) : FP.Core.decode FP.Core.b64 (UInt64.ofNat (FP.Core.encode FP.Core.b64 D)).toNat ≠ .nan := by
  obtain ⟨s, e, t, h1, h2⟩ := fpG_enc h
  rw [h1, UInt64.toNat_ofNat']
  have hE : FP.Core.fieldE FP.Core.b64 (((s.toNat * 2048 + e) * 4503599627370496 + t) % 2 ^ 64) = e := by
    show (((s.toNat * 2048 + e) * 4503599627370496 + t) % 2 ^ 64) / 4503599627370496 % 2048 = e
    cases s <;> simp only [Bool.toNat_false, Bool.toNat_true] <;> omega
  have hT : FP.Core.fieldT FP.Core.b64 (((s.toNat * 2048 + e) * 4503599627370496 + t) % 2 ^ 64) = t := by
    show (((s.toNat * 2048 + e) * 4503599627370496 + t) % 2 ^ 64) % 4503599627370496 = t
    cases s <;> simp only [Bool.toNat_false, Bool.toNat_true] <;> omega
  unfold FP.Core.decode
  rw [hE, hT]
  split
  · rename_i h3
    have h3 : e = 2047 := h3
    rw [if_pos (by omega)]
    exact fun z => by cases z
  · split
    · exact fun z => by cases z
    · exact fun z => by cases z
theorem fpG_bound {s : Bool} {c : Nat} {q : Int} (hc : c < 9007199254740992) : fpG (FP.Core.bound FP.Core.b64 s c q) := by
  unfold FP.Core.bound
  split
  · rename_i h
    exact Or.inr ⟨s, c, q, rfl, hc, h⟩
  · exact Or.inl ⟨s, rfl⟩
theorem fpG_ratio {s : Bool} {a b : Nat} {e : Int} : fpG (FP.Core.roundRatio FP.Core.b64 s a b e) := by
  unfold FP.Core.roundRatio
  split
  · exact Or.inr ⟨s, 0, _, rfl, by decide, by decide⟩
  · unfold FP.Core.roundAt FP.Core.settle
    split
    · rename_i h
      exact fpG_bound h
    · exact fpG_bound (by decide)
theorem fp_den : ∀ n, n < 41 → 1 ≤ n → (match FP.Core.decode FP.Core.b64 (FP.i2d (nI n)).toNat with | .fin _ d _ => decide (d ≠ 0) | _ => false) = true := by decide +kernel
theorem fp_mean (a n : Nat) (hn : 1 ≤ n) (hn2 : n ≤ 40) : vf_n64 (FP.ddiv (FP.i2d (nI a)) (FP.i2d (nI n))) := by
  have h2 := fp_den n (by omega) hn
  have h1 : FP.Core.decode FP.Core.b64 (FP.i2d (nI a)).toNat ≠ .nan := fpG_nn (D := FP.Core.round FP.Core.b64 (FP.Core.ofInt (nI a).toInt)) fpG_ratio
  show vf_n64 (UInt64.ofNat (FP.Core.encode FP.Core.b64 (FP.Core.quotient FP.Core.b64 (FP.Core.decode FP.Core.b64 (FP.i2d (nI a)).toNat) (FP.Core.decode FP.Core.b64 (FP.i2d (nI n)).toNat))))
  refine fpG_bits ?_
  revert h1 h2
  generalize FP.Core.decode FP.Core.b64 (FP.i2d (nI a)).toNat = x
  generalize FP.Core.decode FP.Core.b64 (FP.i2d (nI n)).toNat = y
  intro h2 h1
  cases y with
  | nan => cases h2
  | inf t => cases h2
  | fin t d r =>
    have hd : d ≠ 0 := of_decide_eq_true h2
    cases x with
    | nan => exact absurd rfl h1
    | inf s => exact Or.inl ⟨_, rfl⟩
    | fin s c q =>
      show fpG (if d = 0 then _ else _)
      rw [if_neg hd]
      exact fpG_ratio
def yMean (y : YV) : UInt64 := if yThere y = 0 then FP.dconst0 else FP.ddiv (FP.i2d (nI (yAreaT y))) (FP.i2d (nI (yThere y)))
set_option maxHeartbeats 4000000 in
set_option maxRecDepth 100000 in
/-- meanArea() -/
theorem c_X4_meanArea (l : Launch) (K : gK) (G : gW) (L1 L2 : Nat → Nat → Nat) (M : Nat → Nat) (hy : Nat) (y : YV) (hlS : l.stackTraces = false) (hy0 : YardC K L1 L2 M hy G y) : gM l yX4_meanArea wsX4_meanArea 4 84 0 0 K [.ref hy] G (fun v G1 => v = some (.double (yMean y)) ∧ G1 = G) (gNo) := by
  refine gM.of (cc := cX4_meanArea) (maxL := 2) (ret := (some .double)) (by decide) rfl (Nat.le_of_ble_eq_true rfl) ?_
  intro p e s m below meth c A S hr hlocks htab hname hE hA hI ls hl
  have hx := S.1
  have hb := S.2.1
  have hml := S.2.2.1
  have hl : lv_has ls 2 [(0, .ref hy)] := hl
  have hs := hy0.2.1
  have hy9 := hy0.1
  have h44 := hs.1.2.2.2.1
  have h6 := hs.1.2.2.2.2.1
  have hf2 := hs.1.2.2.2.2.2
  have hc40 := hy0.2.2.2.2
  have hth : yThere y ≤ 40 := Nat.le_trans (sumN_le (c := 1) (fun i _ => by unfold isT; split <;> decide)) (by omega)
  obtain ⟨H, hHe⟩ : ∃ z, z = s.heap := ⟨_, rfl⟩
  obtain ⟨locs, hLe⟩ : ∃ z : List Loc, z = [] := ⟨_, rfl⟩
  rw [← hHe, ← hLe]
  have hI : gI K A s G H locs := by rw [hHe, hLe]; exact hI
  clear hHe hLe
  refine lv_aload_n hx hb dX4_meanArea_0 rfl (lv_at hl 0 rfl) ?_
  refine g_get S hE hI (C := RX4) (T := TX4) (N := 3) (ref := "StonecutterYard") (fun w h => (List.mem_cons_of_mem _ (List.mem_append_left _ (List.mem_append_left _ (List.mem_append_right _ h))))) hy9 rfl 0 (by decide) (List.mem_cons_of_mem _ (List.mem_append_left _ (List.mem_append_left _ (List.mem_append_left _ (List.mem_of_getElem? (i := 0) rfl))))) (fun _ h9 => h9) (v := .ref (L1 0 0)) rfl dX4_meanArea_1 ?_
  refine g_callV (As := []) (rest := []) (b := (L1 0 0)) (n := 0) S hE hI hA (c_X3_countThere l K _ true 1 L1 y hs) gX4_meanArea_X3_countThere rfl (by decide +kernel) ⟨Nat.le_of_ble_eq_true rfl, Nat.le_of_ble_eq_true rfl⟩ (g_hro hE hI hs.1.1 rfl) rfl hl.1 rfl (Nat.le_of_ble_eq_true rfl) dX4_meanArea_4 ⟨Nat.le_of_ble_eq_true rfl, Nat.le_of_ble_eq_true rfl⟩ (fun E ce q9 Gx H1 locs1 hx9 => hx9.elim) (fun rv Gc_4 H locs hp hI => ?_)
  obtain ⟨rfl, hq9⟩ := hp
  rw [hq9] at hI
  refine W.eq (g2 := F0 m 7 ls [.int (nI (yThere y))]) rfl ?_
  refine lv_istore_n (lv' := [(1, .int (nI (yThere y))), (0, .ref hy)]) hx hb dX4_meanArea_7 rfl hl (by decide) rfl (fun ls hl => ?_)
  refine lv_iload_n hx hb dX4_meanArea_8 rfl (lv_at hl 0 rfl) ?_
  refine lv_if_ne (tgt := 16) hx hb dX4_meanArea_9 (by decide) (fun c_9 => ?_) (fun c_9 => ?_)
  · skip
    have c_9 : (yThere y) ≠ 0 := fun z => c_9 ((nI_eq (a := (yThere y)) (b := 0) (by omega) (by omega)).mpr z)
    refine lv_aload_n hx hb dX4_meanArea_16 rfl (lv_at hl 1 rfl) ?_
    refine g_get S hE hI (C := RX4) (T := TX4) (N := 3) (ref := "StonecutterYard") (fun w h => (List.mem_cons_of_mem _ (List.mem_append_left _ (List.mem_append_left _ (List.mem_append_right _ h))))) hy9 rfl 0 (by decide) (List.mem_cons_of_mem _ (List.mem_append_left _ (List.mem_append_left _ (List.mem_append_left _ (List.mem_of_getElem? (i := 0) rfl))))) (fun _ h9 => h9) (v := .ref (L1 0 0)) rfl dX4_meanArea_17 ?_
    refine g_callV (As := []) (rest := []) (b := (L1 0 0)) (n := 0) S hE hI hA (c_X3_areaThere l K _ true 1 L1 y hs) gX4_meanArea_X3_areaThere rfl (by decide +kernel) ⟨Nat.le_of_ble_eq_true rfl, Nat.le_of_ble_eq_true rfl⟩ (g_hro hE hI hs.1.1 rfl) rfl hl.1 rfl (Nat.le_of_ble_eq_true rfl) dX4_meanArea_20 ⟨Nat.le_of_ble_eq_true rfl, Nat.le_of_ble_eq_true rfl⟩ (fun E ce q9 Gx H1 locs1 hx9 => hx9.elim) (fun rv Gc_20 H locs hp hI => ?_)
    obtain ⟨rfl, hq9⟩ := hp
    rw [hq9] at hI
    refine W.eq (g2 := F0 m 23 ls [.int (nI (yAreaT y))]) rfl ?_
    refine lv_i2d hx hb dX4_meanArea_23 ?_
    refine lv_iload_n hx hb dX4_meanArea_24 rfl (lv_at hl 0 rfl) ?_
    refine lv_i2d hx hb dX4_meanArea_25 ?_
    refine lv_ddiv hx hb dX4_meanArea_26 (fp_mean _ _ (by omega) hth) ?_
    exact g_dret S hI hr hlocks (Nat.zero_le _) (Nat.zero_le _) dX4_meanArea_27 ⟨by unfold yMean; rw [if_neg c_9], rfl⟩
  · skip
    have c_9 : (yThere y) = 0 := (nI_eq (a := (yThere y)) (b := 0) (by omega) (by omega)).mp c_9
    refine lv_dconst0 hx hb dX4_meanArea_12 ?_
    refine lv_goto (tgt := 27) hx hb dX4_meanArea_13 (by decide) ?_
    exact g_dret S hI hr hlocks (Nat.zero_le _) (Nat.zero_le _) dX4_meanArea_27 ⟨by unfold yMean; rw [if_pos c_9], rfl⟩
set_option maxHeartbeats 4000000 in
set_option maxRecDepth 100000 in
/-- StonecutterYard() -/
theorem c_X4_init (l : Launch) (K : gK) (G : gW) (h0 : Nat) (hg : G (4, 20, 0) = some (h0, .inr (5, [.null, .null, .null]))) : gM l yX4_init wsX4_init 4 81 199 3855 K [.ref h0] G (fun v G1 => v = none ∧ (∃ L1 L2 M, YardC K L1 L2 M h0 G1 yNew) ∧ AgY G G1) (gNo) := by
  refine gM.of (cc := cX4_init) (maxL := 1) (ret := none) (by decide) rfl (Nat.le_of_ble_eq_true rfl) ?_
  intro p e s m below meth c A S hr hlocks htab hname hE hA hI ls hl
  have hx := S.1
  have hb := S.2.1
  have hml := S.2.2.1
  have hl : lv_has ls 1 [(0, .ref h0)] := hl
  obtain ⟨H, hHe⟩ : ∃ z, z = s.heap := ⟨_, rfl⟩
  obtain ⟨locs, hLe⟩ : ∃ z : List Loc, z = [] := ⟨_, rfl⟩
  rw [← hHe, ← hLe]
  have hI : gI K A s G H locs := by rw [hHe, hLe]; exact hI
  clear hHe hLe
  refine lv_aload_n hx hb dX4_init_0 rfl (lv_at hl 0 rfl) ?_
  refine W.objInit hx hb S.2.2.2.1 (S.2.2.2.2 _ (List.mem_cons_of_mem _ (List.mem_append_left _ (List.mem_append_left _ (List.mem_append_left _ (List.mem_append_left _ (List.mem_append_left _ (List.mem_append_left _ (List.mem_of_getElem? (i := 0) rfl))))))))) (S.2.2.2.2 _ (List.mem_cons_of_mem _ (List.mem_append_left _ (List.mem_append_left _ (List.mem_append_left _ (List.mem_append_left _ (List.mem_append_left _ (List.mem_append_left _ (List.mem_of_getElem? (i := 1) rfl))))))))) (S.2.2.2.2 _ (List.mem_cons_of_mem _ (List.mem_append_left _ (List.mem_append_left _ (List.mem_append_left _ (List.mem_append_left _ (List.mem_append_left _ (List.mem_append_left _ (List.mem_of_getElem? (i := 2) rfl))))))))) rfl (by rw [hml]; exact hl.1) rfl dX4_init_1 (Nat.le_of_ble_eq_true rfl) (Nat.le_of_ble_eq_true rfl) ?_
  refine W.eq (g2 := F0 m 4 ls []) rfl ?_
  refine lv_aload_n hx hb dX4_init_4 rfl (lv_at hl 0 rfl) ?_
  refine g_new S hE hI hA (C := RX3) (T := TX3) (N := 5) (ci := 4) (fun w h => (List.mem_cons_of_mem _ (List.mem_append_left _ (List.mem_append_left _ (List.mem_append_left _ (List.mem_append_left _ (List.mem_append_right _ h))))))) tyX3 tyX3_ok (List.mem_cons_of_mem _ (List.mem_append_left _ (List.mem_append_left _ (List.mem_append_left _ (List.mem_append_left _ (List.mem_append_left _ (List.mem_append_left _ (List.mem_of_getElem? (i := 3) rfl)))))))) (List.mem_cons_of_mem _ (List.mem_append_left _ (List.mem_append_left _ (List.mem_append_left _ (List.mem_append_left _ (List.mem_append_left _ (List.mem_append_left _ (List.mem_of_getElem? (i := 4) rfl)))))))) (List.mem_cons_of_mem _ (List.mem_append_left _ (List.mem_append_left _ (List.mem_append_left _ (List.mem_append_left _ (List.mem_append_left _ (List.mem_append_left _ (List.mem_of_getElem? (i := 5) rfl)))))))) rfl (fs := [.null, .null, .int (nI 0), .int (nI 0), .int (nI 0)]) (fun j hj => by rcases (show j = 0 ∨ j = 1 ∨ j = 2 ∨ j = 3 ∨ j = 4 by omega) with rfl | rfl | rfl | rfl | rfl <;> rfl) (1, 0, 0) (by show _ ≤ 199; omega) (by show _ ≤ 3855; omega) dX4_init_5 (fun q_5 H hq_5 hI => ?_)
  obtain ⟨G_1, hG_1⟩ : ∃ z, z = gset G (1, 0, 0) q_5 (.inr (4, [.null, .null, .int (nI 0), .int (nI 0), .int (nI 0)])) := ⟨_, rfl⟩
  have hI : gI K A s G_1 H locs := by rw [hG_1]; exact hI
  have o_G_1 : G_1 (4, 20, 0) = some (h0, .inr (5, [.null, .null, .null])) := by rw [hG_1, gset_ne (by simp)]; exact hg
  have v_G_1 : G_1 (1, 0, 0) = some (q_5, .inr (4, [.null, .null, .int (nI 0), .int (nI 0), .int (nI 0)])) := by rw [hG_1]; exact gset_eq _ _ _ _
  refine lv_dup hx hb dX4_init_8 rfl ?_
  refine g_callI (As := []) (rest := [.ref q_5, .ref h0]) (b := q_5) (n := 0) S hE hI hA (c_X3_init l K _ 1 q_5 v_G_1) gX4_init_X3_init rfl (List.mem_cons_of_mem _ (List.mem_append_left _ (List.mem_append_left _ (List.mem_append_left _ (List.mem_append_left _ (List.mem_append_left _ (List.mem_append_left _ (List.mem_of_getElem? (i := 5) rfl)))))))) (List.mem_cons_of_mem _ (List.mem_append_left _ (List.mem_append_left _ (List.mem_append_left _ (List.mem_append_left _ (List.mem_append_left _ (List.mem_append_left _ (List.mem_of_getElem? (i := 12) rfl)))))))) (List.mem_cons_of_mem _ (List.mem_append_left _ (List.mem_append_left _ (List.mem_append_left _ (List.mem_append_left _ (List.mem_append_left _ (List.mem_append_left _ (List.mem_of_getElem? (i := 13) rfl)))))))) rfl (by decide +kernel) ⟨Nat.le_of_ble_eq_true rfl, Nat.le_of_ble_eq_true rfl⟩ rfl hl.1 rfl (Nat.le_of_ble_eq_true rfl) dX4_init_9 ⟨by show _ ≤ 199; omega, by show _ ≤ 3855; omega⟩ (fun E ce q9 Gx H1 locs1 hx9 => hx9.elim) (fun rv Gc_9 H locs hp hI => ?_)
  obtain ⟨rfl, ⟨L1, hL9, hs1⟩, ha9⟩ := hp
  have o_c9 : Gc_9 (4, 20, 0) = some (h0, .inr (5, [.null, .null, .null])) := (ha9 _ (by decide)).trans o_G_1
  refine W.eq (g2 := F0 m 12 ls [.ref q_5, .ref h0]) rfl ?_
  refine g_putF S hE hI (C := RX4) (T := TX4) (N := 3) (ref := "StonecutterYard") (fun w h => (List.mem_cons_of_mem _ (List.mem_append_left _ (List.mem_append_left _ (List.mem_append_left _ (List.mem_append_right _ h)))))) tyX4 tyX4_ok nmX4 o_c9 rfl 0 (by decide) (List.mem_cons_of_mem _ (List.mem_append_left _ (List.mem_append_left _ (List.mem_append_left _ (List.mem_append_left _ (List.mem_append_left _ (List.mem_append_left _ (List.mem_of_getElem? (i := 6) rfl)))))))) (fun _ h9 => h9) rfl hname rfl rfl rfl (Nat.le_of_ble_eq_true rfl) dX4_init_12 (fun H locs hI => ?_)
  have hI : gI K A s (gset Gc_9 (4, 20, 0) h0 (.inr (5, [.ref q_5, .null, .null]))) H locs := hI
  obtain ⟨G_2, hG_2⟩ : ∃ z, z = gset Gc_9 (4, 20, 0) h0 (.inr (5, [.ref q_5, .null, .null])) := ⟨_, rfl⟩
  rw [← hG_2] at hI
  have o_G_2 : G_2 (4, 20, 0) = some (h0, .inr (5, [.ref q_5, .null, .null])) := by rw [hG_2]; exact gset_eq _ _ _ _
  refine lv_aload_n hx hb dX4_init_15 rfl (lv_at hl 0 rfl) ?_
  refine g_new S hE hI hA (C := RX3) (T := TX3) (N := 5) (ci := 4) (fun w h => (List.mem_cons_of_mem _ (List.mem_append_left _ (List.mem_append_left _ (List.mem_append_left _ (List.mem_append_left _ (List.mem_append_right _ h))))))) tyX3 tyX3_ok (List.mem_cons_of_mem _ (List.mem_append_left _ (List.mem_append_left _ (List.mem_append_left _ (List.mem_append_left _ (List.mem_append_left _ (List.mem_append_left _ (List.mem_of_getElem? (i := 3) rfl)))))))) (List.mem_cons_of_mem _ (List.mem_append_left _ (List.mem_append_left _ (List.mem_append_left _ (List.mem_append_left _ (List.mem_append_left _ (List.mem_append_left _ (List.mem_of_getElem? (i := 4) rfl)))))))) (List.mem_cons_of_mem _ (List.mem_append_left _ (List.mem_append_left _ (List.mem_append_left _ (List.mem_append_left _ (List.mem_append_left _ (List.mem_append_left _ (List.mem_of_getElem? (i := 5) rfl)))))))) rfl (fs := [.null, .null, .int (nI 0), .int (nI 0), .int (nI 0)]) (fun j hj => by rcases (show j = 0 ∨ j = 1 ∨ j = 2 ∨ j = 3 ∨ j = 4 by omega) with rfl | rfl | rfl | rfl | rfl <;> rfl) (2, 0, 0) (by show _ ≤ 199; omega) (by show _ ≤ 3855; omega) dX4_init_16 (fun q_16 H hq_16 hI => ?_)
  obtain ⟨G_3, hG_3⟩ : ∃ z, z = gset G_2 (2, 0, 0) q_16 (.inr (4, [.null, .null, .int (nI 0), .int (nI 0), .int (nI 0)])) := ⟨_, rfl⟩
  have hI : gI K A s G_3 H locs := by rw [hG_3]; exact hI
  have o_G_3 : G_3 (4, 20, 0) = some (h0, .inr (5, [.ref q_5, .null, .null])) := by rw [hG_3, gset_ne (by simp)]; exact o_G_2
  have v_G_3 : G_3 (2, 0, 0) = some (q_16, .inr (4, [.null, .null, .int (nI 0), .int (nI 0), .int (nI 0)])) := by rw [hG_3]; exact gset_eq _ _ _ _
  refine lv_dup hx hb dX4_init_19 rfl ?_
  refine g_callI (As := []) (rest := [.ref q_16, .ref h0]) (b := q_16) (n := 0) S hE hI hA (c_X3_init l K _ 2 q_16 v_G_3) gX4_init_X3_init rfl (List.mem_cons_of_mem _ (List.mem_append_left _ (List.mem_append_left _ (List.mem_append_left _ (List.mem_append_left _ (List.mem_append_left _ (List.mem_append_left _ (List.mem_of_getElem? (i := 5) rfl)))))))) (List.mem_cons_of_mem _ (List.mem_append_left _ (List.mem_append_left _ (List.mem_append_left _ (List.mem_append_left _ (List.mem_append_left _ (List.mem_append_left _ (List.mem_of_getElem? (i := 12) rfl)))))))) (List.mem_cons_of_mem _ (List.mem_append_left _ (List.mem_append_left _ (List.mem_append_left _ (List.mem_append_left _ (List.mem_append_left _ (List.mem_append_left _ (List.mem_of_getElem? (i := 13) rfl)))))))) rfl (by decide +kernel) ⟨Nat.le_of_ble_eq_true rfl, Nat.le_of_ble_eq_true rfl⟩ rfl hl.1 rfl (Nat.le_of_ble_eq_true rfl) dX4_init_20 ⟨by show _ ≤ 199; omega, by show _ ≤ 3855; omega⟩ (fun E ce q9 Gx H1 locs1 hx9 => hx9.elim) (fun rv Gc_20 H locs hp hI => ?_)
  obtain ⟨rfl, ⟨L2, hL20, hs2⟩, ha20⟩ := hp
  have o_c20 : Gc_20 (4, 20, 0) = some (h0, .inr (5, [.ref q_5, .null, .null])) := (ha20 _ (by decide)).trans o_G_3
  refine W.eq (g2 := F0 m 23 ls [.ref q_16, .ref h0]) rfl ?_
  refine g_putF S hE hI (C := RX4) (T := TX4) (N := 3) (ref := "StonecutterYard") (fun w h => (List.mem_cons_of_mem _ (List.mem_append_left _ (List.mem_append_left _ (List.mem_append_left _ (List.mem_append_right _ h)))))) tyX4 tyX4_ok nmX4 o_c20 rfl 1 (by decide) (List.mem_cons_of_mem _ (List.mem_append_left _ (List.mem_append_left _ (List.mem_append_left _ (List.mem_append_left _ (List.mem_append_left _ (List.mem_append_left _ (List.mem_of_getElem? (i := 7) rfl)))))))) (fun _ h9 => h9) rfl hname rfl rfl rfl (Nat.le_of_ble_eq_true rfl) dX4_init_23 (fun H locs hI => ?_)
  have hI : gI K A s (gset Gc_20 (4, 20, 0) h0 (.inr (5, [.ref q_5, .ref q_16, .null]))) H locs := hI
  obtain ⟨G_4, hG_4⟩ : ∃ z, z = gset Gc_20 (4, 20, 0) h0 (.inr (5, [.ref q_5, .ref q_16, .null])) := ⟨_, rfl⟩
  rw [← hG_4] at hI
  have o_G_4 : G_4 (4, 20, 0) = some (h0, .inr (5, [.ref q_5, .ref q_16, .null])) := by rw [hG_4]; exact gset_eq _ _ _ _
  refine lv_aload_n hx hb dX4_init_26 rfl (lv_at hl 0 rfl) ?_
  refine g_new S hE hI hA (C := RX1) (T := TX1) (N := 5) (ci := 2) (fun w h => (List.mem_cons_of_mem _ (List.mem_append_left _ (List.mem_append_left _ (List.mem_append_right _ h))))) tyX1 tyX1_ok (List.mem_cons_of_mem _ (List.mem_append_left _ (List.mem_append_left _ (List.mem_append_left _ (List.mem_append_left _ (List.mem_append_left _ (List.mem_append_left _ (List.mem_of_getElem? (i := 8) rfl)))))))) (List.mem_cons_of_mem _ (List.mem_append_left _ (List.mem_append_left _ (List.mem_append_left _ (List.mem_append_left _ (List.mem_append_left _ (List.mem_append_left _ (List.mem_of_getElem? (i := 9) rfl)))))))) (List.mem_cons_of_mem _ (List.mem_append_left _ (List.mem_append_left _ (List.mem_append_left _ (List.mem_append_left _ (List.mem_append_left _ (List.mem_append_left _ (List.mem_of_getElem? (i := 10) rfl)))))))) rfl (fs := [.null, .null, .null, .null, .int (nI 0)]) (fun j hj => by rcases (show j = 0 ∨ j = 1 ∨ j = 2 ∨ j = 3 ∨ j = 4 by omega) with rfl | rfl | rfl | rfl | rfl <;> rfl) (3, 10, 0) (by show _ ≤ 199; omega) (by show _ ≤ 3855; omega) dX4_init_27 (fun q_27 H hq_27 hI => ?_)
  obtain ⟨G_5, hG_5⟩ : ∃ z, z = gset G_4 (3, 10, 0) q_27 (.inr (2, [.null, .null, .null, .null, .int (nI 0)])) := ⟨_, rfl⟩
  have hI : gI K A s G_5 H locs := by rw [hG_5]; exact hI
  have o_G_5 : G_5 (4, 20, 0) = some (h0, .inr (5, [.ref q_5, .ref q_16, .null])) := by rw [hG_5, gset_ne (by simp)]; exact o_G_4
  have v_G_5 : G_5 (3, 10, 0) = some (q_27, .inr (2, [.null, .null, .null, .null, .int (nI 0)])) := by rw [hG_5]; exact gset_eq _ _ _ _
  refine lv_dup hx hb dX4_init_30 rfl ?_
  refine g_callIN (As := []) (rest := [.ref q_27, .ref h0]) (b := q_27) (n := 0) (host := "StonecutterYard") S hE hI hA (c_X1_init l K _ 3 q_27 v_G_5) gX4_init_X1_init_n21 rfl (List.mem_cons_of_mem _ (List.mem_append_left _ (List.mem_append_left _ (List.mem_append_left _ (List.mem_append_left _ (List.mem_append_left _ (List.mem_append_left _ (List.mem_of_getElem? (i := 10) rfl)))))))) (List.mem_of_getElem? (i := 0) rfl) (List.mem_cons_of_mem _ (List.mem_append_left _ (List.mem_append_left _ (List.mem_append_left _ (List.mem_append_left _ (List.mem_append_left _ (List.mem_append_right _ (List.mem_of_getElem? (i := 9) rfl)))))))) rfl (by decide +kernel) ⟨Nat.le_of_ble_eq_true rfl, Nat.le_of_ble_eq_true rfl⟩ rfl hl.1 rfl (Nat.le_of_ble_eq_true rfl) dX4_init_31 ⟨by show _ ≤ 199; omega, by show _ ≤ 3855; omega⟩ (fun E ce q9 Gx H1 locs1 hx9 => hx9.elim) (fun rv Gc_31 H locs hp hI => ?_)
  obtain ⟨rfl, ⟨M, hL31, hw1⟩, ha31⟩ := hp
  have o_c31 : Gc_31 (4, 20, 0) = some (h0, .inr (5, [.ref q_5, .ref q_16, .null])) := (ha31 _ (by decide)).trans o_G_5
  refine W.eq (g2 := F0 m 34 ls [.ref q_27, .ref h0]) rfl ?_
  refine g_putF S hE hI (C := RX4) (T := TX4) (N := 3) (ref := "StonecutterYard") (fun w h => (List.mem_cons_of_mem _ (List.mem_append_left _ (List.mem_append_left _ (List.mem_append_left _ (List.mem_append_right _ h)))))) tyX4 tyX4_ok nmX4 o_c31 rfl 2 (by decide) (List.mem_cons_of_mem _ (List.mem_append_left _ (List.mem_append_left _ (List.mem_append_left _ (List.mem_append_left _ (List.mem_append_left _ (List.mem_append_left _ (List.mem_of_getElem? (i := 11) rfl)))))))) (fun _ h9 => h9) rfl hname rfl rfl rfl (Nat.le_of_ble_eq_true rfl) dX4_init_34 (fun H locs hI => ?_)
  have hI : gI K A s (gset Gc_31 (4, 20, 0) h0 (.inr (5, [.ref q_5, .ref q_16, .ref q_27]))) H locs := hI
  obtain ⟨G_6, hG_6⟩ : ∃ z, z = gset Gc_31 (4, 20, 0) h0 (.inr (5, [.ref q_5, .ref q_16, .ref q_27])) := ⟨_, rfl⟩
  rw [← hG_6] at hI
  have o_G_6 : G_6 (4, 20, 0) = some (h0, .inr (5, [.ref q_5, .ref q_16, .ref q_27])) := by rw [hG_6]; exact gset_eq _ _ _ _
  have e1 : AgY Gc_9 Gc_20 := fun t ht => (ha20 t (by omega)).trans (by rw [hG_3, hG_2]; exact (gset_ne (fun z => by rw [z] at ht; exact absurd ht (by decide))).trans (gset_ne (fun z => by rw [z] at ht; exact absurd ht (by decide))))
  have e2 : AgY Gc_20 Gc_31 := fun t ht => (ha31 t (by omega)).trans (by rw [hG_5, hG_4]; exact (gset_ne (fun z => by rw [z] at ht; exact absurd ht (by decide))).trans (gset_ne (fun z => by rw [z] at ht; exact absurd ht (by decide))))
  have e0 : AgY G Gc_9 := fun t ht => (ha9 t (by omega)).trans (by rw [hG_1]; exact gset_ne (fun z => by rw [z] at ht; exact absurd ht (by decide)))
  have e3 : AgY Gc_31 G_6 := fun t ht => by rw [hG_6]; exact gset_ne (fun z => by rw [z] at ht; exact absurd ht (by decide))
  have f1 : StockG K true 1 L1 G_6 yNew := hs1.moved (fun t ht => by rw [hG_6, gset_ne (fun z => by rw [z] at ht; exact absurd ht (by decide)), ha31 t (by omega), hG_5, gset_ne (fun z => by rw [z] at ht; exact absurd ht (by decide)), hG_4, gset_ne (fun z => by rw [z] at ht; exact absurd ht (by decide)), ha20 t (by omega), hG_3, gset_ne (fun z => by rw [z] at ht; exact absurd ht (by decide)), hG_2, gset_ne (fun z => by rw [z] at ht; exact absurd ht (by decide))])
  have f2 : StockG K false 2 L2 G_6 yNew := hs2.weak.moved (fun t ht => by rw [hG_6, gset_ne (fun z => by rw [z] at ht; exact absurd ht (by decide)), ha31 t (by omega), hG_5, gset_ne (fun z => by rw [z] at ht; exact absurd ht (by decide)), hG_4, gset_ne (fun z => by rw [z] at ht; exact absurd ht (by decide))])
  have f3 : SawG K 3 M G_6 (fun _ => 0) (fun _ => 0) (fun _ => 0) (fun _ => 0) 0 := hw1.moved (fun t ht => by rw [hG_6, gset_ne (fun z => by rw [z] at ht; exact absurd ht (by decide))])
  exact g_vret S hI hr hlocks (by omega) (by omega) dX4_init_37 ⟨rfl, ⟨L1, L2, M, by rw [hL9, hL20, hL31]; exact o_G_6, f1, ⟨_, f2⟩, ⟨_, _, _, _, _, f3⟩, by decide⟩, ((e0.tr e1).tr e2).tr e3⟩
