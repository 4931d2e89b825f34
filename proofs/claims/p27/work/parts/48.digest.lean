theorem iN_k {n : Nat} (h : n < 2 ^ 31) : iN (nI n) = n := iN_nI h
theorem d_many (l : Launch) (K : gK) (G : gW) (L1 L2 : Nat → Nat → Nat) (M : Nat → Nat) (hy : Nat) (y : YV) (j : Nat) (hlS : l.stackTraces = false) (hy0 : YardC K L1 L2 M hy G y) (hj : j < 8) : gM l yX4_many wsX4_many 5 107 0 0 K [.ref hy, .int (nI j)] G (fun r G1 => r = some (.int (yMany y j)) ∧ YardC K L1 L2 M hy G1 y ∧ AgY G G1) gNo := by
  match j, hj with
  | 0, _ => exact gM.ok (c_many0Z l K G L1 L2 M hy y hlS hy0) (by unfold oMany; rw [if_pos (by decide), iN_nI (by decide)])
  | 1, _ => exact gM.ok (c_many1Z l K G L1 L2 M hy y hlS hy0) (by unfold oMany; rw [if_pos (by decide), iN_nI (by decide)])
  | 2, _ => exact gM.ok (c_many2Z l K G L1 L2 M hy y hlS hy0) (by unfold oMany; rw [if_pos (by decide), iN_nI (by decide)])
  | 3, _ => exact gM.ok (c_many3Z l K G L1 L2 M hy y hlS hy0) (by unfold oMany; rw [if_pos (by decide), iN_nI (by decide)])
  | 4, _ => exact gM.ok (c_many4Z l K G L1 L2 M hy y hlS hy0) (by unfold oMany; rw [if_pos (by decide), iN_nI (by decide)])
  | 5, _ => exact gM.ok (c_many5Z l K G L1 L2 M hy y hlS hy0) (by unfold oMany; rw [if_pos (by decide), iN_nI (by decide)])
  | 6, _ => exact gM.ok (c_many6Z l K G L1 L2 M hy y hlS hy0) (by unfold oMany; rw [if_pos (by decide), iN_nI (by decide)])
  | 7, _ => exact gM.ok (c_many7Z l K G L1 L2 M hy y hlS hy0) (by unfold oMany; rw [if_pos (by decide), iN_nI (by decide)])
  | k + 8, hj => exact absurd hj (by omega)
theorem d_ofSlab (l : Launch) (K : gK) (G : gW) (L1 L2 : Nat → Nat → Nat) (M : Nat → Nat) (hy : Nat) (y : YV) (i j : Nat) (hlS : l.stackTraces = false) (hy0 : YardC K L1 L2 M hy G y) (hi : i < ySc y) (hj : j < 6) : gM l yX4_ofSlab wsX4_ofSlab 4 83 0 0 K [.ref hy, .int (nI i), .int (nI j)] G (fun r G1 => r = some (.int (sOf (yS y i) j)) ∧ YardC K L1 L2 M hy G1 y ∧ AgY G G1) gNo := by
  have h44 := hy0.2.1.1.2.2.2.1
  match j, hj with
  | 0, _ => exact gM.ok (c_ofSlab0Z l K G L1 L2 M hy y i hlS hy0 hi) (by unfold oOfSlab; rw [if_pos (inR_nI hi (by omega)), if_pos (by decide), iN_nI (by omega), iN_nI (by decide)])
  | 1, _ => exact gM.ok (c_ofSlab1Z l K G L1 L2 M hy y i hlS hy0 hi) (by unfold oOfSlab; rw [if_pos (inR_nI hi (by omega)), if_pos (by decide), iN_nI (by omega), iN_nI (by decide)])
  | 2, _ => exact gM.ok (c_ofSlab2Z l K G L1 L2 M hy y i hlS hy0 hi) (by unfold oOfSlab; rw [if_pos (inR_nI hi (by omega)), if_pos (by decide), iN_nI (by omega), iN_nI (by decide)])
  | 3, _ => exact gM.ok (c_ofSlab3Z l K G L1 L2 M hy y i hlS hy0 hi) (by unfold oOfSlab; rw [if_pos (inR_nI hi (by omega)), if_pos (by decide), iN_nI (by omega), iN_nI (by decide)])
  | 4, _ => exact gM.ok (c_ofSlab4Z l K G L1 L2 M hy y i hlS hy0 hi) (by unfold oOfSlab; rw [if_pos (inR_nI hi (by omega)), if_pos (by decide), iN_nI (by omega), iN_nI (by decide)])
  | 5, _ => exact gM.ok (c_ofSlab5Z l K G L1 L2 M hy y i hlS hy0 hi) (by unfold oOfSlab; rw [if_pos (inR_nI hi (by omega)), if_pos (by decide), iN_nI (by omega), iN_nI (by decide)])
  | k + 6, hj => exact absurd hj (by omega)
theorem d_ofKind (l : Launch) (K : gK) (G : gW) (L1 L2 : Nat → Nat → Nat) (M : Nat → Nat) (hy : Nat) (y : YV) (i j : Nat) (hlS : l.stackTraces = false) (hy0 : YardC K L1 L2 M hy G y) (hi : i < yKc y) (hj : j < 8) : gM l yX4_ofKind wsX4_ofKind 4 83 0 0 K [.ref hy, .int (nI i), .int (nI j)] G (fun r G1 => r = some (.int (kOf (yK y i) j)) ∧ YardC K L1 L2 M hy G1 y ∧ AgY G G1) gNo := by
  have h6 := hy0.2.1.1.2.2.2.2.1
  match j, hj with
  | 0, _ => exact gM.ok (c_ofKind0Z l K G L1 L2 M hy y i hlS hy0 hi) (by unfold oOfKind; rw [if_pos (inR_nI hi (by omega)), if_pos (by decide), iN_nI (by omega), iN_nI (by decide)])
  | 1, _ => exact gM.ok (c_ofKind1Z l K G L1 L2 M hy y i hlS hy0 hi) (by unfold oOfKind; rw [if_pos (inR_nI hi (by omega)), if_pos (by decide), iN_nI (by omega), iN_nI (by decide)])
  | 2, _ => exact gM.ok (c_ofKind2Z l K G L1 L2 M hy y i hlS hy0 hi) (by unfold oOfKind; rw [if_pos (inR_nI hi (by omega)), if_pos (by decide), iN_nI (by omega), iN_nI (by decide)])
  | 3, _ => exact gM.ok (c_ofKind3Z l K G L1 L2 M hy y i hlS hy0 hi) (by unfold oOfKind; rw [if_pos (inR_nI hi (by omega)), if_pos (by decide), iN_nI (by omega), iN_nI (by decide)])
  | 4, _ => exact gM.ok (c_ofKind4Z l K G L1 L2 M hy y i hlS hy0 hi) (by unfold oOfKind; rw [if_pos (inR_nI hi (by omega)), if_pos (by decide), iN_nI (by omega), iN_nI (by decide)])
  | 5, _ => exact gM.ok (c_ofKind5Z l K G L1 L2 M hy y i hlS hy0 hi) (by unfold oOfKind; rw [if_pos (inR_nI hi (by omega)), if_pos (by decide), iN_nI (by omega), iN_nI (by decide)])
  | 6, _ => exact gM.ok (c_ofKind6Z l K G L1 L2 M hy y i hlS hy0 hi) (by unfold oOfKind; rw [if_pos (inR_nI hi (by omega)), if_pos (by decide), iN_nI (by omega), iN_nI (by decide)])
  | 7, _ => exact gM.ok (c_ofKind7Z l K G L1 L2 M hy y i hlS hy0 hi) (by unfold oOfKind; rw [if_pos (inR_nI hi (by omega)), if_pos (by decide), iN_nI (by omega), iN_nI (by decide)])
  | k + 8, hj => exact absurd hj (by omega)
theorem d_fits (l : Launch) (K : gK) (G : gW) (L1 L2 : Nat → Nat → Nat) (M : Nat → Nat) (hy : Nat) (y : YV) (i j : Nat) (hlS : l.stackTraces = false) (hy0 : YardC K L1 L2 M hy G y) (hi : i < ySc y) (hj : j < yKc y) : gM l yX4_fits wsX4_fits 4 90 0 0 K [.ref hy, .int (nI i), .int (nI j)] G (fun r G1 => r = some (.int (oI (sFits (yS y i) (yK y j)))) ∧ YardC K L1 L2 M hy G1 y ∧ AgY G G1) gNo := by
  have h44 := hy0.2.1.1.2.2.2.1
  have h6 := hy0.2.1.1.2.2.2.2.1
  exact gM.ok (c_fitsCZ l K G L1 L2 M hy y i j hlS hy0 hi hj) (by unfold oFits; rw [if_pos (by rw [inR_nI hi (by omega), inR_nI hj (by omega)]; rfl), iN_nI (by omega), iN_nI (by omega)])
theorem d_worth (l : Launch) (K : gK) (G : gW) (L1 L2 : Nat → Nat → Nat) (M : Nat → Nat) (hy : Nat) (y : YV) (w h g : Nat) (hlS : l.stackTraces = false) (hy0 : YardC K L1 L2 M hy G y) (hb9 : (1 ≤ w ∧ w ≤ 24) ∧ (1 ≤ h ∧ h ≤ 24) ∧ g ≤ 1) : gM l yX4_worth wsX4_worth 6 144 0 0 K [.ref hy, .int (nI w), .int (nI h), .int (nI g)] G (fun r G1 => r = some (.int (nI (wV (ySt2 y g) (yF y) w h))) ∧ YardC K L1 L2 M hy G1 y ∧ AgY G G1) gNo := by
  exact gM.ok (c_worthBZ l K G L1 L2 M hy y w h g hlS hy0 hb9) (by unfold oWorth; rw [if_pos (inP_nI hb9), iN_nI (by omega), iN_nI (by omega), iN_nI (by omega)])
theorem d_best (l : Launch) (K : gK) (G : gW) (L1 L2 : Nat → Nat → Nat) (M : Nat → Nat) (hy : Nat) (y : YV) (w h g : Nat) (hlS : l.stackTraces = false) (hy0 : YardC K L1 L2 M hy G y) (hb9 : (1 ≤ w ∧ w ≤ 24) ∧ (1 ≤ h ∧ h ≤ 24) ∧ g ≤ 1) : gM l yX4_bestCut wsX4_bestCut 6 144 0 0 K [.ref hy, .int (nI w), .int (nI h), .int (nI g)] G (fun r G1 => r = some (.int (cE (qV (ySt2 y g) (yF y) w h).2)) ∧ YardC K L1 L2 M hy G1 y ∧ AgY G G1) gNo := by
  exact gM.ok (c_bestBZ l K G L1 L2 M hy y w h g hlS hy0 hb9) (by unfold oBest; rw [if_pos (inP_nI hb9), iN_nI (by omega), iN_nI (by omega), iN_nI (by omega)])
theorem d_pays (l : Launch) (K : gK) (G : gW) (L1 L2 : Nat → Nat → Nat) (M : Nat → Nat) (hy : Nat) (y : YV) (n : Nat) (hlS : l.stackTraces = false) (hy0 : YardC K L1 L2 M hy G y) (hn9 : 1 ≤ n ∧ n ≤ 20) : gM l yX4_planPays wsX4_planPays 7 169 0 0 K [.ref hy, .int (nI n)] G (fun r G1 => r = some (.int (yPays y n)) ∧ YardC K L1 L2 M hy G1 y ∧ AgY G G1) gNo := by
  exact gM.ok (c_paysBZ l K G L1 L2 M hy y n hlS hy0 hn9) (by unfold oPays; rw [if_pos (by rw [inB_nI (by omega)]; exact decide_eq_true (by omega)), iN_nI (by omega)])
set_option maxHeartbeats 4000000 in
set_option maxRecDepth 100000 in
/-- digest() -/
theorem c_X4_digest (l : Launch) (K : gK) (G : gW) (L1 L2 : Nat → Nat → Nat) (M : Nat → Nat) (hy : Nat) (y : YV) (hlS : l.stackTraces = false) (hy0 : YardC K L1 L2 M hy G y) : gM l yX4_digest wsX4_digest 8 190 0 0 K [.ref hy] G (fun v G1 => v = some (.long (yDigest y)) ∧ YardC K L1 L2 M hy G1 y ∧ AgY G G1) (gNo) := by
  refine gM.of (cc := cX4_digest) (maxL := 5) (ret := (some .long)) (by decide) rfl (Nat.le_of_ble_eq_true rfl) ?_
  intro p e s m below meth c A S hr hlocks htab hname hE hA hI ls hl
  have hx := S.1
  have hb := S.2.1
  have hml := S.2.2.1
  have hl : lv_has ls 5 [(0, .ref hy)] := hl
  have hs := hy0.2.1
  have hy9 := hy0.1
  have h44 := hs.1.2.2.2.1
  have h6 := hs.1.2.2.2.2.1
  have hf2 := hs.1.2.2.2.2.2
  have hc40 := hy0.2.2.2.2
  obtain ⟨H, hHe⟩ : ∃ z, z = s.heap := ⟨_, rfl⟩
  obtain ⟨locs, hLe⟩ : ∃ z : List Loc, z = [] := ⟨_, rfl⟩
  rw [← hHe, ← hLe]
  have hI : gI K A s G H locs := by rw [hHe, hLe]; exact hI
  clear hHe hLe
  refine lv_ldc2 hx hb S.2.2.2.1 (S.2.2.2.2 _ (List.mem_cons_of_mem _ (List.mem_append_left _ (List.mem_append_left _ (List.mem_append_left _ (List.mem_append_left _ (List.mem_append_left _ (List.mem_append_left _ (List.mem_append_left _ (List.mem_append_left _ (List.mem_of_getElem? (i := 0) rfl))))))))))) dX4_digest_0 ?_
  refine lv_lstore_n (lv' := [(1, .long (58105)), (0, .ref hy)]) hx hb dX4_digest_3 rfl hl (by decide) rfl (fun ls hl => ?_)
  refine lv_iconst (v := nI 0) hx hb dX4_digest_4 (by decide) ?_
  refine lv_istore_n (lv' := [(3, .int (nI 0)), (1, .long (58105)), (0, .ref hy)]) hx hb dX4_digest_5 rfl hl (by decide) rfl (fun ls hl => ?_)
  have L6 : ∀ (n : Nat) (j : Nat) (d9 : Int64) (G1 : gW) (H : Heap) (locs : List Loc) (ls : Array Slot) (hn : 8 - j < n) (hj : j ≤ 8) (hd : d9 = dFold (yMany y) 58105 j) (hyi : YardC K L1 L2 M hy G1 y) (hai : AgY G G1), gI K A s G1 H locs → lv_has ls 5 [(0, .ref hy), (1, .long d9), (3, .int (nI j))] → W p l e (gRoom 8 190 0 0) s m ([.ref hy] : List Value).toArray below meth c H locs 0 0 (gEnd K below (fun v G1 => v = some (.long (yDigest y)) ∧ YardC K L1 L2 M hy G1 y ∧ AgY G G1) (gNo) A ([.ref hy] : List Value).toArray s 0 0) (F0 m 6 ls []) := by
    clear hI hl
    intro n
    induction n with
    | zero =>
      intro j d9 G1 H locs ls hn hj hd hyi hai hI hl
      exact absurd hn (Nat.not_lt_zero _)
    | succ n ih =>
      intro j d9 G1 H locs ls hn hj hd hyi hai hI hl
      have h44 := hyi.2.1.1.2.2.2.1
      have h6 := hyi.2.1.1.2.2.2.2.1
      refine lv_iload_n hx hb dX4_digest_6 rfl (lv_at hl 2 rfl) ?_
      refine lv_bipush (v := nI 7) hx hb dX4_digest_7 (by decide) ?_
      refine lv_icmp_gt (tgt := 31) hx hb dX4_digest_9 (by decide) (fun c_9 => ?_) (fun c_9 => ?_)
      · skip
        have c_9 : 7 < j := (nI_ltI (a := 7) (b := j) (by omega) (by omega)).mp c_9
        refine lv_iconst (v := nI 0) hx hb dX4_digest_31 (by decide) ?_
        refine lv_istore_n (lv' := [(3, .int (nI 0)), (0, .ref hy), (1, .long d9)]) hx hb dX4_digest_32 rfl hl (by decide) rfl (fun ls hl => ?_)
        have L33 : ∀ (n : Nat) (i : Nat) (d9 : Int64) (G1 : gW) (H : Heap) (locs : List Loc) (ls : Array Slot) (hn : ySc y - i < n) (hi : i ≤ ySc y) (hd : d9 = dSlabs y (dFold (yMany y) 58105 8) i) (hyi : YardC K L1 L2 M hy G1 y) (hai : AgY G G1), gI K A s G1 H locs → lv_has ls 5 [(0, .ref hy), (1, .long d9), (3, .int (nI i))] → W p l e (gRoom 8 190 0 0) s m ([.ref hy] : List Value).toArray below meth c H locs 0 0 (gEnd K below (fun v G1 => v = some (.long (yDigest y)) ∧ YardC K L1 L2 M hy G1 y ∧ AgY G G1) (gNo) A ([.ref hy] : List Value).toArray s 0 0) (F0 m 33 ls []) := by
          clear hI hl
          intro n
          induction n with
          | zero =>
            intro i d9 G1 H locs ls hn hi hd hyi hai hI hl
            exact absurd hn (Nat.not_lt_zero _)
          | succ n ih33 =>
            intro i d9 G1 H locs ls hn hi hd hyi hai hI hl
            have h44 := hyi.2.1.1.2.2.2.1
            have h6 := hyi.2.1.1.2.2.2.2.1
            refine lv_iload_n hx hb dX4_digest_33 rfl (lv_at hl 2 rfl) ?_
            refine lv_aload_n hx hb dX4_digest_34 rfl (lv_at hl 0 rfl) ?_
            refine g_get S hE hI (C := RX4) (T := TX4) (N := 3) (ref := "StonecutterYard") (fun w h => (List.mem_cons_of_mem _ (List.mem_append_left _ (List.mem_append_left _ (List.mem_append_left _ (List.mem_append_left _ (List.mem_append_left _ (List.mem_append_left _ (List.mem_append_right _ h))))))))) hyi.1 rfl 0 (by decide) (List.mem_cons_of_mem _ (List.mem_append_left _ (List.mem_append_left _ (List.mem_append_left _ (List.mem_append_left _ (List.mem_append_left _ (List.mem_append_left _ (List.mem_append_left _ (List.mem_append_left _ (List.mem_of_getElem? (i := 2) rfl)))))))))) (fun _ h9 => h9) (v := .ref (L1 0 0)) rfl dX4_digest_35 ?_
            refine g_getN S hE hI (C := RX3) (T := TX3) (N := 5) (ref := "StonecutterYard$Stock") (host := "StonecutterYard") (fun w h => (List.mem_cons_of_mem _ (List.mem_append_left _ (List.mem_append_left _ (List.mem_append_left _ (List.mem_append_left _ (List.mem_append_left _ (List.mem_append_right _ h)))))))) hyi.2.1.1.1 rfl 2 (by decide) (List.mem_of_getElem? (i := 0) rfl) (fun _ h9 => h9) (v := .int (nI (ySc y))) rfl dX4_digest_38 ?_
            refine lv_icmp_ge (tgt := 116) hx hb dX4_digest_41 (by decide) (fun c_41 => ?_) (fun c_41 => ?_)
            · skip
              have c_41 : (ySc y) ≤ i := (nI_leI (a := (ySc y)) (b := i) (by omega) (by omega)).mp c_41
              refine lv_iconst (v := nI 0) hx hb dX4_digest_116 (by decide) ?_
              refine lv_istore_n (lv' := [(3, .int (nI 0)), (0, .ref hy), (1, .long d9)]) hx hb dX4_digest_117 rfl hl (by decide) rfl (fun ls hl => ?_)
              have L118 : ∀ (n : Nat) (i : Nat) (d9 : Int64) (G1 : gW) (H : Heap) (locs : List Loc) (ls : Array Slot) (hn : yKc y - i < n) (hi : i ≤ yKc y) (hd : d9 = dKinds y (dSlabs y (dFold (yMany y) 58105 8) (ySc y)) i) (hyi : YardC K L1 L2 M hy G1 y) (hai : AgY G G1), gI K A s G1 H locs → lv_has ls 5 [(0, .ref hy), (1, .long d9), (3, .int (nI i))] → W p l e (gRoom 8 190 0 0) s m ([.ref hy] : List Value).toArray below meth c H locs 0 0 (gEnd K below (fun v G1 => v = some (.long (yDigest y)) ∧ YardC K L1 L2 M hy G1 y ∧ AgY G G1) (gNo) A ([.ref hy] : List Value).toArray s 0 0) (F0 m 118 ls []) := by
                clear hI hl
                intro n
                induction n with
                | zero =>
                  intro i d9 G1 H locs ls hn hi hd hyi hai hI hl
                  exact absurd hn (Nat.not_lt_zero _)
                | succ n ih118 =>
                  intro i d9 G1 H locs ls hn hi hd hyi hai hI hl
                  have h44 := hyi.2.1.1.2.2.2.1
                  have h6 := hyi.2.1.1.2.2.2.2.1
                  refine lv_iload_n hx hb dX4_digest_118 rfl (lv_at hl 2 rfl) ?_
                  refine lv_aload_n hx hb dX4_digest_119 rfl (lv_at hl 0 rfl) ?_
                  refine g_get S hE hI (C := RX4) (T := TX4) (N := 3) (ref := "StonecutterYard") (fun w h => (List.mem_cons_of_mem _ (List.mem_append_left _ (List.mem_append_left _ (List.mem_append_left _ (List.mem_append_left _ (List.mem_append_left _ (List.mem_append_left _ (List.mem_append_right _ h))))))))) hyi.1 rfl 0 (by decide) (List.mem_cons_of_mem _ (List.mem_append_left _ (List.mem_append_left _ (List.mem_append_left _ (List.mem_append_left _ (List.mem_append_left _ (List.mem_append_left _ (List.mem_append_left _ (List.mem_append_left _ (List.mem_of_getElem? (i := 2) rfl)))))))))) (fun _ h9 => h9) (v := .ref (L1 0 0)) rfl dX4_digest_120 ?_
                  refine g_getN S hE hI (C := RX3) (T := TX3) (N := 5) (ref := "StonecutterYard$Stock") (host := "StonecutterYard") (fun w h => (List.mem_cons_of_mem _ (List.mem_append_left _ (List.mem_append_left _ (List.mem_append_left _ (List.mem_append_left _ (List.mem_append_left _ (List.mem_append_right _ h)))))))) hyi.2.1.1.1 rfl 3 (by decide) (List.mem_of_getElem? (i := 7) rfl) (fun _ h9 => h9) (v := .int (nI (yKc y))) rfl dX4_digest_123 ?_
                  refine lv_icmp_ge (tgt := 166) hx hb dX4_digest_126 (by decide) (fun c_126 => ?_) (fun c_126 => ?_)
                  · skip
                    have c_126 : (yKc y) ≤ i := (nI_leI (a := (yKc y)) (b := i) (by omega) (by omega)).mp c_126
                    refine lv_lload_n hx hb dX4_digest_166 rfl (lv_at hl 1 rfl) ?_
                    refine lv_ldc2 hx hb S.2.2.2.1 (S.2.2.2.2 _ (List.mem_cons_of_mem _ (List.mem_append_left _ (List.mem_append_left _ (List.mem_append_left _ (List.mem_append_left _ (List.mem_append_left _ (List.mem_append_left _ (List.mem_append_left _ (List.mem_append_left _ (List.mem_of_getElem? (i := 1) rfl))))))))))) dX4_digest_167 ?_
                    refine lv_lmul hx hb dX4_digest_170 ?_
                    refine lv_aload_n hx hb dX4_digest_171 rfl (lv_at hl 0 rfl) ?_
                    refine lv_bipush (v := nI 12) hx hb dX4_digest_172 (by decide) ?_
                    refine lv_bipush (v := nI 9) hx hb dX4_digest_174 (by decide) ?_
                    refine lv_iconst (v := nI 0) hx hb dX4_digest_176 (by decide) ?_
                    refine g_callV (As := [.int (nI 12), .int (nI 9), .int (nI 0)]) (rest := [.long (d9 * (31))]) (b := hy) (n := 3) S hE hI hA (d_worth l K _ L1 L2 M hy y 12 9 0 hlS hyi ⟨⟨by decide, by decide⟩, ⟨by decide, by decide⟩, by decide⟩) gX4_digest_X4_worth rfl (by decide +kernel) ⟨Nat.le_of_ble_eq_true rfl, Nat.le_of_ble_eq_true rfl⟩ (g_hro hE hI hyi.1 rfl) rfl hl.1 rfl (Nat.le_of_ble_eq_true rfl) dX4_digest_177 ⟨Nat.le_of_ble_eq_true rfl, Nat.le_of_ble_eq_true rfl⟩ (fun E ce q9 Gx H1 locs1 hx9 => hx9.elim) (fun rv Gc_177 H locs hp hI => ?_)
                    obtain ⟨rfl, hy_177, ha9_177⟩ := hp
                    have ha_177 : AgY G Gc_177 := hai.tr ha9_177
                    refine W.eq (g2 := F0 m 180 ls [.int (nI (wV (ySt2 y 0) (yF y) 12 9)), .long (d9 * (31))]) rfl ?_
                    refine lv_i2l hx hb dX4_digest_180 rfl ?_
                    refine lv_ladd hx hb dX4_digest_181 ?_
                    refine lv_lstore_n (lv' := [(1, .long ((d9 * (31)) + ((nI (wV (ySt2 y 0) (yF y) 12 9)).toInt64))), (0, .ref hy), (3, .int (nI i))]) hx hb dX4_digest_182 rfl hl (by decide) rfl (fun ls hl => ?_)
                    refine lv_lload_n hx hb dX4_digest_183 rfl (lv_at hl 0 rfl) ?_
                    refine lv_ldc2 hx hb S.2.2.2.1 (S.2.2.2.2 _ (List.mem_cons_of_mem _ (List.mem_append_left _ (List.mem_append_left _ (List.mem_append_left _ (List.mem_append_left _ (List.mem_append_left _ (List.mem_append_left _ (List.mem_append_left _ (List.mem_append_left _ (List.mem_of_getElem? (i := 1) rfl))))))))))) dX4_digest_184 ?_
                    refine lv_lmul hx hb dX4_digest_187 ?_
                    refine lv_aload_n hx hb dX4_digest_188 rfl (lv_at hl 1 rfl) ?_
                    refine lv_bipush (v := nI 12) hx hb dX4_digest_189 (by decide) ?_
                    refine lv_bipush (v := nI 9) hx hb dX4_digest_191 (by decide) ?_
                    refine lv_iconst (v := nI 0) hx hb dX4_digest_193 (by decide) ?_
                    refine g_callV (As := [.int (nI 12), .int (nI 9), .int (nI 0)]) (rest := [.long (((d9 * (31)) + ((nI (wV (ySt2 y 0) (yF y) 12 9)).toInt64)) * (31))]) (b := hy) (n := 3) S hE hI hA (d_best l K _ L1 L2 M hy y 12 9 0 hlS hy_177 ⟨⟨by decide, by decide⟩, ⟨by decide, by decide⟩, by decide⟩) gX4_digest_X4_bestCut rfl (by decide +kernel) ⟨Nat.le_of_ble_eq_true rfl, Nat.le_of_ble_eq_true rfl⟩ (g_hro hE hI hy_177.1 rfl) rfl hl.1 rfl (Nat.le_of_ble_eq_true rfl) dX4_digest_194 ⟨Nat.le_of_ble_eq_true rfl, Nat.le_of_ble_eq_true rfl⟩ (fun E ce q9 Gx H1 locs1 hx9 => hx9.elim) (fun rv Gc_194 H locs hp hI => ?_)
                    obtain ⟨rfl, hy_194, ha9_194⟩ := hp
                    have ha_194 : AgY G Gc_194 := ha_177.tr ha9_194
                    refine W.eq (g2 := F0 m 197 ls [.int (cE (qV (ySt2 y 0) (yF y) 12 9).2), .long (((d9 * (31)) + ((nI (wV (ySt2 y 0) (yF y) 12 9)).toInt64)) * (31))]) rfl ?_
                    refine lv_i2l hx hb dX4_digest_197 rfl ?_
                    refine lv_ladd hx hb dX4_digest_198 ?_
                    refine lv_lstore_n (lv' := [(1, .long ((((d9 * (31)) + ((nI (wV (ySt2 y 0) (yF y) 12 9)).toInt64)) * (31)) + ((cE (qV (ySt2 y 0) (yF y) 12 9).2).toInt64))), (0, .ref hy), (3, .int (nI i))]) hx hb dX4_digest_199 rfl hl (by decide) rfl (fun ls hl => ?_)
                    refine lv_lload_n hx hb dX4_digest_200 rfl (lv_at hl 0 rfl) ?_
                    refine lv_ldc2 hx hb S.2.2.2.1 (S.2.2.2.2 _ (List.mem_cons_of_mem _ (List.mem_append_left _ (List.mem_append_left _ (List.mem_append_left _ (List.mem_append_left _ (List.mem_append_left _ (List.mem_append_left _ (List.mem_append_left _ (List.mem_append_left _ (List.mem_of_getElem? (i := 1) rfl))))))))))) dX4_digest_201 ?_
                    refine lv_lmul hx hb dX4_digest_204 ?_
                    refine lv_aload_n hx hb dX4_digest_205 rfl (lv_at hl 1 rfl) ?_
                    refine lv_iconst (v := nI 3) hx hb dX4_digest_206 (by decide) ?_
                    refine g_callV (As := [.int (nI 3)]) (rest := [.long (((((d9 * (31)) + ((nI (wV (ySt2 y 0) (yF y) 12 9)).toInt64)) * (31)) + ((cE (qV (ySt2 y 0) (yF y) 12 9).2).toInt64)) * (31))]) (b := hy) (n := 1) S hE hI hA (d_pays l K _ L1 L2 M hy y 3 hlS hy_194 ⟨by decide, by decide⟩) gX4_digest_X4_planPays rfl (by decide +kernel) ⟨Nat.le_of_ble_eq_true rfl, Nat.le_of_ble_eq_true rfl⟩ (g_hro hE hI hy_194.1 rfl) rfl hl.1 rfl (Nat.le_of_ble_eq_true rfl) dX4_digest_207 ⟨Nat.le_of_ble_eq_true rfl, Nat.le_of_ble_eq_true rfl⟩ (fun E ce q9 Gx H1 locs1 hx9 => hx9.elim) (fun rv Gc_207 H locs hp hI => ?_)
                    obtain ⟨rfl, hy_207, ha9_207⟩ := hp
                    have ha_207 : AgY G Gc_207 := ha_194.tr ha9_207
                    refine W.eq (g2 := F0 m 210 ls [.int (yPays y 3), .long (((((d9 * (31)) + ((nI (wV (ySt2 y 0) (yF y) 12 9)).toInt64)) * (31)) + ((cE (qV (ySt2 y 0) (yF y) 12 9).2).toInt64)) * (31))]) rfl ?_
                    refine lv_i2l hx hb dX4_digest_210 rfl ?_
                    refine lv_ladd hx hb dX4_digest_211 ?_
                    exact g_lret S hI hr hlocks (Nat.zero_le _) (Nat.zero_le _) dX4_digest_212 ⟨by rw [hd, show i = yKc y by omega]; rfl, hy_207, ha_207⟩
                  · skip
                    have c_126 : i < (yKc y) := Nat.not_le.mp (fun z => c_126 ((nI_leI (a := (yKc y)) (b := i) (by omega) (by omega)).mpr z))
                    refine lv_iconst (v := nI 0) hx hb dX4_digest_129 (by decide) ?_
                    refine lv_istore (lv' := [(4, .int (nI 0)), (0, .ref hy), (1, .long d9), (3, .int (nI i))]) hx hb dX4_digest_130 hl (by decide) rfl (fun ls hl => ?_)
                    have L132 : ∀ (n : Nat) (j : Nat) (d9 : Int64) (G1 : gW) (H : Heap) (locs : List Loc) (ls : Array Slot) (hn : 8 - j < n) (hj : j ≤ 8) (hd : d9 = dFold (kOf (yK y i)) (dKinds y (dSlabs y (dFold (yMany y) 58105 8) (ySc y)) i) j) (hyi : YardC K L1 L2 M hy G1 y) (hai : AgY G G1), gI K A s G1 H locs → lv_has ls 5 [(0, .ref hy), (1, .long d9), (3, .int (nI i)), (4, .int (nI j))] → W p l e (gRoom 8 190 0 0) s m ([.ref hy] : List Value).toArray below meth c H locs 0 0 (gEnd K below (fun v G1 => v = some (.long (yDigest y)) ∧ YardC K L1 L2 M hy G1 y ∧ AgY G G1) (gNo) A ([.ref hy] : List Value).toArray s 0 0) (F0 m 132 ls []) := by
                      clear hI hl
                      intro n
                      induction n with
                      | zero =>
                        intro j d9 G1 H locs ls hn hj hd hyi hai hI hl
                        exact absurd hn (Nat.not_lt_zero _)
                      | succ n ih132 =>
                        intro j d9 G1 H locs ls hn hj hd hyi hai hI hl
                        have h44 := hyi.2.1.1.2.2.2.1
                        have h6 := hyi.2.1.1.2.2.2.2.1
                        refine lv_iload hx hb dX4_digest_132 (lv_at hl 3 rfl) ?_
                        refine lv_bipush (v := nI 7) hx hb dX4_digest_134 (by decide) ?_
                        refine lv_icmp_gt (tgt := 160) hx hb dX4_digest_136 (by decide) (fun c_136 => ?_) (fun c_136 => ?_)
                        · skip
                          have c_136 : 7 < j := (nI_ltI (a := 7) (b := j) (by omega) (by omega)).mp c_136
                          refine lv_iinc (v := nI (i + 1)) (lv' := [(3, .int (nI (i + 1))), (0, .ref hy), (1, .long d9), (4, .int (nI j))]) hx hb dX4_digest_160 hl (k := 2) rfl (nI_add _ 1) (by decide) rfl (fun ls hl => ?_)
                          refine lv_goto (tgt := 118) hx hb dX4_digest_163 (by decide) ?_
                          exact ih118 (i + 1) _ G1 H locs ls (by omega) (by omega) (by rw [hd, show j = 8 by omega]; rfl) hyi hai hI (lv_sub hl [1,2,0] rfl)
                        · skip
                          have c_136 : j ≤ 7 := Nat.not_lt.mp (fun z => c_136 ((nI_ltI (a := 7) (b := j) (by omega) (by omega)).mpr z))
                          refine lv_lload_n hx hb dX4_digest_139 rfl (lv_at hl 1 rfl) ?_
                          refine lv_ldc2 hx hb S.2.2.2.1 (S.2.2.2.2 _ (List.mem_cons_of_mem _ (List.mem_append_left _ (List.mem_append_left _ (List.mem_append_left _ (List.mem_append_left _ (List.mem_append_left _ (List.mem_append_left _ (List.mem_append_left _ (List.mem_append_left _ (List.mem_of_getElem? (i := 1) rfl))))))))))) dX4_digest_140 ?_
                          refine lv_lmul hx hb dX4_digest_143 ?_
                          refine lv_aload_n hx hb dX4_digest_144 rfl (lv_at hl 0 rfl) ?_
                          refine lv_iload_n hx hb dX4_digest_145 rfl (lv_at hl 2 rfl) ?_
                          refine lv_iload hx hb dX4_digest_146 (lv_at hl 3 rfl) ?_
                          refine g_callV (As := [.int (nI i), .int (nI j)]) (rest := [.long (d9 * (31))]) (b := hy) (n := 2) S hE hI hA (d_ofKind l K _ L1 L2 M hy y i j hlS hyi (by omega) (by omega)) gX4_digest_X4_ofKind rfl (by decide +kernel) ⟨Nat.le_of_ble_eq_true rfl, Nat.le_of_ble_eq_true rfl⟩ (g_hro hE hI hyi.1 rfl) rfl hl.1 rfl (Nat.le_of_ble_eq_true rfl) dX4_digest_148 ⟨Nat.le_of_ble_eq_true rfl, Nat.le_of_ble_eq_true rfl⟩ (fun E ce q9 Gx H1 locs1 hx9 => hx9.elim) (fun rv Gc_148 H locs hp hI => ?_)
                          obtain ⟨rfl, hy_148, ha9_148⟩ := hp
                          have ha_148 : AgY G Gc_148 := hai.tr ha9_148
                          refine W.eq (g2 := F0 m 151 ls [.int (kOf (yK y i) j), .long (d9 * (31))]) rfl ?_
                          refine lv_i2l hx hb dX4_digest_151 rfl ?_
                          refine lv_ladd hx hb dX4_digest_152 ?_
                          refine lv_lstore_n (lv' := [(1, .long ((d9 * (31)) + ((kOf (yK y i) j).toInt64))), (0, .ref hy), (3, .int (nI i)), (4, .int (nI j))]) hx hb dX4_digest_153 rfl hl (by decide) rfl (fun ls hl => ?_)
                          refine lv_iinc (v := nI (j + 1)) (lv' := [(4, .int (nI (j + 1))), (1, .long ((d9 * (31)) + ((kOf (yK y i) j).toInt64))), (0, .ref hy), (3, .int (nI i))]) hx hb dX4_digest_154 hl (k := 3) rfl (nI_add _ 1) (by decide) rfl (fun ls hl => ?_)
                          refine lv_goto (tgt := 132) hx hb dX4_digest_157 (by decide) ?_
                          exact ih132 (j + 1) _ Gc_148 H locs ls (by omega) (by omega) (by rw [hd]; rfl) hy_148 ha_148 hI (lv_sub hl [2,1,3,0] rfl)
                    exact L132 _ 0 _ G1 H locs ls (Nat.lt_succ_self _) (Nat.zero_le _) (by rw [hd]; rfl) hyi hai hI (lv_sub hl [1,2,3,0] rfl)
              exact L118 _ 0 _ G1 H locs ls (Nat.lt_succ_self _) (Nat.zero_le _) (by rw [hd, show i = ySc y by omega]; rfl) hyi hai hI (lv_sub hl [1,2,0] rfl)
            · skip
              have c_41 : i < (ySc y) := Nat.not_le.mp (fun z => c_41 ((nI_leI (a := (ySc y)) (b := i) (by omega) (by omega)).mpr z))
              refine lv_iconst (v := nI 0) hx hb dX4_digest_44 (by decide) ?_
              refine lv_istore (lv' := [(4, .int (nI 0)), (0, .ref hy), (1, .long d9), (3, .int (nI i))]) hx hb dX4_digest_45 hl (by decide) rfl (fun ls hl => ?_)
              have L47 : ∀ (n : Nat) (j : Nat) (d9 : Int64) (G1 : gW) (H : Heap) (locs : List Loc) (ls : Array Slot) (hn : 6 - j < n) (hj : j ≤ 6) (hd : d9 = dFold (sOf (yS y i)) (dSlabs y (dFold (yMany y) 58105 8) i) j) (hyi : YardC K L1 L2 M hy G1 y) (hai : AgY G G1), gI K A s G1 H locs → lv_has ls 5 [(0, .ref hy), (1, .long d9), (3, .int (nI i)), (4, .int (nI j))] → W p l e (gRoom 8 190 0 0) s m ([.ref hy] : List Value).toArray below meth c H locs 0 0 (gEnd K below (fun v G1 => v = some (.long (yDigest y)) ∧ YardC K L1 L2 M hy G1 y ∧ AgY G G1) (gNo) A ([.ref hy] : List Value).toArray s 0 0) (F0 m 47 ls []) := by
                clear hI hl
                intro n
                induction n with
                | zero =>
                  intro j d9 G1 H locs ls hn hj hd hyi hai hI hl
                  exact absurd hn (Nat.not_lt_zero _)
                | succ n ih47 =>
                  intro j d9 G1 H locs ls hn hj hd hyi hai hI hl
                  have h44 := hyi.2.1.1.2.2.2.1
                  have h6 := hyi.2.1.1.2.2.2.2.1
                  refine lv_iload hx hb dX4_digest_47 (lv_at hl 3 rfl) ?_
                  refine lv_iconst (v := nI 5) hx hb dX4_digest_49 (by decide) ?_
                  refine lv_icmp_gt (tgt := 74) hx hb dX4_digest_50 (by decide) (fun c_50 => ?_) (fun c_50 => ?_)
                  · skip
                    have c_50 : 5 < j := (nI_ltI (a := 5) (b := j) (by omega) (by omega)).mp c_50
                    refine lv_iconst (v := nI 0) hx hb dX4_digest_74 (by decide) ?_
                    refine lv_istore (lv' := [(4, .int (nI 0)), (0, .ref hy), (1, .long d9), (3, .int (nI i))]) hx hb dX4_digest_75 hl (by decide) rfl (fun ls hl => ?_)
                    have L77 : ∀ (n : Nat) (j : Nat) (d9 : Int64) (G1 : gW) (H : Heap) (locs : List Loc) (ls : Array Slot) (hn : yKc y - j < n) (hj : j ≤ yKc y) (hd : d9 = dFold (fun j => oI (sFits (yS y i) (yK y j))) (dFold (sOf (yS y i)) (dSlabs y (dFold (yMany y) 58105 8) i) 6) j) (hyi : YardC K L1 L2 M hy G1 y) (hai : AgY G G1), gI K A s G1 H locs → lv_has ls 5 [(0, .ref hy), (1, .long d9), (3, .int (nI i)), (4, .int (nI j))] → W p l e (gRoom 8 190 0 0) s m ([.ref hy] : List Value).toArray below meth c H locs 0 0 (gEnd K below (fun v G1 => v = some (.long (yDigest y)) ∧ YardC K L1 L2 M hy G1 y ∧ AgY G G1) (gNo) A ([.ref hy] : List Value).toArray s 0 0) (F0 m 77 ls []) := by
                      clear hI hl
                      intro n
                      induction n with
                      | zero =>
                        intro j d9 G1 H locs ls hn hj hd hyi hai hI hl
                        exact absurd hn (Nat.not_lt_zero _)
                      | succ n ih77 =>
                        intro j d9 G1 H locs ls hn hj hd hyi hai hI hl
                        have h44 := hyi.2.1.1.2.2.2.1
                        have h6 := hyi.2.1.1.2.2.2.2.1
                        refine lv_iload hx hb dX4_digest_77 (lv_at hl 3 rfl) ?_
                        refine lv_aload_n hx hb dX4_digest_79 rfl (lv_at hl 0 rfl) ?_
                        refine g_get S hE hI (C := RX4) (T := TX4) (N := 3) (ref := "StonecutterYard") (fun w h => (List.mem_cons_of_mem _ (List.mem_append_left _ (List.mem_append_left _ (List.mem_append_left _ (List.mem_append_left _ (List.mem_append_left _ (List.mem_append_left _ (List.mem_append_right _ h))))))))) hyi.1 rfl 0 (by decide) (List.mem_cons_of_mem _ (List.mem_append_left _ (List.mem_append_left _ (List.mem_append_left _ (List.mem_append_left _ (List.mem_append_left _ (List.mem_append_left _ (List.mem_append_left _ (List.mem_append_left _ (List.mem_of_getElem? (i := 2) rfl)))))))))) (fun _ h9 => h9) (v := .ref (L1 0 0)) rfl dX4_digest_80 ?_
                        refine g_getN S hE hI (C := RX3) (T := TX3) (N := 5) (ref := "StonecutterYard$Stock") (host := "StonecutterYard") (fun w h => (List.mem_cons_of_mem _ (List.mem_append_left _ (List.mem_append_left _ (List.mem_append_left _ (List.mem_append_left _ (List.mem_append_left _ (List.mem_append_right _ h)))))))) hyi.2.1.1.1 rfl 3 (by decide) (List.mem_of_getElem? (i := 7) rfl) (fun _ h9 => h9) (v := .int (nI (yKc y))) rfl dX4_digest_83 ?_
                        refine lv_icmp_ge (tgt := 110) hx hb dX4_digest_86 (by decide) (fun c_86 => ?_) (fun c_86 => ?_)
                        · skip
                          have c_86 : (yKc y) ≤ j := (nI_leI (a := (yKc y)) (b := j) (by omega) (by omega)).mp c_86
                          refine lv_iinc (v := nI (i + 1)) (lv' := [(3, .int (nI (i + 1))), (0, .ref hy), (1, .long d9), (4, .int (nI j))]) hx hb dX4_digest_110 hl (k := 2) rfl (nI_add _ 1) (by decide) rfl (fun ls hl => ?_)
                          refine lv_goto (tgt := 33) hx hb dX4_digest_113 (by decide) ?_
                          exact ih33 (i + 1) _ G1 H locs ls (by omega) (by omega) (by rw [hd, show j = yKc y by omega]; rfl) hyi hai hI (lv_sub hl [1,2,0] rfl)
                        · skip
                          have c_86 : j < (yKc y) := Nat.not_le.mp (fun z => c_86 ((nI_leI (a := (yKc y)) (b := j) (by omega) (by omega)).mpr z))
                          refine lv_lload_n hx hb dX4_digest_89 rfl (lv_at hl 1 rfl) ?_
                          refine lv_ldc2 hx hb S.2.2.2.1 (S.2.2.2.2 _ (List.mem_cons_of_mem _ (List.mem_append_left _ (List.mem_append_left _ (List.mem_append_left _ (List.mem_append_left _ (List.mem_append_left _ (List.mem_append_left _ (List.mem_append_left _ (List.mem_append_left _ (List.mem_of_getElem? (i := 1) rfl))))))))))) dX4_digest_90 ?_
                          refine lv_lmul hx hb dX4_digest_93 ?_
                          refine lv_aload_n hx hb dX4_digest_94 rfl (lv_at hl 0 rfl) ?_
                          refine lv_iload_n hx hb dX4_digest_95 rfl (lv_at hl 2 rfl) ?_
                          refine lv_iload hx hb dX4_digest_96 (lv_at hl 3 rfl) ?_
                          refine g_callV (As := [.int (nI i), .int (nI j)]) (rest := [.long (d9 * (31))]) (b := hy) (n := 2) S hE hI hA (d_fits l K _ L1 L2 M hy y i j hlS hyi (by omega) (by omega)) gX4_digest_X4_fits rfl (by decide +kernel) ⟨Nat.le_of_ble_eq_true rfl, Nat.le_of_ble_eq_true rfl⟩ (g_hro hE hI hyi.1 rfl) rfl hl.1 rfl (Nat.le_of_ble_eq_true rfl) dX4_digest_98 ⟨Nat.le_of_ble_eq_true rfl, Nat.le_of_ble_eq_true rfl⟩ (fun E ce q9 Gx H1 locs1 hx9 => hx9.elim) (fun rv Gc_98 H locs hp hI => ?_)
                          obtain ⟨rfl, hy_98, ha9_98⟩ := hp
                          have ha_98 : AgY G Gc_98 := hai.tr ha9_98
                          refine W.eq (g2 := F0 m 101 ls [.int (oI (sFits (yS y i) (yK y j))), .long (d9 * (31))]) rfl ?_
                          refine lv_i2l hx hb dX4_digest_101 rfl ?_
                          refine lv_ladd hx hb dX4_digest_102 ?_
                          refine lv_lstore_n (lv' := [(1, .long ((d9 * (31)) + ((oI (sFits (yS y i) (yK y j))).toInt64))), (0, .ref hy), (3, .int (nI i)), (4, .int (nI j))]) hx hb dX4_digest_103 rfl hl (by decide) rfl (fun ls hl => ?_)
                          refine lv_iinc (v := nI (j + 1)) (lv' := [(4, .int (nI (j + 1))), (1, .long ((d9 * (31)) + ((oI (sFits (yS y i) (yK y j))).toInt64))), (0, .ref hy), (3, .int (nI i))]) hx hb dX4_digest_104 hl (k := 3) rfl (nI_add _ 1) (by decide) rfl (fun ls hl => ?_)
                          refine lv_goto (tgt := 77) hx hb dX4_digest_107 (by decide) ?_
                          exact ih77 (j + 1) _ Gc_98 H locs ls (by omega) (by omega) (by rw [hd]; rfl) hy_98 ha_98 hI (lv_sub hl [2,1,3,0] rfl)
                    exact L77 _ 0 _ G1 H locs ls (Nat.lt_succ_self _) (Nat.zero_le _) (by rw [hd, show j = 6 by omega]; rfl) hyi hai hI (lv_sub hl [1,2,3,0] rfl)
                  · skip
                    have c_50 : j ≤ 5 := Nat.not_lt.mp (fun z => c_50 ((nI_ltI (a := 5) (b := j) (by omega) (by omega)).mpr z))
                    refine lv_lload_n hx hb dX4_digest_53 rfl (lv_at hl 1 rfl) ?_
                    refine lv_ldc2 hx hb S.2.2.2.1 (S.2.2.2.2 _ (List.mem_cons_of_mem _ (List.mem_append_left _ (List.mem_append_left _ (List.mem_append_left _ (List.mem_append_left _ (List.mem_append_left _ (List.mem_append_left _ (List.mem_append_left _ (List.mem_append_left _ (List.mem_of_getElem? (i := 1) rfl))))))))))) dX4_digest_54 ?_
                    refine lv_lmul hx hb dX4_digest_57 ?_
                    refine lv_aload_n hx hb dX4_digest_58 rfl (lv_at hl 0 rfl) ?_
                    refine lv_iload_n hx hb dX4_digest_59 rfl (lv_at hl 2 rfl) ?_
                    refine lv_iload hx hb dX4_digest_60 (lv_at hl 3 rfl) ?_
                    refine g_callV (As := [.int (nI i), .int (nI j)]) (rest := [.long (d9 * (31))]) (b := hy) (n := 2) S hE hI hA (d_ofSlab l K _ L1 L2 M hy y i j hlS hyi (by omega) (by omega)) gX4_digest_X4_ofSlab rfl (by decide +kernel) ⟨Nat.le_of_ble_eq_true rfl, Nat.le_of_ble_eq_true rfl⟩ (g_hro hE hI hyi.1 rfl) rfl hl.1 rfl (Nat.le_of_ble_eq_true rfl) dX4_digest_62 ⟨Nat.le_of_ble_eq_true rfl, Nat.le_of_ble_eq_true rfl⟩ (fun E ce q9 Gx H1 locs1 hx9 => hx9.elim) (fun rv Gc_62 H locs hp hI => ?_)
                    obtain ⟨rfl, hy_62, ha9_62⟩ := hp
                    have ha_62 : AgY G Gc_62 := hai.tr ha9_62
                    refine W.eq (g2 := F0 m 65 ls [.int (sOf (yS y i) j), .long (d9 * (31))]) rfl ?_
                    refine lv_i2l hx hb dX4_digest_65 rfl ?_
                    refine lv_ladd hx hb dX4_digest_66 ?_
                    refine lv_lstore_n (lv' := [(1, .long ((d9 * (31)) + ((sOf (yS y i) j).toInt64))), (0, .ref hy), (3, .int (nI i)), (4, .int (nI j))]) hx hb dX4_digest_67 rfl hl (by decide) rfl (fun ls hl => ?_)
                    refine lv_iinc (v := nI (j + 1)) (lv' := [(4, .int (nI (j + 1))), (1, .long ((d9 * (31)) + ((sOf (yS y i) j).toInt64))), (0, .ref hy), (3, .int (nI i))]) hx hb dX4_digest_68 hl (k := 3) rfl (nI_add _ 1) (by decide) rfl (fun ls hl => ?_)
                    refine lv_goto (tgt := 47) hx hb dX4_digest_71 (by decide) ?_
                    exact ih47 (j + 1) _ Gc_62 H locs ls (by omega) (by omega) (by rw [hd]; rfl) hy_62 ha_62 hI (lv_sub hl [2,1,3,0] rfl)
              exact L47 _ 0 _ G1 H locs ls (Nat.lt_succ_self _) (Nat.zero_le _) (by rw [hd]; rfl) hyi hai hI (lv_sub hl [1,2,3,0] rfl)
        exact L33 _ 0 _ G1 H locs ls (Nat.lt_succ_self _) (Nat.zero_le _) (by rw [hd, show j = 8 by omega]; rfl) hyi hai hI (lv_sub hl [1,2,0] rfl)
      · skip
        have c_9 : j ≤ 7 := Nat.not_lt.mp (fun z => c_9 ((nI_ltI (a := 7) (b := j) (by omega) (by omega)).mpr z))
        refine lv_lload_n hx hb dX4_digest_12 rfl (lv_at hl 1 rfl) ?_
        refine lv_ldc2 hx hb S.2.2.2.1 (S.2.2.2.2 _ (List.mem_cons_of_mem _ (List.mem_append_left _ (List.mem_append_left _ (List.mem_append_left _ (List.mem_append_left _ (List.mem_append_left _ (List.mem_append_left _ (List.mem_append_left _ (List.mem_append_left _ (List.mem_of_getElem? (i := 1) rfl))))))))))) dX4_digest_13 ?_
        refine lv_lmul hx hb dX4_digest_16 ?_
        refine lv_aload_n hx hb dX4_digest_17 rfl (lv_at hl 0 rfl) ?_
        refine lv_iload_n hx hb dX4_digest_18 rfl (lv_at hl 2 rfl) ?_
        refine g_callV (As := [.int (nI j)]) (rest := [.long (d9 * (31))]) (b := hy) (n := 1) S hE hI hA (d_many l K _ L1 L2 M hy y j hlS hyi (by omega)) gX4_digest_X4_many rfl (by decide +kernel) ⟨Nat.le_of_ble_eq_true rfl, Nat.le_of_ble_eq_true rfl⟩ (g_hro hE hI hyi.1 rfl) rfl hl.1 rfl (Nat.le_of_ble_eq_true rfl) dX4_digest_19 ⟨Nat.le_of_ble_eq_true rfl, Nat.le_of_ble_eq_true rfl⟩ (fun E ce q9 Gx H1 locs1 hx9 => hx9.elim) (fun rv Gc_19 H locs hp hI => ?_)
        obtain ⟨rfl, hy_19, ha9_19⟩ := hp
        have ha_19 : AgY G Gc_19 := hai.tr ha9_19
        refine W.eq (g2 := F0 m 22 ls [.int (yMany y j), .long (d9 * (31))]) rfl ?_
        refine lv_i2l hx hb dX4_digest_22 rfl ?_
        refine lv_ladd hx hb dX4_digest_23 ?_
        refine lv_lstore_n (lv' := [(1, .long ((d9 * (31)) + ((yMany y j).toInt64))), (0, .ref hy), (3, .int (nI j))]) hx hb dX4_digest_24 rfl hl (by decide) rfl (fun ls hl => ?_)
        refine lv_iinc (v := nI (j + 1)) (lv' := [(3, .int (nI (j + 1))), (1, .long ((d9 * (31)) + ((yMany y j).toInt64))), (0, .ref hy)]) hx hb dX4_digest_25 hl (k := 2) rfl (nI_add _ 1) (by decide) rfl (fun ls hl => ?_)
        refine lv_goto (tgt := 6) hx hb dX4_digest_28 (by decide) ?_
        exact ih (j + 1) _ Gc_19 H locs ls (by omega) (by omega) (by rw [hd]; rfl) hy_19 ha_19 hI (lv_sub hl [2,1,0] rfl)
  exact L6 _ 0 _ G H locs ls (Nat.lt_succ_self _) (Nat.zero_le _) rfl hy0 AgY.rf hI (lv_sub hl [2,1,0] rfl)
