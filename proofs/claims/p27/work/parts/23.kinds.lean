theorem bI_eq {a b : Bool} : bI a = bI b ↔ a = b := by cases a <;> cases b <;> simp [bI]
set_option maxHeartbeats 4000000 in
set_option maxRecDepth 100000 in
/-- Kind.goesInto(manner, wide, high, grain) -/
theorem c_X0_goesInto (l : Launch) (K : gK) (G : gW) (t : gTag) (h0 : Nat) (k : KV) (mn w h g : Nat) (hg : G t = some (h0, cK k)) (hok : kOK k) (hmn : mn < 2 ∧ w ≤ 24 ∧ h ≤ 24 ∧ g ≤ 1) : gM l yX0_goesInto wsX0_goesInto 2 40 0 0 K [.ref h0, .int (nI mn), .int (nI w), .int (nI h), .int (nI g)] G (fun v G1 => v = some (.int (bI (kGoes k mn w h g))) ∧ G1 = G) (gNo) := by
  refine gM.of (cc := cX0_goesInto) (maxL := 7) (ret := (some .boolean)) (by decide) rfl (Nat.le_of_ble_eq_true rfl) ?_
  intro p e s m below meth c A S hr hlocks htab hname hE hA hI ls hl
  have hx := S.1
  have hb := S.2.1
  have hml := S.2.2.1
  have hl : lv_has ls 7 [(0, .ref h0), (1, .int (nI mn)), (2, .int (nI w)), (3, .int (nI h)), (4, .int (nI g))] := hl
  obtain ⟨k1, k2, k3, k4, k5, k6, k7, k8, k9⟩ := hok
  obtain ⟨b1, b2, b3, b4⟩ := hmn
  obtain ⟨H, hHe⟩ : ∃ z, z = s.heap := ⟨_, rfl⟩
  obtain ⟨locs, hLe⟩ : ∃ z : List Loc, z = [] := ⟨_, rfl⟩
  rw [← hHe, ← hLe]
  have hI : gI K A s G H locs := by rw [hHe, hLe]; exact hI
  clear hHe hLe
  have L11 : ∀ (H : Heap) (locs : List Loc) (ls : Array Slot), gI K A s G H locs → lv_has ls 7 [(0, .ref h0), (1, .int (nI mn)), (2, .int (nI w)), (3, .int (nI h)), (4, .int (nI g))] → W p l e (gRoom 2 40 0 0) s m ([.ref h0, .int (nI mn), .int (nI w), .int (nI h), .int (nI g)] : List Value).toArray below meth c H locs 0 0 (gEnd K below (fun v G1 => v = some (.int (bI (kGoes k mn w h g))) ∧ G1 = G) (gNo) A ([.ref h0, .int (nI mn), .int (nI w), .int (nI h), .int (nI g)] : List Value).toArray s 0 0) (F0 m 11 ls [.int (bI (mn == g))]) := by
    clear hI hl
    intro H locs ls hI hl
    refine lv_istore (lv' := [(5, .int (bI (mn == g))), (0, .ref h0), (1, .int (nI mn)), (2, .int (nI w)), (3, .int (nI h)), (4, .int (nI g))]) hx hb dX0_goesInto_11 hl (by decide) rfl (fun ls hl => ?_)
    refine lv_aload_n hx hb dX0_goesInto_13 rfl (lv_at hl 1 rfl) ?_
    refine g_get S hE hI (C := RX0) (T := TX0) (N := 8) (ref := "StonecutterYard$Kind") (fun w h => (List.mem_cons_of_mem _ (List.mem_append_right _ h))) hg rfl 2 (by decide) (List.mem_cons_of_mem _ (List.mem_append_left _ (List.mem_of_getElem? (i := 0) rfl))) (fun _ h9 => h9) (v := .int (nI (kW k))) rfl dX0_goesInto_14 ?_
    refine lv_if_eq (tgt := 38) hx hb dX0_goesInto_17 (by decide) (fun c_17 => ?_) (fun c_17 => ?_)
    · skip
      have c_17 : (kW k) = 0 := (nI_eq (a := (kW k)) (b := 0) (by omega) (by omega)).mp c_17
      refine lv_iconst (v := nI 1) hx hb dX0_goesInto_38 (by decide) ?_
      refine lv_goto (tgt := 43) hx hb dX0_goesInto_39 (by decide) ?_
      have L43 : ∀ (H : Heap) (locs : List Loc) (ls : Array Slot), gI K A s G H locs → lv_has ls 7 [(0, .ref h0), (1, .int (nI mn)), (2, .int (nI w)), (3, .int (nI h)), (4, .int (nI g))] → W p l e (gRoom 2 40 0 0) s m ([.ref h0, .int (nI mn), .int (nI w), .int (nI h), .int (nI g)] : List Value).toArray below meth c H locs 0 0 (gEnd K below (fun v G1 => v = some (.int (bI (kGoes k mn w h g))) ∧ G1 = G) (gNo) A ([.ref h0, .int (nI mn), .int (nI w), .int (nI h), .int (nI g)] : List Value).toArray s 0 0) (F0 m 43 ls [.int (bI (kAl k mn g))]) := by
        clear hI hl
        intro H locs ls hI hl
        refine lv_istore (lv' := [(6, .int (bI (kAl k mn g))), (0, .ref h0), (1, .int (nI mn)), (2, .int (nI w)), (3, .int (nI h)), (4, .int (nI g))]) hx hb dX0_goesInto_43 hl (by decide) rfl (fun ls hl => ?_)
        refine lv_iload_n hx hb dX0_goesInto_45 rfl (lv_at hl 2 rfl) ?_
        refine lv_if_ne (tgt := 76) hx hb dX0_goesInto_46 (by decide) (fun c_46 => ?_) (fun c_46 => ?_)
        · skip
          have c_46 : mn ≠ 0 := fun z => c_46 ((nI_eq (a := mn) (b := 0) (by omega) (by omega)).mpr z)
          refine lv_iload hx hb dX0_goesInto_76 (lv_at hl 0 rfl) ?_
          refine lv_if_eq (tgt := 101) hx hb dX0_goesInto_78 (by decide) (fun c_78 => ?_) (fun c_78 => ?_)
          · skip
            have c_78 : kAl k mn g = false := bI_0.mp c_78
            refine lv_iconst (v := nI 0) hx hb dX0_goesInto_101 (by decide) ?_
            exact g_zret S hI hr hlocks (Nat.zero_le _) (Nat.zero_le _) (Or.inl rfl) dX0_goesInto_102 ⟨by rw [kG_f1 c_78]; rfl, rfl⟩
          · skip
            have c_78 : kAl k mn g = true := bI_1.mp c_78
            refine lv_aload_n hx hb dX0_goesInto_81 rfl (lv_at hl 1 rfl) ?_
            refine g_get S hE hI (C := RX0) (T := TX0) (N := 8) (ref := "StonecutterYard$Kind") (fun w h => (List.mem_cons_of_mem _ (List.mem_append_right _ h))) hg rfl 1 (by decide) (List.mem_cons_of_mem _ (List.mem_append_left _ (List.mem_of_getElem? (i := 2) rfl))) (fun _ h9 => h9) (v := .int (nI (kB k))) rfl dX0_goesInto_82 ?_
            refine lv_iload_n hx hb dX0_goesInto_85 rfl (lv_at hl 3 rfl) ?_
            refine lv_icmp_gt (tgt := 101) hx hb dX0_goesInto_86 (by decide) (fun c_86 => ?_) (fun c_86 => ?_)
            · skip
              have c_86 : w < (kB k) := (nI_ltI (a := w) (b := (kB k)) (by omega) (by omega)).mp c_86
              refine lv_iconst (v := nI 0) hx hb dX0_goesInto_101 (by decide) ?_
              exact g_zret S hI hr hlocks (Nat.zero_le _) (Nat.zero_le _) (Or.inl rfl) dX0_goesInto_102 ⟨by rw [kG_f2 (show kw k mn = kB k by simp [kw, c_46]) c_86]; rfl, rfl⟩
            · skip
              have c_86 : (kB k) ≤ w := Nat.not_lt.mp (fun z => c_86 ((nI_ltI (a := w) (b := (kB k)) (by omega) (by omega)).mpr z))
              refine lv_aload_n hx hb dX0_goesInto_89 rfl (lv_at hl 1 rfl) ?_
              refine g_get S hE hI (C := RX0) (T := TX0) (N := 8) (ref := "StonecutterYard$Kind") (fun w h => (List.mem_cons_of_mem _ (List.mem_append_right _ h))) hg rfl 0 (by decide) (List.mem_cons_of_mem _ (List.mem_append_left _ (List.mem_of_getElem? (i := 1) rfl))) (fun _ h9 => h9) (v := .int (nI (kL k))) rfl dX0_goesInto_90 ?_
              refine lv_iload_n hx hb dX0_goesInto_93 rfl (lv_at hl 4 rfl) ?_
              refine lv_icmp_gt (tgt := 101) hx hb dX0_goesInto_94 (by decide) (fun c_94 => ?_) (fun c_94 => ?_)
              · skip
                have c_94 : h < (kL k) := (nI_ltI (a := h) (b := (kL k)) (by omega) (by omega)).mp c_94
                refine lv_iconst (v := nI 0) hx hb dX0_goesInto_101 (by decide) ?_
                exact g_zret S hI hr hlocks (Nat.zero_le _) (Nat.zero_le _) (Or.inl rfl) dX0_goesInto_102 ⟨by rw [kG_f3 (show kh k mn = kL k by simp [kh, c_46]) c_94]; rfl, rfl⟩
              · skip
                have c_94 : (kL k) ≤ h := Nat.not_lt.mp (fun z => c_94 ((nI_ltI (a := h) (b := (kL k)) (by omega) (by omega)).mpr z))
                refine lv_iconst (v := nI 1) hx hb dX0_goesInto_97 (by decide) ?_
                refine lv_goto (tgt := 102) hx hb dX0_goesInto_98 (by decide) ?_
                exact g_zret S hI hr hlocks (Nat.zero_le _) (Nat.zero_le _) (Or.inr rfl) dX0_goesInto_102 ⟨by rw [kG_t c_78 (show kw k mn = kB k by simp [kw, c_46]) (show kh k mn = kL k by simp [kh, c_46]) c_86 c_94]; rfl, rfl⟩
        · skip
          have c_46 : mn = 0 := (nI_eq (a := mn) (b := 0) (by omega) (by omega)).mp c_46
          refine lv_iload hx hb dX0_goesInto_49 (lv_at hl 0 rfl) ?_
          refine lv_if_eq (tgt := 74) hx hb dX0_goesInto_51 (by decide) (fun c_51 => ?_) (fun c_51 => ?_)
          · skip
            have c_51 : kAl k mn g = false := bI_0.mp c_51
            refine lv_iconst (v := nI 0) hx hb dX0_goesInto_74 (by decide) ?_
            exact g_zret S hI hr hlocks (Nat.zero_le _) (Nat.zero_le _) (Or.inl rfl) dX0_goesInto_75 ⟨by rw [kG_f1 c_51]; rfl, rfl⟩
          · skip
            have c_51 : kAl k mn g = true := bI_1.mp c_51
            refine lv_aload_n hx hb dX0_goesInto_54 rfl (lv_at hl 1 rfl) ?_
            refine g_get S hE hI (C := RX0) (T := TX0) (N := 8) (ref := "StonecutterYard$Kind") (fun w h => (List.mem_cons_of_mem _ (List.mem_append_right _ h))) hg rfl 0 (by decide) (List.mem_cons_of_mem _ (List.mem_append_left _ (List.mem_of_getElem? (i := 1) rfl))) (fun _ h9 => h9) (v := .int (nI (kL k))) rfl dX0_goesInto_55 ?_
            refine lv_iload_n hx hb dX0_goesInto_58 rfl (lv_at hl 3 rfl) ?_
            refine lv_icmp_gt (tgt := 74) hx hb dX0_goesInto_59 (by decide) (fun c_59 => ?_) (fun c_59 => ?_)
            · skip
              have c_59 : w < (kL k) := (nI_ltI (a := w) (b := (kL k)) (by omega) (by omega)).mp c_59
              refine lv_iconst (v := nI 0) hx hb dX0_goesInto_74 (by decide) ?_
              exact g_zret S hI hr hlocks (Nat.zero_le _) (Nat.zero_le _) (Or.inl rfl) dX0_goesInto_75 ⟨by rw [kG_f2 (show kw k mn = kL k by simp [kw, c_46]) c_59]; rfl, rfl⟩
            · skip
              have c_59 : (kL k) ≤ w := Nat.not_lt.mp (fun z => c_59 ((nI_ltI (a := w) (b := (kL k)) (by omega) (by omega)).mpr z))
              refine lv_aload_n hx hb dX0_goesInto_62 rfl (lv_at hl 1 rfl) ?_
              refine g_get S hE hI (C := RX0) (T := TX0) (N := 8) (ref := "StonecutterYard$Kind") (fun w h => (List.mem_cons_of_mem _ (List.mem_append_right _ h))) hg rfl 1 (by decide) (List.mem_cons_of_mem _ (List.mem_append_left _ (List.mem_of_getElem? (i := 2) rfl))) (fun _ h9 => h9) (v := .int (nI (kB k))) rfl dX0_goesInto_63 ?_
              refine lv_iload_n hx hb dX0_goesInto_66 rfl (lv_at hl 4 rfl) ?_
              refine lv_icmp_gt (tgt := 74) hx hb dX0_goesInto_67 (by decide) (fun c_67 => ?_) (fun c_67 => ?_)
              · skip
                have c_67 : h < (kB k) := (nI_ltI (a := h) (b := (kB k)) (by omega) (by omega)).mp c_67
                refine lv_iconst (v := nI 0) hx hb dX0_goesInto_74 (by decide) ?_
                exact g_zret S hI hr hlocks (Nat.zero_le _) (Nat.zero_le _) (Or.inl rfl) dX0_goesInto_75 ⟨by rw [kG_f3 (show kh k mn = kB k by simp [kh, c_46]) c_67]; rfl, rfl⟩
              · skip
                have c_67 : (kB k) ≤ h := Nat.not_lt.mp (fun z => c_67 ((nI_ltI (a := h) (b := (kB k)) (by omega) (by omega)).mpr z))
                refine lv_iconst (v := nI 1) hx hb dX0_goesInto_70 (by decide) ?_
                refine lv_goto (tgt := 75) hx hb dX0_goesInto_71 (by decide) ?_
                exact g_zret S hI hr hlocks (Nat.zero_le _) (Nat.zero_le _) (Or.inr rfl) dX0_goesInto_75 ⟨by rw [kG_t c_51 (show kw k mn = kL k by simp [kw, c_46]) (show kh k mn = kB k by simp [kh, c_46]) c_59 c_67]; rfl, rfl⟩
      refine W.eq (g2 := F0 m 43 ls [.int (bI (kAl k mn g))]) (by rw [show kAl k mn g = true from by simp_all [kAl]]; rfl) ?_
      exact L43  H locs ls  hI (lv_sub hl [1,2,3,4,5] rfl)
    · skip
      have c_17 : (kW k) ≠ 0 := fun z => c_17 ((nI_eq (a := (kW k)) (b := 0) (by omega) (by omega)).mpr z)
      have L33 : ∀ (H : Heap) (locs : List Loc) (ls : Array Slot) (c_17 : kW k ≠ 0), gI K A s G H locs → lv_has ls 7 [(5, .int (bI (mn == g))), (0, .ref h0), (1, .int (nI mn)), (2, .int (nI w)), (3, .int (nI h)), (4, .int (nI g))] → W p l e (gRoom 2 40 0 0) s m ([.ref h0, .int (nI mn), .int (nI w), .int (nI h), .int (nI g)] : List Value).toArray below meth c H locs 0 0 (gEnd K below (fun v G1 => v = some (.int (bI (kGoes k mn w h g))) ∧ G1 = G) (gNo) A ([.ref h0, .int (nI mn), .int (nI w), .int (nI h), .int (nI g)] : List Value).toArray s 0 0) (F0 m 33 ls [.int (bI (kW k == 1))]) := by
        clear hI hl
        intro H locs ls c_17 hI hl
        refine lv_iload hx hb dX0_goesInto_33 (lv_at hl 0 rfl) ?_
        refine lv_icmp_ne (tgt := 42) hx hb dX0_goesInto_35 (by decide) (fun c_35 => ?_) (fun c_35 => ?_)
        · skip
          have c_35 : ¬ (kW k == 1) = (mn == g) := fun z => c_35 (bI_eq.mpr z)
          refine lv_iconst (v := nI 0) hx hb dX0_goesInto_42 (by decide) ?_
          have L43 : ∀ (H : Heap) (locs : List Loc) (ls : Array Slot), gI K A s G H locs → lv_has ls 7 [(0, .ref h0), (1, .int (nI mn)), (2, .int (nI w)), (3, .int (nI h)), (4, .int (nI g))] → W p l e (gRoom 2 40 0 0) s m ([.ref h0, .int (nI mn), .int (nI w), .int (nI h), .int (nI g)] : List Value).toArray below meth c H locs 0 0 (gEnd K below (fun v G1 => v = some (.int (bI (kGoes k mn w h g))) ∧ G1 = G) (gNo) A ([.ref h0, .int (nI mn), .int (nI w), .int (nI h), .int (nI g)] : List Value).toArray s 0 0) (F0 m 43 ls [.int (bI (kAl k mn g))]) := by
            clear hI hl
            intro H locs ls hI hl
            refine lv_istore (lv' := [(6, .int (bI (kAl k mn g))), (0, .ref h0), (1, .int (nI mn)), (2, .int (nI w)), (3, .int (nI h)), (4, .int (nI g))]) hx hb dX0_goesInto_43 hl (by decide) rfl (fun ls hl => ?_)
            refine lv_iload_n hx hb dX0_goesInto_45 rfl (lv_at hl 2 rfl) ?_
            refine lv_if_ne (tgt := 76) hx hb dX0_goesInto_46 (by decide) (fun c_46 => ?_) (fun c_46 => ?_)
            · skip
              have c_46 : mn ≠ 0 := fun z => c_46 ((nI_eq (a := mn) (b := 0) (by omega) (by omega)).mpr z)
              refine lv_iload hx hb dX0_goesInto_76 (lv_at hl 0 rfl) ?_
              refine lv_if_eq (tgt := 101) hx hb dX0_goesInto_78 (by decide) (fun c_78 => ?_) (fun c_78 => ?_)
              · skip
                have c_78 : kAl k mn g = false := bI_0.mp c_78
                refine lv_iconst (v := nI 0) hx hb dX0_goesInto_101 (by decide) ?_
                exact g_zret S hI hr hlocks (Nat.zero_le _) (Nat.zero_le _) (Or.inl rfl) dX0_goesInto_102 ⟨by rw [kG_f1 c_78]; rfl, rfl⟩
              · skip
                have c_78 : kAl k mn g = true := bI_1.mp c_78
                refine lv_aload_n hx hb dX0_goesInto_81 rfl (lv_at hl 1 rfl) ?_
                refine g_get S hE hI (C := RX0) (T := TX0) (N := 8) (ref := "StonecutterYard$Kind") (fun w h => (List.mem_cons_of_mem _ (List.mem_append_right _ h))) hg rfl 1 (by decide) (List.mem_cons_of_mem _ (List.mem_append_left _ (List.mem_of_getElem? (i := 2) rfl))) (fun _ h9 => h9) (v := .int (nI (kB k))) rfl dX0_goesInto_82 ?_
                refine lv_iload_n hx hb dX0_goesInto_85 rfl (lv_at hl 3 rfl) ?_
                refine lv_icmp_gt (tgt := 101) hx hb dX0_goesInto_86 (by decide) (fun c_86 => ?_) (fun c_86 => ?_)
                · skip
                  have c_86 : w < (kB k) := (nI_ltI (a := w) (b := (kB k)) (by omega) (by omega)).mp c_86
                  refine lv_iconst (v := nI 0) hx hb dX0_goesInto_101 (by decide) ?_
                  exact g_zret S hI hr hlocks (Nat.zero_le _) (Nat.zero_le _) (Or.inl rfl) dX0_goesInto_102 ⟨by rw [kG_f2 (show kw k mn = kB k by simp [kw, c_46]) c_86]; rfl, rfl⟩
                · skip
                  have c_86 : (kB k) ≤ w := Nat.not_lt.mp (fun z => c_86 ((nI_ltI (a := w) (b := (kB k)) (by omega) (by omega)).mpr z))
                  refine lv_aload_n hx hb dX0_goesInto_89 rfl (lv_at hl 1 rfl) ?_
                  refine g_get S hE hI (C := RX0) (T := TX0) (N := 8) (ref := "StonecutterYard$Kind") (fun w h => (List.mem_cons_of_mem _ (List.mem_append_right _ h))) hg rfl 0 (by decide) (List.mem_cons_of_mem _ (List.mem_append_left _ (List.mem_of_getElem? (i := 1) rfl))) (fun _ h9 => h9) (v := .int (nI (kL k))) rfl dX0_goesInto_90 ?_
                  refine lv_iload_n hx hb dX0_goesInto_93 rfl (lv_at hl 4 rfl) ?_
                  refine lv_icmp_gt (tgt := 101) hx hb dX0_goesInto_94 (by decide) (fun c_94 => ?_) (fun c_94 => ?_)
                  · skip
                    have c_94 : h < (kL k) := (nI_ltI (a := h) (b := (kL k)) (by omega) (by omega)).mp c_94
                    refine lv_iconst (v := nI 0) hx hb dX0_goesInto_101 (by decide) ?_
                    exact g_zret S hI hr hlocks (Nat.zero_le _) (Nat.zero_le _) (Or.inl rfl) dX0_goesInto_102 ⟨by rw [kG_f3 (show kh k mn = kL k by simp [kh, c_46]) c_94]; rfl, rfl⟩
                  · skip
                    have c_94 : (kL k) ≤ h := Nat.not_lt.mp (fun z => c_94 ((nI_ltI (a := h) (b := (kL k)) (by omega) (by omega)).mpr z))
                    refine lv_iconst (v := nI 1) hx hb dX0_goesInto_97 (by decide) ?_
                    refine lv_goto (tgt := 102) hx hb dX0_goesInto_98 (by decide) ?_
                    exact g_zret S hI hr hlocks (Nat.zero_le _) (Nat.zero_le _) (Or.inr rfl) dX0_goesInto_102 ⟨by rw [kG_t c_78 (show kw k mn = kB k by simp [kw, c_46]) (show kh k mn = kL k by simp [kh, c_46]) c_86 c_94]; rfl, rfl⟩
            · skip
              have c_46 : mn = 0 := (nI_eq (a := mn) (b := 0) (by omega) (by omega)).mp c_46
              refine lv_iload hx hb dX0_goesInto_49 (lv_at hl 0 rfl) ?_
              refine lv_if_eq (tgt := 74) hx hb dX0_goesInto_51 (by decide) (fun c_51 => ?_) (fun c_51 => ?_)
              · skip
                have c_51 : kAl k mn g = false := bI_0.mp c_51
                refine lv_iconst (v := nI 0) hx hb dX0_goesInto_74 (by decide) ?_
                exact g_zret S hI hr hlocks (Nat.zero_le _) (Nat.zero_le _) (Or.inl rfl) dX0_goesInto_75 ⟨by rw [kG_f1 c_51]; rfl, rfl⟩
              · skip
                have c_51 : kAl k mn g = true := bI_1.mp c_51
                refine lv_aload_n hx hb dX0_goesInto_54 rfl (lv_at hl 1 rfl) ?_
                refine g_get S hE hI (C := RX0) (T := TX0) (N := 8) (ref := "StonecutterYard$Kind") (fun w h => (List.mem_cons_of_mem _ (List.mem_append_right _ h))) hg rfl 0 (by decide) (List.mem_cons_of_mem _ (List.mem_append_left _ (List.mem_of_getElem? (i := 1) rfl))) (fun _ h9 => h9) (v := .int (nI (kL k))) rfl dX0_goesInto_55 ?_
                refine lv_iload_n hx hb dX0_goesInto_58 rfl (lv_at hl 3 rfl) ?_
                refine lv_icmp_gt (tgt := 74) hx hb dX0_goesInto_59 (by decide) (fun c_59 => ?_) (fun c_59 => ?_)
                · skip
                  have c_59 : w < (kL k) := (nI_ltI (a := w) (b := (kL k)) (by omega) (by omega)).mp c_59
                  refine lv_iconst (v := nI 0) hx hb dX0_goesInto_74 (by decide) ?_
                  exact g_zret S hI hr hlocks (Nat.zero_le _) (Nat.zero_le _) (Or.inl rfl) dX0_goesInto_75 ⟨by rw [kG_f2 (show kw k mn = kL k by simp [kw, c_46]) c_59]; rfl, rfl⟩
                · skip
                  have c_59 : (kL k) ≤ w := Nat.not_lt.mp (fun z => c_59 ((nI_ltI (a := w) (b := (kL k)) (by omega) (by omega)).mpr z))
                  refine lv_aload_n hx hb dX0_goesInto_62 rfl (lv_at hl 1 rfl) ?_
                  refine g_get S hE hI (C := RX0) (T := TX0) (N := 8) (ref := "StonecutterYard$Kind") (fun w h => (List.mem_cons_of_mem _ (List.mem_append_right _ h))) hg rfl 1 (by decide) (List.mem_cons_of_mem _ (List.mem_append_left _ (List.mem_of_getElem? (i := 2) rfl))) (fun _ h9 => h9) (v := .int (nI (kB k))) rfl dX0_goesInto_63 ?_
                  refine lv_iload_n hx hb dX0_goesInto_66 rfl (lv_at hl 4 rfl) ?_
                  refine lv_icmp_gt (tgt := 74) hx hb dX0_goesInto_67 (by decide) (fun c_67 => ?_) (fun c_67 => ?_)
                  · skip
                    have c_67 : h < (kB k) := (nI_ltI (a := h) (b := (kB k)) (by omega) (by omega)).mp c_67
                    refine lv_iconst (v := nI 0) hx hb dX0_goesInto_74 (by decide) ?_
                    exact g_zret S hI hr hlocks (Nat.zero_le _) (Nat.zero_le _) (Or.inl rfl) dX0_goesInto_75 ⟨by rw [kG_f3 (show kh k mn = kB k by simp [kh, c_46]) c_67]; rfl, rfl⟩
                  · skip
                    have c_67 : (kB k) ≤ h := Nat.not_lt.mp (fun z => c_67 ((nI_ltI (a := h) (b := (kB k)) (by omega) (by omega)).mpr z))
                    refine lv_iconst (v := nI 1) hx hb dX0_goesInto_70 (by decide) ?_
                    refine lv_goto (tgt := 75) hx hb dX0_goesInto_71 (by decide) ?_
                    exact g_zret S hI hr hlocks (Nat.zero_le _) (Nat.zero_le _) (Or.inr rfl) dX0_goesInto_75 ⟨by rw [kG_t c_51 (show kw k mn = kL k by simp [kw, c_46]) (show kh k mn = kB k by simp [kh, c_46]) c_59 c_67]; rfl, rfl⟩
          refine W.eq (g2 := F0 m 43 ls [.int (bI (kAl k mn g))]) (by rw [show kAl k mn g = false from by simp_all [kAl]]; rfl) ?_
          exact L43  H locs ls  hI (lv_sub hl [1,2,3,4,5] rfl)
        · skip
          have c_35 : (kW k == 1) = (mn == g) := bI_eq.mp c_35
          refine lv_iconst (v := nI 1) hx hb dX0_goesInto_38 (by decide) ?_
          refine lv_goto (tgt := 43) hx hb dX0_goesInto_39 (by decide) ?_
          have L43 : ∀ (H : Heap) (locs : List Loc) (ls : Array Slot), gI K A s G H locs → lv_has ls 7 [(0, .ref h0), (1, .int (nI mn)), (2, .int (nI w)), (3, .int (nI h)), (4, .int (nI g))] → W p l e (gRoom 2 40 0 0) s m ([.ref h0, .int (nI mn), .int (nI w), .int (nI h), .int (nI g)] : List Value).toArray below meth c H locs 0 0 (gEnd K below (fun v G1 => v = some (.int (bI (kGoes k mn w h g))) ∧ G1 = G) (gNo) A ([.ref h0, .int (nI mn), .int (nI w), .int (nI h), .int (nI g)] : List Value).toArray s 0 0) (F0 m 43 ls [.int (bI (kAl k mn g))]) := by
            clear hI hl
            intro H locs ls hI hl
            refine lv_istore (lv' := [(6, .int (bI (kAl k mn g))), (0, .ref h0), (1, .int (nI mn)), (2, .int (nI w)), (3, .int (nI h)), (4, .int (nI g))]) hx hb dX0_goesInto_43 hl (by decide) rfl (fun ls hl => ?_)
            refine lv_iload_n hx hb dX0_goesInto_45 rfl (lv_at hl 2 rfl) ?_
            refine lv_if_ne (tgt := 76) hx hb dX0_goesInto_46 (by decide) (fun c_46 => ?_) (fun c_46 => ?_)
            · skip
              have c_46 : mn ≠ 0 := fun z => c_46 ((nI_eq (a := mn) (b := 0) (by omega) (by omega)).mpr z)
              refine lv_iload hx hb dX0_goesInto_76 (lv_at hl 0 rfl) ?_
              refine lv_if_eq (tgt := 101) hx hb dX0_goesInto_78 (by decide) (fun c_78 => ?_) (fun c_78 => ?_)
              · skip
                have c_78 : kAl k mn g = false := bI_0.mp c_78
                refine lv_iconst (v := nI 0) hx hb dX0_goesInto_101 (by decide) ?_
                exact g_zret S hI hr hlocks (Nat.zero_le _) (Nat.zero_le _) (Or.inl rfl) dX0_goesInto_102 ⟨by rw [kG_f1 c_78]; rfl, rfl⟩
              · skip
                have c_78 : kAl k mn g = true := bI_1.mp c_78
                refine lv_aload_n hx hb dX0_goesInto_81 rfl (lv_at hl 1 rfl) ?_
                refine g_get S hE hI (C := RX0) (T := TX0) (N := 8) (ref := "StonecutterYard$Kind") (fun w h => (List.mem_cons_of_mem _ (List.mem_append_right _ h))) hg rfl 1 (by decide) (List.mem_cons_of_mem _ (List.mem_append_left _ (List.mem_of_getElem? (i := 2) rfl))) (fun _ h9 => h9) (v := .int (nI (kB k))) rfl dX0_goesInto_82 ?_
                refine lv_iload_n hx hb dX0_goesInto_85 rfl (lv_at hl 3 rfl) ?_
                refine lv_icmp_gt (tgt := 101) hx hb dX0_goesInto_86 (by decide) (fun c_86 => ?_) (fun c_86 => ?_)
                · skip
                  have c_86 : w < (kB k) := (nI_ltI (a := w) (b := (kB k)) (by omega) (by omega)).mp c_86
                  refine lv_iconst (v := nI 0) hx hb dX0_goesInto_101 (by decide) ?_
                  exact g_zret S hI hr hlocks (Nat.zero_le _) (Nat.zero_le _) (Or.inl rfl) dX0_goesInto_102 ⟨by rw [kG_f2 (show kw k mn = kB k by simp [kw, c_46]) c_86]; rfl, rfl⟩
                · skip
                  have c_86 : (kB k) ≤ w := Nat.not_lt.mp (fun z => c_86 ((nI_ltI (a := w) (b := (kB k)) (by omega) (by omega)).mpr z))
                  refine lv_aload_n hx hb dX0_goesInto_89 rfl (lv_at hl 1 rfl) ?_
                  refine g_get S hE hI (C := RX0) (T := TX0) (N := 8) (ref := "StonecutterYard$Kind") (fun w h => (List.mem_cons_of_mem _ (List.mem_append_right _ h))) hg rfl 0 (by decide) (List.mem_cons_of_mem _ (List.mem_append_left _ (List.mem_of_getElem? (i := 1) rfl))) (fun _ h9 => h9) (v := .int (nI (kL k))) rfl dX0_goesInto_90 ?_
                  refine lv_iload_n hx hb dX0_goesInto_93 rfl (lv_at hl 4 rfl) ?_
                  refine lv_icmp_gt (tgt := 101) hx hb dX0_goesInto_94 (by decide) (fun c_94 => ?_) (fun c_94 => ?_)
                  · skip
                    have c_94 : h < (kL k) := (nI_ltI (a := h) (b := (kL k)) (by omega) (by omega)).mp c_94
                    refine lv_iconst (v := nI 0) hx hb dX0_goesInto_101 (by decide) ?_
                    exact g_zret S hI hr hlocks (Nat.zero_le _) (Nat.zero_le _) (Or.inl rfl) dX0_goesInto_102 ⟨by rw [kG_f3 (show kh k mn = kL k by simp [kh, c_46]) c_94]; rfl, rfl⟩
                  · skip
                    have c_94 : (kL k) ≤ h := Nat.not_lt.mp (fun z => c_94 ((nI_ltI (a := h) (b := (kL k)) (by omega) (by omega)).mpr z))
                    refine lv_iconst (v := nI 1) hx hb dX0_goesInto_97 (by decide) ?_
                    refine lv_goto (tgt := 102) hx hb dX0_goesInto_98 (by decide) ?_
                    exact g_zret S hI hr hlocks (Nat.zero_le _) (Nat.zero_le _) (Or.inr rfl) dX0_goesInto_102 ⟨by rw [kG_t c_78 (show kw k mn = kB k by simp [kw, c_46]) (show kh k mn = kL k by simp [kh, c_46]) c_86 c_94]; rfl, rfl⟩
            · skip
              have c_46 : mn = 0 := (nI_eq (a := mn) (b := 0) (by omega) (by omega)).mp c_46
              refine lv_iload hx hb dX0_goesInto_49 (lv_at hl 0 rfl) ?_
              refine lv_if_eq (tgt := 74) hx hb dX0_goesInto_51 (by decide) (fun c_51 => ?_) (fun c_51 => ?_)
              · skip
                have c_51 : kAl k mn g = false := bI_0.mp c_51
                refine lv_iconst (v := nI 0) hx hb dX0_goesInto_74 (by decide) ?_
                exact g_zret S hI hr hlocks (Nat.zero_le _) (Nat.zero_le _) (Or.inl rfl) dX0_goesInto_75 ⟨by rw [kG_f1 c_51]; rfl, rfl⟩
              · skip
                have c_51 : kAl k mn g = true := bI_1.mp c_51
                refine lv_aload_n hx hb dX0_goesInto_54 rfl (lv_at hl 1 rfl) ?_
                refine g_get S hE hI (C := RX0) (T := TX0) (N := 8) (ref := "StonecutterYard$Kind") (fun w h => (List.mem_cons_of_mem _ (List.mem_append_right _ h))) hg rfl 0 (by decide) (List.mem_cons_of_mem _ (List.mem_append_left _ (List.mem_of_getElem? (i := 1) rfl))) (fun _ h9 => h9) (v := .int (nI (kL k))) rfl dX0_goesInto_55 ?_
                refine lv_iload_n hx hb dX0_goesInto_58 rfl (lv_at hl 3 rfl) ?_
                refine lv_icmp_gt (tgt := 74) hx hb dX0_goesInto_59 (by decide) (fun c_59 => ?_) (fun c_59 => ?_)
                · skip
                  have c_59 : w < (kL k) := (nI_ltI (a := w) (b := (kL k)) (by omega) (by omega)).mp c_59
                  refine lv_iconst (v := nI 0) hx hb dX0_goesInto_74 (by decide) ?_
                  exact g_zret S hI hr hlocks (Nat.zero_le _) (Nat.zero_le _) (Or.inl rfl) dX0_goesInto_75 ⟨by rw [kG_f2 (show kw k mn = kL k by simp [kw, c_46]) c_59]; rfl, rfl⟩
                · skip
                  have c_59 : (kL k) ≤ w := Nat.not_lt.mp (fun z => c_59 ((nI_ltI (a := w) (b := (kL k)) (by omega) (by omega)).mpr z))
                  refine lv_aload_n hx hb dX0_goesInto_62 rfl (lv_at hl 1 rfl) ?_
                  refine g_get S hE hI (C := RX0) (T := TX0) (N := 8) (ref := "StonecutterYard$Kind") (fun w h => (List.mem_cons_of_mem _ (List.mem_append_right _ h))) hg rfl 1 (by decide) (List.mem_cons_of_mem _ (List.mem_append_left _ (List.mem_of_getElem? (i := 2) rfl))) (fun _ h9 => h9) (v := .int (nI (kB k))) rfl dX0_goesInto_63 ?_
                  refine lv_iload_n hx hb dX0_goesInto_66 rfl (lv_at hl 4 rfl) ?_
                  refine lv_icmp_gt (tgt := 74) hx hb dX0_goesInto_67 (by decide) (fun c_67 => ?_) (fun c_67 => ?_)
                  · skip
                    have c_67 : h < (kB k) := (nI_ltI (a := h) (b := (kB k)) (by omega) (by omega)).mp c_67
                    refine lv_iconst (v := nI 0) hx hb dX0_goesInto_74 (by decide) ?_
                    exact g_zret S hI hr hlocks (Nat.zero_le _) (Nat.zero_le _) (Or.inl rfl) dX0_goesInto_75 ⟨by rw [kG_f3 (show kh k mn = kB k by simp [kh, c_46]) c_67]; rfl, rfl⟩
                  · skip
                    have c_67 : (kB k) ≤ h := Nat.not_lt.mp (fun z => c_67 ((nI_ltI (a := h) (b := (kB k)) (by omega) (by omega)).mpr z))
                    refine lv_iconst (v := nI 1) hx hb dX0_goesInto_70 (by decide) ?_
                    refine lv_goto (tgt := 75) hx hb dX0_goesInto_71 (by decide) ?_
                    exact g_zret S hI hr hlocks (Nat.zero_le _) (Nat.zero_le _) (Or.inr rfl) dX0_goesInto_75 ⟨by rw [kG_t c_51 (show kw k mn = kL k by simp [kw, c_46]) (show kh k mn = kB k by simp [kh, c_46]) c_59 c_67]; rfl, rfl⟩
          refine W.eq (g2 := F0 m 43 ls [.int (bI (kAl k mn g))]) (by rw [show kAl k mn g = true from by simp_all [kAl]]; rfl) ?_
          exact L43  H locs ls  hI (lv_sub hl [1,2,3,4,5] rfl)
      refine lv_aload_n hx hb dX0_goesInto_20 rfl (lv_at hl 1 rfl) ?_
      refine g_get S hE hI (C := RX0) (T := TX0) (N := 8) (ref := "StonecutterYard$Kind") (fun w h => (List.mem_cons_of_mem _ (List.mem_append_right _ h))) hg rfl 2 (by decide) (List.mem_cons_of_mem _ (List.mem_append_left _ (List.mem_of_getElem? (i := 0) rfl))) (fun _ h9 => h9) (v := .int (nI (kW k))) rfl dX0_goesInto_21 ?_
      refine lv_iconst (v := nI 1) hx hb dX0_goesInto_24 (by decide) ?_
      refine lv_icmp_ne (tgt := 32) hx hb dX0_goesInto_25 (by decide) (fun c_25 => ?_) (fun c_25 => ?_)
      · skip
        have c_25 : (kW k) ≠ 1 := fun z => c_25 ((nI_eq (a := (kW k)) (b := 1) (by omega) (by omega)).mpr z)
        refine lv_iconst (v := nI 0) hx hb dX0_goesInto_32 (by decide) ?_
        refine W.eq (g2 := F0 m 33 ls [.int (bI (kW k == 1))]) (by rw [show (kW k == 1) = false from by simp_all]; rfl) ?_
        exact L33  H locs ls c_17 hI (lv_sub hl [0,1,2,3,4,5] rfl)
      · skip
        have c_25 : (kW k) = 1 := (nI_eq (a := (kW k)) (b := 1) (by omega) (by omega)).mp c_25
        refine lv_iconst (v := nI 1) hx hb dX0_goesInto_28 (by decide) ?_
        refine lv_goto (tgt := 33) hx hb dX0_goesInto_29 (by decide) ?_
        refine W.eq (g2 := F0 m 33 ls [.int (bI (kW k == 1))]) (by rw [show (kW k == 1) = true from by simp_all]; rfl) ?_
        exact L33  H locs ls c_17 hI (lv_sub hl [0,1,2,3,4,5] rfl)
  have L43 : ∀ (H : Heap) (locs : List Loc) (ls : Array Slot), gI K A s G H locs → lv_has ls 7 [(0, .ref h0), (1, .int (nI mn)), (2, .int (nI w)), (3, .int (nI h)), (4, .int (nI g))] → W p l e (gRoom 2 40 0 0) s m ([.ref h0, .int (nI mn), .int (nI w), .int (nI h), .int (nI g)] : List Value).toArray below meth c H locs 0 0 (gEnd K below (fun v G1 => v = some (.int (bI (kGoes k mn w h g))) ∧ G1 = G) (gNo) A ([.ref h0, .int (nI mn), .int (nI w), .int (nI h), .int (nI g)] : List Value).toArray s 0 0) (F0 m 43 ls [.int (bI (kAl k mn g))]) := by
    clear hI hl
    intro H locs ls hI hl
    refine lv_istore (lv' := [(6, .int (bI (kAl k mn g))), (0, .ref h0), (1, .int (nI mn)), (2, .int (nI w)), (3, .int (nI h)), (4, .int (nI g))]) hx hb dX0_goesInto_43 hl (by decide) rfl (fun ls hl => ?_)
    refine lv_iload_n hx hb dX0_goesInto_45 rfl (lv_at hl 2 rfl) ?_
    refine lv_if_ne (tgt := 76) hx hb dX0_goesInto_46 (by decide) (fun c_46 => ?_) (fun c_46 => ?_)
    · skip
      have c_46 : mn ≠ 0 := fun z => c_46 ((nI_eq (a := mn) (b := 0) (by omega) (by omega)).mpr z)
      refine lv_iload hx hb dX0_goesInto_76 (lv_at hl 0 rfl) ?_
      refine lv_if_eq (tgt := 101) hx hb dX0_goesInto_78 (by decide) (fun c_78 => ?_) (fun c_78 => ?_)
      · skip
        have c_78 : kAl k mn g = false := bI_0.mp c_78
        refine lv_iconst (v := nI 0) hx hb dX0_goesInto_101 (by decide) ?_
        exact g_zret S hI hr hlocks (Nat.zero_le _) (Nat.zero_le _) (Or.inl rfl) dX0_goesInto_102 ⟨by rw [kG_f1 c_78]; rfl, rfl⟩
      · skip
        have c_78 : kAl k mn g = true := bI_1.mp c_78
        refine lv_aload_n hx hb dX0_goesInto_81 rfl (lv_at hl 1 rfl) ?_
        refine g_get S hE hI (C := RX0) (T := TX0) (N := 8) (ref := "StonecutterYard$Kind") (fun w h => (List.mem_cons_of_mem _ (List.mem_append_right _ h))) hg rfl 1 (by decide) (List.mem_cons_of_mem _ (List.mem_append_left _ (List.mem_of_getElem? (i := 2) rfl))) (fun _ h9 => h9) (v := .int (nI (kB k))) rfl dX0_goesInto_82 ?_
        refine lv_iload_n hx hb dX0_goesInto_85 rfl (lv_at hl 3 rfl) ?_
        refine lv_icmp_gt (tgt := 101) hx hb dX0_goesInto_86 (by decide) (fun c_86 => ?_) (fun c_86 => ?_)
        · skip
          have c_86 : w < (kB k) := (nI_ltI (a := w) (b := (kB k)) (by omega) (by omega)).mp c_86
          refine lv_iconst (v := nI 0) hx hb dX0_goesInto_101 (by decide) ?_
          exact g_zret S hI hr hlocks (Nat.zero_le _) (Nat.zero_le _) (Or.inl rfl) dX0_goesInto_102 ⟨by rw [kG_f2 (show kw k mn = kB k by simp [kw, c_46]) c_86]; rfl, rfl⟩
        · skip
          have c_86 : (kB k) ≤ w := Nat.not_lt.mp (fun z => c_86 ((nI_ltI (a := w) (b := (kB k)) (by omega) (by omega)).mpr z))
          refine lv_aload_n hx hb dX0_goesInto_89 rfl (lv_at hl 1 rfl) ?_
          refine g_get S hE hI (C := RX0) (T := TX0) (N := 8) (ref := "StonecutterYard$Kind") (fun w h => (List.mem_cons_of_mem _ (List.mem_append_right _ h))) hg rfl 0 (by decide) (List.mem_cons_of_mem _ (List.mem_append_left _ (List.mem_of_getElem? (i := 1) rfl))) (fun _ h9 => h9) (v := .int (nI (kL k))) rfl dX0_goesInto_90 ?_
          refine lv_iload_n hx hb dX0_goesInto_93 rfl (lv_at hl 4 rfl) ?_
          refine lv_icmp_gt (tgt := 101) hx hb dX0_goesInto_94 (by decide) (fun c_94 => ?_) (fun c_94 => ?_)
          · skip
            have c_94 : h < (kL k) := (nI_ltI (a := h) (b := (kL k)) (by omega) (by omega)).mp c_94
            refine lv_iconst (v := nI 0) hx hb dX0_goesInto_101 (by decide) ?_
            exact g_zret S hI hr hlocks (Nat.zero_le _) (Nat.zero_le _) (Or.inl rfl) dX0_goesInto_102 ⟨by rw [kG_f3 (show kh k mn = kL k by simp [kh, c_46]) c_94]; rfl, rfl⟩
          · skip
            have c_94 : (kL k) ≤ h := Nat.not_lt.mp (fun z => c_94 ((nI_ltI (a := h) (b := (kL k)) (by omega) (by omega)).mpr z))
            refine lv_iconst (v := nI 1) hx hb dX0_goesInto_97 (by decide) ?_
            refine lv_goto (tgt := 102) hx hb dX0_goesInto_98 (by decide) ?_
            exact g_zret S hI hr hlocks (Nat.zero_le _) (Nat.zero_le _) (Or.inr rfl) dX0_goesInto_102 ⟨by rw [kG_t c_78 (show kw k mn = kB k by simp [kw, c_46]) (show kh k mn = kL k by simp [kh, c_46]) c_86 c_94]; rfl, rfl⟩
    · skip
      have c_46 : mn = 0 := (nI_eq (a := mn) (b := 0) (by omega) (by omega)).mp c_46
      refine lv_iload hx hb dX0_goesInto_49 (lv_at hl 0 rfl) ?_
      refine lv_if_eq (tgt := 74) hx hb dX0_goesInto_51 (by decide) (fun c_51 => ?_) (fun c_51 => ?_)
      · skip
        have c_51 : kAl k mn g = false := bI_0.mp c_51
        refine lv_iconst (v := nI 0) hx hb dX0_goesInto_74 (by decide) ?_
        exact g_zret S hI hr hlocks (Nat.zero_le _) (Nat.zero_le _) (Or.inl rfl) dX0_goesInto_75 ⟨by rw [kG_f1 c_51]; rfl, rfl⟩
      · skip
        have c_51 : kAl k mn g = true := bI_1.mp c_51
        refine lv_aload_n hx hb dX0_goesInto_54 rfl (lv_at hl 1 rfl) ?_
        refine g_get S hE hI (C := RX0) (T := TX0) (N := 8) (ref := "StonecutterYard$Kind") (fun w h => (List.mem_cons_of_mem _ (List.mem_append_right _ h))) hg rfl 0 (by decide) (List.mem_cons_of_mem _ (List.mem_append_left _ (List.mem_of_getElem? (i := 1) rfl))) (fun _ h9 => h9) (v := .int (nI (kL k))) rfl dX0_goesInto_55 ?_
        refine lv_iload_n hx hb dX0_goesInto_58 rfl (lv_at hl 3 rfl) ?_
        refine lv_icmp_gt (tgt := 74) hx hb dX0_goesInto_59 (by decide) (fun c_59 => ?_) (fun c_59 => ?_)
        · skip
          have c_59 : w < (kL k) := (nI_ltI (a := w) (b := (kL k)) (by omega) (by omega)).mp c_59
          refine lv_iconst (v := nI 0) hx hb dX0_goesInto_74 (by decide) ?_
          exact g_zret S hI hr hlocks (Nat.zero_le _) (Nat.zero_le _) (Or.inl rfl) dX0_goesInto_75 ⟨by rw [kG_f2 (show kw k mn = kL k by simp [kw, c_46]) c_59]; rfl, rfl⟩
        · skip
          have c_59 : (kL k) ≤ w := Nat.not_lt.mp (fun z => c_59 ((nI_ltI (a := w) (b := (kL k)) (by omega) (by omega)).mpr z))
          refine lv_aload_n hx hb dX0_goesInto_62 rfl (lv_at hl 1 rfl) ?_
          refine g_get S hE hI (C := RX0) (T := TX0) (N := 8) (ref := "StonecutterYard$Kind") (fun w h => (List.mem_cons_of_mem _ (List.mem_append_right _ h))) hg rfl 1 (by decide) (List.mem_cons_of_mem _ (List.mem_append_left _ (List.mem_of_getElem? (i := 2) rfl))) (fun _ h9 => h9) (v := .int (nI (kB k))) rfl dX0_goesInto_63 ?_
          refine lv_iload_n hx hb dX0_goesInto_66 rfl (lv_at hl 4 rfl) ?_
          refine lv_icmp_gt (tgt := 74) hx hb dX0_goesInto_67 (by decide) (fun c_67 => ?_) (fun c_67 => ?_)
          · skip
            have c_67 : h < (kB k) := (nI_ltI (a := h) (b := (kB k)) (by omega) (by omega)).mp c_67
            refine lv_iconst (v := nI 0) hx hb dX0_goesInto_74 (by decide) ?_
            exact g_zret S hI hr hlocks (Nat.zero_le _) (Nat.zero_le _) (Or.inl rfl) dX0_goesInto_75 ⟨by rw [kG_f3 (show kh k mn = kB k by simp [kh, c_46]) c_67]; rfl, rfl⟩
          · skip
            have c_67 : (kB k) ≤ h := Nat.not_lt.mp (fun z => c_67 ((nI_ltI (a := h) (b := (kB k)) (by omega) (by omega)).mpr z))
            refine lv_iconst (v := nI 1) hx hb dX0_goesInto_70 (by decide) ?_
            refine lv_goto (tgt := 75) hx hb dX0_goesInto_71 (by decide) ?_
            exact g_zret S hI hr hlocks (Nat.zero_le _) (Nat.zero_le _) (Or.inr rfl) dX0_goesInto_75 ⟨by rw [kG_t c_51 (show kw k mn = kL k by simp [kw, c_46]) (show kh k mn = kB k by simp [kh, c_46]) c_59 c_67]; rfl, rfl⟩
  refine lv_iload_n hx hb dX0_goesInto_0 rfl (lv_at hl 1 rfl) ?_
  refine lv_iload hx hb dX0_goesInto_1 (lv_at hl 4 rfl) ?_
  refine lv_icmp_ne (tgt := 10) hx hb dX0_goesInto_3 (by decide) (fun c_3 => ?_) (fun c_3 => ?_)
  · skip
    have c_3 : mn ≠ g := fun z => c_3 ((nI_eq (a := mn) (b := g) (by omega) (by omega)).mpr z)
    refine lv_iconst (v := nI 0) hx hb dX0_goesInto_10 (by decide) ?_
    refine W.eq (g2 := F0 m 11 ls [.int (bI (mn == g))]) (by rw [show (mn == g) = false from by simp_all]; rfl) ?_
    exact L11  H locs ls  hI (lv_sub hl [0,1,2,3,4] rfl)
  · skip
    have c_3 : mn = g := (nI_eq (a := mn) (b := g) (by omega) (by omega)).mp c_3
    refine lv_iconst (v := nI 1) hx hb dX0_goesInto_6 (by decide) ?_
    refine lv_goto (tgt := 11) hx hb dX0_goesInto_7 (by decide) ?_
    refine W.eq (g2 := F0 m 11 ls [.int (bI (mn == g))]) (by rw [show (mn == g) = true from by simp_all]; rfl) ?_
    exact L11  H locs ls  hI (lv_sub hl [0,1,2,3,4] rfl)
set_option maxHeartbeats 4000000 in
set_option maxRecDepth 100000 in
/-- Kind.goesInto(wide, high, grain): in one manner or the other -/
theorem c_X0_goesInto_ (l : Launch) (K : gK) (G : gW) (t : gTag) (h0 : Nat) (k : KV) (w h g : Nat) (hg : G t = some (h0, cK k)) (hok : kOK k) (hb0 : w ≤ 24 ∧ h ≤ 24 ∧ g ≤ 1) : gM l yX0_goesInto_ wsX0_goesInto_ 3 66 0 0 K [.ref h0, .int (nI w), .int (nI h), .int (nI g)] G (fun v G1 => v = some (.int (bI (kGoes k 0 w h g || kGoes k 1 w h g))) ∧ G1 = G) (gNo) := by
  refine gM.of (cc := cX0_goesInto_) (maxL := 4) (ret := (some .boolean)) (by decide) rfl (Nat.le_of_ble_eq_true rfl) ?_
  intro p e s m below meth c A S hr hlocks htab hname hE hA hI ls hl
  have hx := S.1
  have hb := S.2.1
  have hml := S.2.2.1
  have hl : lv_has ls 4 [(0, .ref h0), (1, .int (nI w)), (2, .int (nI h)), (3, .int (nI g))] := hl
  obtain ⟨b2, b3, b4⟩ := hb0
  obtain ⟨H, hHe⟩ : ∃ z, z = s.heap := ⟨_, rfl⟩
  obtain ⟨locs, hLe⟩ : ∃ z : List Loc, z = [] := ⟨_, rfl⟩
  rw [← hHe, ← hLe]
  have hI : gI K A s G H locs := by rw [hHe, hLe]; exact hI
  clear hHe hLe
  refine lv_aload_n hx hb dX0_goesInto__0 rfl (lv_at hl 0 rfl) ?_
  refine lv_iconst (v := nI 0) hx hb dX0_goesInto__1 (by decide) ?_
  refine lv_iload_n hx hb dX0_goesInto__2 rfl (lv_at hl 1 rfl) ?_
  refine lv_iload_n hx hb dX0_goesInto__3 rfl (lv_at hl 2 rfl) ?_
  refine lv_iload_n hx hb dX0_goesInto__4 rfl (lv_at hl 3 rfl) ?_
  refine g_callV (As := [.int (nI 0), .int (nI w), .int (nI h), .int (nI g)]) (rest := []) (b := h0) (n := 4) S hE hI hA (c_X0_goesInto l K _ t h0 k 0 w h g hg hok ⟨by decide, b2, b3, b4⟩) gX0_goesInto__X0_goesInto rfl (by decide +kernel) ⟨Nat.le_of_ble_eq_true rfl, Nat.le_of_ble_eq_true rfl⟩ (g_hro hE hI hg rfl) rfl hl.1 rfl (Nat.le_of_ble_eq_true rfl) dX0_goesInto__5 ⟨Nat.le_of_ble_eq_true rfl, Nat.le_of_ble_eq_true rfl⟩ (fun E ce q9 Gx H1 locs1 hx9 => hx9.elim) (fun rv Gc_5 H locs hp hI => ?_)
  obtain ⟨rfl, hq9⟩ := hp
  rw [hq9] at hI
  refine W.eq (g2 := F0 m 8 ls [.int (bI (kGoes k 0 w h g))]) rfl ?_
  refine lv_if_ne (tgt := 22) hx hb dX0_goesInto__8 (by decide) (fun c_8 => ?_) (fun c_8 => ?_)
  · skip
    have c_8 : (kGoes k 0 w h g) = true := bI_1.mp c_8
    refine lv_iconst (v := nI 1) hx hb dX0_goesInto__22 (by decide) ?_
    refine lv_goto (tgt := 27) hx hb dX0_goesInto__23 (by decide) ?_
    exact g_zret S hI hr hlocks (Nat.zero_le _) (Nat.zero_le _) (Or.inr rfl) dX0_goesInto__27 ⟨by rw [c_8]; rfl, rfl⟩
  · skip
    have c_8 : (kGoes k 0 w h g) = false := bI_0.mp c_8
    refine lv_aload_n hx hb dX0_goesInto__11 rfl (lv_at hl 0 rfl) ?_
    refine lv_iconst (v := nI 1) hx hb dX0_goesInto__12 (by decide) ?_
    refine lv_iload_n hx hb dX0_goesInto__13 rfl (lv_at hl 1 rfl) ?_
    refine lv_iload_n hx hb dX0_goesInto__14 rfl (lv_at hl 2 rfl) ?_
    refine lv_iload_n hx hb dX0_goesInto__15 rfl (lv_at hl 3 rfl) ?_
    refine g_callV (As := [.int (nI 1), .int (nI w), .int (nI h), .int (nI g)]) (rest := []) (b := h0) (n := 4) S hE hI hA (c_X0_goesInto l K _ t h0 k 1 w h g hg hok ⟨by decide, b2, b3, b4⟩) gX0_goesInto__X0_goesInto rfl (by decide +kernel) ⟨Nat.le_of_ble_eq_true rfl, Nat.le_of_ble_eq_true rfl⟩ (g_hro hE hI hg rfl) rfl hl.1 rfl (Nat.le_of_ble_eq_true rfl) dX0_goesInto__16 ⟨Nat.le_of_ble_eq_true rfl, Nat.le_of_ble_eq_true rfl⟩ (fun E ce q9 Gx H1 locs1 hx9 => hx9.elim) (fun rv Gc_16 H locs hp hI => ?_)
    obtain ⟨rfl, hq9⟩ := hp
    rw [hq9] at hI
    refine W.eq (g2 := F0 m 19 ls [.int (bI (kGoes k 1 w h g))]) rfl ?_
    refine lv_if_eq (tgt := 26) hx hb dX0_goesInto__19 (by decide) (fun c_19 => ?_) (fun c_19 => ?_)
    · skip
      have c_19 : (kGoes k 1 w h g) = false := bI_0.mp c_19
      refine lv_iconst (v := nI 0) hx hb dX0_goesInto__26 (by decide) ?_
      exact g_zret S hI hr hlocks (Nat.zero_le _) (Nat.zero_le _) (Or.inl rfl) dX0_goesInto__27 ⟨by rw [c_8, c_19]; rfl, rfl⟩
    · skip
      have c_19 : (kGoes k 1 w h g) = true := bI_1.mp c_19
      refine lv_iconst (v := nI 1) hx hb dX0_goesInto__22 (by decide) ?_
      refine lv_goto (tgt := 27) hx hb dX0_goesInto__23 (by decide) ?_
      exact g_zret S hI hr hlocks (Nat.zero_le _) (Nat.zero_le _) (Or.inr rfl) dX0_goesInto__27 ⟨by rw [c_8, c_19]; rfl, rfl⟩
set_option maxHeartbeats 4000000 in
set_option maxRecDepth 100000 in
/-- Kind.sell() -/
theorem c_X0_sell (l : Launch) (K : gK) (G : gW) (t : gTag) (h0 : Nat) (k : KV) (hg : G t = some (h0, cK k)) (hok : kOK k) : gM l yX0_sell wsX0_sell 2 40 0 0 K [.ref h0] G (fun v G1 => v = some (.int (nI (sellP k))) ∧ G1 = gset G t h0 (cK (sellK k))) (gNo) := by
  refine gM.of (cc := cX0_sell) (maxL := 2) (ret := (some .int)) (by decide) rfl (Nat.le_of_ble_eq_true rfl) ?_
  intro p e s m below meth c A S hr hlocks htab hname hE hA hI ls hl
  have hx := S.1
  have hb := S.2.1
  have hml := S.2.2.1
  have hl : lv_has ls 2 [(0, .ref h0)] := hl
  obtain ⟨k1, k2, k3, k4, k5, k6, k7, k8, k9⟩ := hok
  obtain ⟨H, hHe⟩ : ∃ z, z = s.heap := ⟨_, rfl⟩
  obtain ⟨locs, hLe⟩ : ∃ z : List Loc, z = [] := ⟨_, rfl⟩
  rw [← hHe, ← hLe]
  have hI : gI K A s G H locs := by rw [hHe, hLe]; exact hI
  clear hHe hLe
  refine lv_aload_n hx hb dX0_sell_0 rfl (lv_at hl 0 rfl) ?_
  refine g_get S hE hI (C := RX0) (T := TX0) (N := 8) (ref := "StonecutterYard$Kind") (fun w h => (List.mem_cons_of_mem _ (List.mem_append_right _ h))) hg rfl 5 (by decide) (List.mem_cons_of_mem _ (List.mem_append_left _ (List.mem_of_getElem? (i := 0) rfl))) (fun _ h9 => h9) (v := .int (nI (kN k))) rfl dX0_sell_1 ?_
  refine lv_if_le (tgt := 14) hx hb dX0_sell_4 (by decide) (fun c_4 => ?_) (fun c_4 => ?_)
  · skip
    have c_4 : (kN k) ≤ 0 := (nI_leI (a := (kN k)) (b := 0) (by omega) (by omega)).mp c_4
    refine lv_aload_n hx hb dX0_sell_14 rfl (lv_at hl 0 rfl) ?_
    refine g_get S hE hI (C := RX0) (T := TX0) (N := 8) (ref := "StonecutterYard$Kind") (fun w h => (List.mem_cons_of_mem _ (List.mem_append_right _ h))) hg rfl 4 (by decide) (List.mem_cons_of_mem _ (List.mem_append_left _ (List.mem_of_getElem? (i := 1) rfl))) (fun _ h9 => h9) (v := .int (nI (kP k))) rfl dX0_sell_15 ?_
    refine lv_iconst (v := nI 4) hx hb dX0_sell_18 (by decide) ?_
    refine g_idiv hx hb dX0_sell_19 (by decide) (v := nI (kP k / 4)) (pk_div (by omega) (by decide) (by decide)) ?_
    refine lv_istore_n (lv' := [(1, .int (nI (kP k / 4))), (0, .ref h0)]) hx hb dX0_sell_20 rfl hl (by decide) rfl (fun ls hl => ?_)
    refine lv_aload_n hx hb dX0_sell_21 rfl (lv_at hl 1 rfl) ?_
    refine lv_iconst (v := nI 0) hx hb dX0_sell_22 (by decide) ?_
    refine lv_aload_n hx hb dX0_sell_23 rfl (lv_at hl 1 rfl) ?_
    refine g_get S hE hI (C := RX0) (T := TX0) (N := 8) (ref := "StonecutterYard$Kind") (fun w h => (List.mem_cons_of_mem _ (List.mem_append_right _ h))) hg rfl 5 (by decide) (List.mem_cons_of_mem _ (List.mem_append_left _ (List.mem_of_getElem? (i := 0) rfl))) (fun _ h9 => h9) (v := .int (nI (kN k))) rfl dX0_sell_24 ?_
    refine lv_iconst (v := nI 1) hx hb dX0_sell_27 (by decide) ?_
    refine lv_isub hx hb dX0_sell_28 ?_
    refine g_mmax S hl.1 (S.2.2.2.2 _ (List.mem_cons_of_mem _ (List.mem_append_left _ (List.mem_of_getElem? (i := 2) rfl)))) (S.2.2.2.2 _ (List.mem_cons_of_mem _ (List.mem_append_left _ (List.mem_of_getElem? (i := 3) rfl)))) (S.2.2.2.2 _ (List.mem_cons_of_mem _ (List.mem_append_left _ (List.mem_of_getElem? (i := 4) rfl)))) (S.2.2.2.2 _ (List.mem_cons_of_mem _ (List.mem_append_left _ (List.mem_of_getElem? (i := 5) rfl)))) (Nat.le_of_ble_eq_true rfl) (Nat.le_of_ble_eq_true rfl) (Nat.zero_le _) (Nat.zero_le _) dX0_sell_29 (v := nI (kN k - 1)) (max_dec (by omega)) ?_
    refine g_put S hE hI (C := RX0) (T := TX0) (N := 8) (ref := "StonecutterYard$Kind") (fun w h => (List.mem_cons_of_mem _ (List.mem_append_right _ h))) tyX0 tyX0_ok nmX0 hg rfl 5 (by decide) (List.mem_cons_of_mem _ (List.mem_append_left _ (List.mem_of_getElem? (i := 0) rfl))) (fun _ h9 => h9) rfl rfl rfl (Nat.le_of_ble_eq_true rfl) dX0_sell_32 (fun H locs hI => ?_)
    have hI : gI K A s (gset G t h0 (.inr (1, [.int (nI (kL k)), .int (nI (kB k)), .int (nI (kW k)), .int (nI (kF k)), .int (nI (kP k)), .int (nI (kN k - 1)), .int (nI (kT k)), .int (nI (kD k))]))) H locs := hI
    obtain ⟨G_1, hG_1⟩ : ∃ z, z = gset G t h0 (.inr (1, [.int (nI (kL k)), .int (nI (kB k)), .int (nI (kW k)), .int (nI (kF k)), .int (nI (kP k)), .int (nI (kN k - 1)), .int (nI (kT k)), .int (nI (kD k))])) := ⟨_, rfl⟩
    rw [← hG_1] at hI
    have o_G_1 : G_1 t = some (h0, .inr (1, [.int (nI (kL k)), .int (nI (kB k)), .int (nI (kW k)), .int (nI (kF k)), .int (nI (kP k)), .int (nI (kN k - 1)), .int (nI (kT k)), .int (nI (kD k))])) := by rw [hG_1]; exact gset_eq _ _ _ _
    refine lv_aload_n hx hb dX0_sell_35 rfl (lv_at hl 1 rfl) ?_
    refine lv_dup hx hb dX0_sell_36 rfl ?_
    refine g_get S hE hI (C := RX0) (T := TX0) (N := 8) (ref := "StonecutterYard$Kind") (fun w h => (List.mem_cons_of_mem _ (List.mem_append_right _ h))) o_G_1 rfl 6 (by decide) (List.mem_cons_of_mem _ (List.mem_append_left _ (List.mem_of_getElem? (i := 6) rfl))) (fun _ h9 => h9) (v := .int (nI (kT k))) rfl dX0_sell_37 ?_
    refine lv_iconst (v := nI 1) hx hb dX0_sell_40 (by decide) ?_
    refine t_iadd hx hb dX0_sell_41 (nI_add _ _) ?_
    refine g_put S hE hI (C := RX0) (T := TX0) (N := 8) (ref := "StonecutterYard$Kind") (fun w h => (List.mem_cons_of_mem _ (List.mem_append_right _ h))) tyX0 tyX0_ok nmX0 o_G_1 rfl 6 (by decide) (List.mem_cons_of_mem _ (List.mem_append_left _ (List.mem_of_getElem? (i := 6) rfl))) (fun _ h9 => h9) rfl rfl rfl (Nat.le_of_ble_eq_true rfl) dX0_sell_42 (fun H locs hI => ?_)
    have hI : gI K A s (gset G_1 t h0 (.inr (1, [.int (nI (kL k)), .int (nI (kB k)), .int (nI (kW k)), .int (nI (kF k)), .int (nI (kP k)), .int (nI (kN k - 1)), .int (nI ((kT k) + 1)), .int (nI (kD k))]))) H locs := hI
    obtain ⟨G_2, hG_2⟩ : ∃ z, z = gset G_1 t h0 (.inr (1, [.int (nI (kL k)), .int (nI (kB k)), .int (nI (kW k)), .int (nI (kF k)), .int (nI (kP k)), .int (nI (kN k - 1)), .int (nI ((kT k) + 1)), .int (nI (kD k))])) := ⟨_, rfl⟩
    rw [← hG_2] at hI
    have o_G_2 : G_2 t = some (h0, .inr (1, [.int (nI (kL k)), .int (nI (kB k)), .int (nI (kW k)), .int (nI (kF k)), .int (nI (kP k)), .int (nI (kN k - 1)), .int (nI ((kT k) + 1)), .int (nI (kD k))])) := by rw [hG_2]; exact gset_eq _ _ _ _
    refine lv_aload_n hx hb dX0_sell_45 rfl (lv_at hl 1 rfl) ?_
    refine lv_dup hx hb dX0_sell_46 rfl ?_
    refine g_get S hE hI (C := RX0) (T := TX0) (N := 8) (ref := "StonecutterYard$Kind") (fun w h => (List.mem_cons_of_mem _ (List.mem_append_right _ h))) o_G_2 rfl 7 (by decide) (List.mem_cons_of_mem _ (List.mem_append_left _ (List.mem_of_getElem? (i := 7) rfl))) (fun _ h9 => h9) (v := .int (nI (kD k))) rfl dX0_sell_47 ?_
    refine lv_iload_n hx hb dX0_sell_50 rfl (lv_at hl 0 rfl) ?_
    refine t_iadd hx hb dX0_sell_51 (nI_add _ _) ?_
    refine g_put S hE hI (C := RX0) (T := TX0) (N := 8) (ref := "StonecutterYard$Kind") (fun w h => (List.mem_cons_of_mem _ (List.mem_append_right _ h))) tyX0 tyX0_ok nmX0 o_G_2 rfl 7 (by decide) (List.mem_cons_of_mem _ (List.mem_append_left _ (List.mem_of_getElem? (i := 7) rfl))) (fun _ h9 => h9) rfl rfl rfl (Nat.le_of_ble_eq_true rfl) dX0_sell_52 (fun H locs hI => ?_)
    have hI : gI K A s (gset G_2 t h0 (.inr (1, [.int (nI (kL k)), .int (nI (kB k)), .int (nI (kW k)), .int (nI (kF k)), .int (nI (kP k)), .int (nI (kN k - 1)), .int (nI ((kT k) + 1)), .int (nI ((kD k) + (kP k / 4)))]))) H locs := hI
    obtain ⟨G_3, hG_3⟩ : ∃ z, z = gset G_2 t h0 (.inr (1, [.int (nI (kL k)), .int (nI (kB k)), .int (nI (kW k)), .int (nI (kF k)), .int (nI (kP k)), .int (nI (kN k - 1)), .int (nI ((kT k) + 1)), .int (nI ((kD k) + (kP k / 4)))])) := ⟨_, rfl⟩
    rw [← hG_3] at hI
    have o_G_3 : G_3 t = some (h0, .inr (1, [.int (nI (kL k)), .int (nI (kB k)), .int (nI (kW k)), .int (nI (kF k)), .int (nI (kP k)), .int (nI (kN k - 1)), .int (nI ((kT k) + 1)), .int (nI ((kD k) + (kP k / 4)))])) := by rw [hG_3]; exact gset_eq _ _ _ _
    refine lv_aload_n hx hb dX0_sell_55 rfl (lv_at hl 1 rfl) ?_
    refine lv_iconst (v := nI 1) hx hb dX0_sell_56 (by decide) ?_
    refine lv_aload_n hx hb dX0_sell_57 rfl (lv_at hl 1 rfl) ?_
    refine g_get S hE hI (C := RX0) (T := TX0) (N := 8) (ref := "StonecutterYard$Kind") (fun w h => (List.mem_cons_of_mem _ (List.mem_append_right _ h))) o_G_3 rfl 4 (by decide) (List.mem_cons_of_mem _ (List.mem_append_left _ (List.mem_of_getElem? (i := 1) rfl))) (fun _ h9 => h9) (v := .int (nI (kP k))) rfl dX0_sell_58 ?_
    refine lv_bipush (v := nI 9) hx hb dX0_sell_61 (by decide) ?_
    refine t_imul hx hb dX0_sell_63 (pk_mul _ _) ?_
    refine lv_bipush (v := nI 10) hx hb dX0_sell_64 (by decide) ?_
    refine g_idiv hx hb dX0_sell_66 (by decide) (v := nI (kP k * 9 / 10)) (pk_div (by omega) (by decide) (by decide)) ?_
    refine g_mmax S hl.1 (S.2.2.2.2 _ (List.mem_cons_of_mem _ (List.mem_append_left _ (List.mem_of_getElem? (i := 2) rfl)))) (S.2.2.2.2 _ (List.mem_cons_of_mem _ (List.mem_append_left _ (List.mem_of_getElem? (i := 3) rfl)))) (S.2.2.2.2 _ (List.mem_cons_of_mem _ (List.mem_append_left _ (List.mem_of_getElem? (i := 4) rfl)))) (S.2.2.2.2 _ (List.mem_cons_of_mem _ (List.mem_append_left _ (List.mem_of_getElem? (i := 5) rfl)))) (Nat.le_of_ble_eq_true rfl) (Nat.le_of_ble_eq_true rfl) (Nat.zero_le _) (Nat.zero_le _) dX0_sell_67 (v := nI (max 1 (kP k * 9 / 10))) (max_nI (by decide) (by omega)) ?_
    refine g_put S hE hI (C := RX0) (T := TX0) (N := 8) (ref := "StonecutterYard$Kind") (fun w h => (List.mem_cons_of_mem _ (List.mem_append_right _ h))) tyX0 tyX0_ok nmX0 o_G_3 rfl 4 (by decide) (List.mem_cons_of_mem _ (List.mem_append_left _ (List.mem_of_getElem? (i := 1) rfl))) (fun _ h9 => h9) rfl rfl rfl (Nat.le_of_ble_eq_true rfl) dX0_sell_70 (fun H locs hI => ?_)
    have hI : gI K A s (gset G_3 t h0 (.inr (1, [.int (nI (kL k)), .int (nI (kB k)), .int (nI (kW k)), .int (nI (kF k)), .int (nI (max 1 (kP k * 9 / 10))), .int (nI (kN k - 1)), .int (nI ((kT k) + 1)), .int (nI ((kD k) + (kP k / 4)))]))) H locs := hI
    obtain ⟨G_4, hG_4⟩ : ∃ z, z = gset G_3 t h0 (.inr (1, [.int (nI (kL k)), .int (nI (kB k)), .int (nI (kW k)), .int (nI (kF k)), .int (nI (max 1 (kP k * 9 / 10))), .int (nI (kN k - 1)), .int (nI ((kT k) + 1)), .int (nI ((kD k) + (kP k / 4)))])) := ⟨_, rfl⟩
    rw [← hG_4] at hI
    have o_G_4 : G_4 t = some (h0, .inr (1, [.int (nI (kL k)), .int (nI (kB k)), .int (nI (kW k)), .int (nI (kF k)), .int (nI (max 1 (kP k * 9 / 10))), .int (nI (kN k - 1)), .int (nI ((kT k) + 1)), .int (nI ((kD k) + (kP k / 4)))])) := by rw [hG_4]; exact gset_eq _ _ _ _
    refine lv_iload_n hx hb dX0_sell_73 rfl (lv_at hl 0 rfl) ?_
    have e9 : sellP k = kP k / 4 := if_neg (by omega)
    exact g_iret S hI hr hlocks (Nat.zero_le _) (Nat.zero_le _) dX0_sell_74 ⟨by rw [e9], by rw [hG_4, hG_3, hG_2, hG_1, gset_gset, gset_gset, gset_gset]; unfold sellK; rw [e9]⟩
  · skip
    have c_4 : 0 < (kN k) := Nat.not_le.mp (fun z => c_4 ((nI_leI (a := (kN k)) (b := 0) (by omega) (by omega)).mpr z))
    refine lv_aload_n hx hb dX0_sell_7 rfl (lv_at hl 0 rfl) ?_
    refine g_get S hE hI (C := RX0) (T := TX0) (N := 8) (ref := "StonecutterYard$Kind") (fun w h => (List.mem_cons_of_mem _ (List.mem_append_right _ h))) hg rfl 4 (by decide) (List.mem_cons_of_mem _ (List.mem_append_left _ (List.mem_of_getElem? (i := 1) rfl))) (fun _ h9 => h9) (v := .int (nI (kP k))) rfl dX0_sell_8 ?_
    refine lv_goto (tgt := 20) hx hb dX0_sell_11 (by decide) ?_
    refine lv_istore_n (lv' := [(1, .int (nI (kP k))), (0, .ref h0)]) hx hb dX0_sell_20 rfl hl (by decide) rfl (fun ls hl => ?_)
    refine lv_aload_n hx hb dX0_sell_21 rfl (lv_at hl 1 rfl) ?_
    refine lv_iconst (v := nI 0) hx hb dX0_sell_22 (by decide) ?_
    refine lv_aload_n hx hb dX0_sell_23 rfl (lv_at hl 1 rfl) ?_
    refine g_get S hE hI (C := RX0) (T := TX0) (N := 8) (ref := "StonecutterYard$Kind") (fun w h => (List.mem_cons_of_mem _ (List.mem_append_right _ h))) hg rfl 5 (by decide) (List.mem_cons_of_mem _ (List.mem_append_left _ (List.mem_of_getElem? (i := 0) rfl))) (fun _ h9 => h9) (v := .int (nI (kN k))) rfl dX0_sell_24 ?_
    refine lv_iconst (v := nI 1) hx hb dX0_sell_27 (by decide) ?_
    refine lv_isub hx hb dX0_sell_28 ?_
    refine g_mmax S hl.1 (S.2.2.2.2 _ (List.mem_cons_of_mem _ (List.mem_append_left _ (List.mem_of_getElem? (i := 2) rfl)))) (S.2.2.2.2 _ (List.mem_cons_of_mem _ (List.mem_append_left _ (List.mem_of_getElem? (i := 3) rfl)))) (S.2.2.2.2 _ (List.mem_cons_of_mem _ (List.mem_append_left _ (List.mem_of_getElem? (i := 4) rfl)))) (S.2.2.2.2 _ (List.mem_cons_of_mem _ (List.mem_append_left _ (List.mem_of_getElem? (i := 5) rfl)))) (Nat.le_of_ble_eq_true rfl) (Nat.le_of_ble_eq_true rfl) (Nat.zero_le _) (Nat.zero_le _) dX0_sell_29 (v := nI (kN k - 1)) (max_dec (by omega)) ?_
    refine g_put S hE hI (C := RX0) (T := TX0) (N := 8) (ref := "StonecutterYard$Kind") (fun w h => (List.mem_cons_of_mem _ (List.mem_append_right _ h))) tyX0 tyX0_ok nmX0 hg rfl 5 (by decide) (List.mem_cons_of_mem _ (List.mem_append_left _ (List.mem_of_getElem? (i := 0) rfl))) (fun _ h9 => h9) rfl rfl rfl (Nat.le_of_ble_eq_true rfl) dX0_sell_32 (fun H locs hI => ?_)
    have hI : gI K A s (gset G t h0 (.inr (1, [.int (nI (kL k)), .int (nI (kB k)), .int (nI (kW k)), .int (nI (kF k)), .int (nI (kP k)), .int (nI (kN k - 1)), .int (nI (kT k)), .int (nI (kD k))]))) H locs := hI
    obtain ⟨G_5, hG_5⟩ : ∃ z, z = gset G t h0 (.inr (1, [.int (nI (kL k)), .int (nI (kB k)), .int (nI (kW k)), .int (nI (kF k)), .int (nI (kP k)), .int (nI (kN k - 1)), .int (nI (kT k)), .int (nI (kD k))])) := ⟨_, rfl⟩
    rw [← hG_5] at hI
    have o_G_5 : G_5 t = some (h0, .inr (1, [.int (nI (kL k)), .int (nI (kB k)), .int (nI (kW k)), .int (nI (kF k)), .int (nI (kP k)), .int (nI (kN k - 1)), .int (nI (kT k)), .int (nI (kD k))])) := by rw [hG_5]; exact gset_eq _ _ _ _
    refine lv_aload_n hx hb dX0_sell_35 rfl (lv_at hl 1 rfl) ?_
    refine lv_dup hx hb dX0_sell_36 rfl ?_
    refine g_get S hE hI (C := RX0) (T := TX0) (N := 8) (ref := "StonecutterYard$Kind") (fun w h => (List.mem_cons_of_mem _ (List.mem_append_right _ h))) o_G_5 rfl 6 (by decide) (List.mem_cons_of_mem _ (List.mem_append_left _ (List.mem_of_getElem? (i := 6) rfl))) (fun _ h9 => h9) (v := .int (nI (kT k))) rfl dX0_sell_37 ?_
    refine lv_iconst (v := nI 1) hx hb dX0_sell_40 (by decide) ?_
    refine t_iadd hx hb dX0_sell_41 (nI_add _ _) ?_
    refine g_put S hE hI (C := RX0) (T := TX0) (N := 8) (ref := "StonecutterYard$Kind") (fun w h => (List.mem_cons_of_mem _ (List.mem_append_right _ h))) tyX0 tyX0_ok nmX0 o_G_5 rfl 6 (by decide) (List.mem_cons_of_mem _ (List.mem_append_left _ (List.mem_of_getElem? (i := 6) rfl))) (fun _ h9 => h9) rfl rfl rfl (Nat.le_of_ble_eq_true rfl) dX0_sell_42 (fun H locs hI => ?_)
    have hI : gI K A s (gset G_5 t h0 (.inr (1, [.int (nI (kL k)), .int (nI (kB k)), .int (nI (kW k)), .int (nI (kF k)), .int (nI (kP k)), .int (nI (kN k - 1)), .int (nI ((kT k) + 1)), .int (nI (kD k))]))) H locs := hI
    obtain ⟨G_6, hG_6⟩ : ∃ z, z = gset G_5 t h0 (.inr (1, [.int (nI (kL k)), .int (nI (kB k)), .int (nI (kW k)), .int (nI (kF k)), .int (nI (kP k)), .int (nI (kN k - 1)), .int (nI ((kT k) + 1)), .int (nI (kD k))])) := ⟨_, rfl⟩
    rw [← hG_6] at hI
    have o_G_6 : G_6 t = some (h0, .inr (1, [.int (nI (kL k)), .int (nI (kB k)), .int (nI (kW k)), .int (nI (kF k)), .int (nI (kP k)), .int (nI (kN k - 1)), .int (nI ((kT k) + 1)), .int (nI (kD k))])) := by rw [hG_6]; exact gset_eq _ _ _ _
    refine lv_aload_n hx hb dX0_sell_45 rfl (lv_at hl 1 rfl) ?_
    refine lv_dup hx hb dX0_sell_46 rfl ?_
    refine g_get S hE hI (C := RX0) (T := TX0) (N := 8) (ref := "StonecutterYard$Kind") (fun w h => (List.mem_cons_of_mem _ (List.mem_append_right _ h))) o_G_6 rfl 7 (by decide) (List.mem_cons_of_mem _ (List.mem_append_left _ (List.mem_of_getElem? (i := 7) rfl))) (fun _ h9 => h9) (v := .int (nI (kD k))) rfl dX0_sell_47 ?_
    refine lv_iload_n hx hb dX0_sell_50 rfl (lv_at hl 0 rfl) ?_
    refine t_iadd hx hb dX0_sell_51 (nI_add _ _) ?_
    refine g_put S hE hI (C := RX0) (T := TX0) (N := 8) (ref := "StonecutterYard$Kind") (fun w h => (List.mem_cons_of_mem _ (List.mem_append_right _ h))) tyX0 tyX0_ok nmX0 o_G_6 rfl 7 (by decide) (List.mem_cons_of_mem _ (List.mem_append_left _ (List.mem_of_getElem? (i := 7) rfl))) (fun _ h9 => h9) rfl rfl rfl (Nat.le_of_ble_eq_true rfl) dX0_sell_52 (fun H locs hI => ?_)
    have hI : gI K A s (gset G_6 t h0 (.inr (1, [.int (nI (kL k)), .int (nI (kB k)), .int (nI (kW k)), .int (nI (kF k)), .int (nI (kP k)), .int (nI (kN k - 1)), .int (nI ((kT k) + 1)), .int (nI ((kD k) + (kP k)))]))) H locs := hI
    obtain ⟨G_7, hG_7⟩ : ∃ z, z = gset G_6 t h0 (.inr (1, [.int (nI (kL k)), .int (nI (kB k)), .int (nI (kW k)), .int (nI (kF k)), .int (nI (kP k)), .int (nI (kN k - 1)), .int (nI ((kT k) + 1)), .int (nI ((kD k) + (kP k)))])) := ⟨_, rfl⟩
    rw [← hG_7] at hI
    have o_G_7 : G_7 t = some (h0, .inr (1, [.int (nI (kL k)), .int (nI (kB k)), .int (nI (kW k)), .int (nI (kF k)), .int (nI (kP k)), .int (nI (kN k - 1)), .int (nI ((kT k) + 1)), .int (nI ((kD k) + (kP k)))])) := by rw [hG_7]; exact gset_eq _ _ _ _
    refine lv_aload_n hx hb dX0_sell_55 rfl (lv_at hl 1 rfl) ?_
    refine lv_iconst (v := nI 1) hx hb dX0_sell_56 (by decide) ?_
    refine lv_aload_n hx hb dX0_sell_57 rfl (lv_at hl 1 rfl) ?_
    refine g_get S hE hI (C := RX0) (T := TX0) (N := 8) (ref := "StonecutterYard$Kind") (fun w h => (List.mem_cons_of_mem _ (List.mem_append_right _ h))) o_G_7 rfl 4 (by decide) (List.mem_cons_of_mem _ (List.mem_append_left _ (List.mem_of_getElem? (i := 1) rfl))) (fun _ h9 => h9) (v := .int (nI (kP k))) rfl dX0_sell_58 ?_
    refine lv_bipush (v := nI 9) hx hb dX0_sell_61 (by decide) ?_
    refine t_imul hx hb dX0_sell_63 (pk_mul _ _) ?_
    refine lv_bipush (v := nI 10) hx hb dX0_sell_64 (by decide) ?_
    refine g_idiv hx hb dX0_sell_66 (by decide) (v := nI (kP k * 9 / 10)) (pk_div (by omega) (by decide) (by decide)) ?_
    refine g_mmax S hl.1 (S.2.2.2.2 _ (List.mem_cons_of_mem _ (List.mem_append_left _ (List.mem_of_getElem? (i := 2) rfl)))) (S.2.2.2.2 _ (List.mem_cons_of_mem _ (List.mem_append_left _ (List.mem_of_getElem? (i := 3) rfl)))) (S.2.2.2.2 _ (List.mem_cons_of_mem _ (List.mem_append_left _ (List.mem_of_getElem? (i := 4) rfl)))) (S.2.2.2.2 _ (List.mem_cons_of_mem _ (List.mem_append_left _ (List.mem_of_getElem? (i := 5) rfl)))) (Nat.le_of_ble_eq_true rfl) (Nat.le_of_ble_eq_true rfl) (Nat.zero_le _) (Nat.zero_le _) dX0_sell_67 (v := nI (max 1 (kP k * 9 / 10))) (max_nI (by decide) (by omega)) ?_
    refine g_put S hE hI (C := RX0) (T := TX0) (N := 8) (ref := "StonecutterYard$Kind") (fun w h => (List.mem_cons_of_mem _ (List.mem_append_right _ h))) tyX0 tyX0_ok nmX0 o_G_7 rfl 4 (by decide) (List.mem_cons_of_mem _ (List.mem_append_left _ (List.mem_of_getElem? (i := 1) rfl))) (fun _ h9 => h9) rfl rfl rfl (Nat.le_of_ble_eq_true rfl) dX0_sell_70 (fun H locs hI => ?_)
    have hI : gI K A s (gset G_7 t h0 (.inr (1, [.int (nI (kL k)), .int (nI (kB k)), .int (nI (kW k)), .int (nI (kF k)), .int (nI (max 1 (kP k * 9 / 10))), .int (nI (kN k - 1)), .int (nI ((kT k) + 1)), .int (nI ((kD k) + (kP k)))]))) H locs := hI
    obtain ⟨G_8, hG_8⟩ : ∃ z, z = gset G_7 t h0 (.inr (1, [.int (nI (kL k)), .int (nI (kB k)), .int (nI (kW k)), .int (nI (kF k)), .int (nI (max 1 (kP k * 9 / 10))), .int (nI (kN k - 1)), .int (nI ((kT k) + 1)), .int (nI ((kD k) + (kP k)))])) := ⟨_, rfl⟩
    rw [← hG_8] at hI
    have o_G_8 : G_8 t = some (h0, .inr (1, [.int (nI (kL k)), .int (nI (kB k)), .int (nI (kW k)), .int (nI (kF k)), .int (nI (max 1 (kP k * 9 / 10))), .int (nI (kN k - 1)), .int (nI ((kT k) + 1)), .int (nI ((kD k) + (kP k)))])) := by rw [hG_8]; exact gset_eq _ _ _ _
    refine lv_iload_n hx hb dX0_sell_73 rfl (lv_at hl 0 rfl) ?_
    have e9 : sellP k = kP k := if_pos c_4
    exact g_iret S hI hr hlocks (Nat.zero_le _) (Nat.zero_le _) dX0_sell_74 ⟨by rw [e9], by rw [hG_8, hG_7, hG_6, hG_5, gset_gset, gset_gset, gset_gset]; unfold sellK; rw [e9]⟩
set_option maxHeartbeats 4000000 in
set_option maxRecDepth 100000 in
/-- Kind.becomeDearer() -/
theorem c_X0_becomeDearer (l : Launch) (K : gK) (G : gW) (t : gTag) (h0 : Nat) (k : KV) (hg : G t = some (h0, cK k)) (hok : kOK k) : gM l yX0_becomeDearer wsX0_becomeDearer 2 40 0 0 K [.ref h0] G (fun v G1 => v = none ∧ G1 = gset G t h0 (cK (dearK k))) (gNo) := by
  refine gM.of (cc := cX0_becomeDearer) (maxL := 1) (ret := none) (by decide) rfl (Nat.le_of_ble_eq_true rfl) ?_
  intro p e s m below meth c A S hr hlocks htab hname hE hA hI ls hl
  have hx := S.1
  have hb := S.2.1
  have hml := S.2.2.1
  have hl : lv_has ls 1 [(0, .ref h0)] := hl
  obtain ⟨k1, k2, k3, k4, k5, k6, k7, k8, k9⟩ := hok
  obtain ⟨H, hHe⟩ : ∃ z, z = s.heap := ⟨_, rfl⟩
  obtain ⟨locs, hLe⟩ : ∃ z : List Loc, z = [] := ⟨_, rfl⟩
  rw [← hHe, ← hLe]
  have hI : gI K A s G H locs := by rw [hHe, hLe]; exact hI
  clear hHe hLe
  refine lv_aload_n hx hb dX0_becomeDearer_0 rfl (lv_at hl 0 rfl) ?_
  refine lv_sipush (v := nI 999) hx hb dX0_becomeDearer_1 (by decide) ?_
  refine lv_aload_n hx hb dX0_becomeDearer_4 rfl (lv_at hl 0 rfl) ?_
  refine g_get S hE hI (C := RX0) (T := TX0) (N := 8) (ref := "StonecutterYard$Kind") (fun w h => (List.mem_cons_of_mem _ (List.mem_append_right _ h))) hg rfl 4 (by decide) (List.mem_cons_of_mem _ (List.mem_append_left _ (List.mem_of_getElem? (i := 0) rfl))) (fun _ h9 => h9) (v := .int (nI (kP k))) rfl dX0_becomeDearer_5 ?_
  refine lv_iconst (v := nI 1) hx hb dX0_becomeDearer_8 (by decide) ?_
  refine t_iadd hx hb dX0_becomeDearer_9 (nI_add _ _) ?_
  refine g_mmin S hl.1 (S.2.2.2.2 _ (List.mem_cons_of_mem _ (List.mem_append_left _ (List.mem_of_getElem? (i := 1) rfl)))) (S.2.2.2.2 _ (List.mem_cons_of_mem _ (List.mem_append_left _ (List.mem_of_getElem? (i := 2) rfl)))) (S.2.2.2.2 _ (List.mem_cons_of_mem _ (List.mem_append_left _ (List.mem_of_getElem? (i := 3) rfl)))) (S.2.2.2.2 _ (List.mem_cons_of_mem _ (List.mem_append_left _ (List.mem_of_getElem? (i := 4) rfl)))) (Nat.le_of_ble_eq_true rfl) (Nat.le_of_ble_eq_true rfl) (Nat.zero_le _) (Nat.zero_le _) dX0_becomeDearer_10 (v := nI (min 999 (kP k + 1))) (min_nI (by decide) (by omega)) ?_
  refine g_put S hE hI (C := RX0) (T := TX0) (N := 8) (ref := "StonecutterYard$Kind") (fun w h => (List.mem_cons_of_mem _ (List.mem_append_right _ h))) tyX0 tyX0_ok nmX0 hg rfl 4 (by decide) (List.mem_cons_of_mem _ (List.mem_append_left _ (List.mem_of_getElem? (i := 0) rfl))) (fun _ h9 => h9) rfl rfl rfl (Nat.le_of_ble_eq_true rfl) dX0_becomeDearer_13 (fun H locs hI => ?_)
  have hI : gI K A s (gset G t h0 (.inr (1, [.int (nI (kL k)), .int (nI (kB k)), .int (nI (kW k)), .int (nI (kF k)), .int (nI (min 999 (kP k + 1))), .int (nI (kN k)), .int (nI (kT k)), .int (nI (kD k))]))) H locs := hI
  obtain ⟨G_1, hG_1⟩ : ∃ z, z = gset G t h0 (.inr (1, [.int (nI (kL k)), .int (nI (kB k)), .int (nI (kW k)), .int (nI (kF k)), .int (nI (min 999 (kP k + 1))), .int (nI (kN k)), .int (nI (kT k)), .int (nI (kD k))])) := ⟨_, rfl⟩
  rw [← hG_1] at hI
  have o_G_1 : G_1 t = some (h0, .inr (1, [.int (nI (kL k)), .int (nI (kB k)), .int (nI (kW k)), .int (nI (kF k)), .int (nI (min 999 (kP k + 1))), .int (nI (kN k)), .int (nI (kT k)), .int (nI (kD k))])) := by rw [hG_1]; exact gset_eq _ _ _ _
  exact g_vret S hI hr hlocks (Nat.zero_le _) (Nat.zero_le _) dX0_becomeDearer_16 ⟨rfl, hG_1⟩
set_option maxHeartbeats 4000000 in
set_option maxRecDepth 100000 in
/-- Kind.copyFrom(other) -/
theorem c_X0_copyFrom (l : Launch) (K : gK) (G : gW) (t : gTag) (h0 : Nat) (k : KV) (t2 : gTag) (h1 : Nat) (k2 : KV) (hg : G t = some (h0, cK k)) (hg2 : G t2 = some (h1, cK k2)) (hne : t ≠ t2) : gM l yX0_copyFrom wsX0_copyFrom 3 63 0 0 K [.ref h0, .ref h1] G (fun v G1 => v = none ∧ G1 = gset G t h0 (cK k2)) (gNo) := by
  refine gM.of (cc := cX0_copyFrom) (maxL := 2) (ret := none) (by decide) rfl (Nat.le_of_ble_eq_true rfl) ?_
  intro p e s m below meth c A S hr hlocks htab hname hE hA hI ls hl
  have hx := S.1
  have hb := S.2.1
  have hml := S.2.2.1
  have hl : lv_has ls 2 [(0, .ref h0), (1, .ref h1)] := hl
  obtain ⟨H, hHe⟩ : ∃ z, z = s.heap := ⟨_, rfl⟩
  obtain ⟨locs, hLe⟩ : ∃ z : List Loc, z = [] := ⟨_, rfl⟩
  rw [← hHe, ← hLe]
  have hI : gI K A s G H locs := by rw [hHe, hLe]; exact hI
  clear hHe hLe
  refine lv_aload_n hx hb dX0_copyFrom_0 rfl (lv_at hl 0 rfl) ?_
  refine lv_aload_n hx hb dX0_copyFrom_1 rfl (lv_at hl 1 rfl) ?_
  refine g_get S hE hI (C := RX0) (T := TX0) (N := 8) (ref := "StonecutterYard$Kind") (fun w h => (List.mem_cons_of_mem _ (List.mem_append_right _ h))) hg2 rfl 0 (by decide) (List.mem_cons_of_mem _ (List.mem_append_left _ (List.mem_of_getElem? (i := 0) rfl))) (fun _ h9 => h9) (v := .int (nI (kL k2))) rfl dX0_copyFrom_2 ?_
  refine lv_aload_n hx hb dX0_copyFrom_5 rfl (lv_at hl 1 rfl) ?_
  refine g_get S hE hI (C := RX0) (T := TX0) (N := 8) (ref := "StonecutterYard$Kind") (fun w h => (List.mem_cons_of_mem _ (List.mem_append_right _ h))) hg2 rfl 1 (by decide) (List.mem_cons_of_mem _ (List.mem_append_left _ (List.mem_of_getElem? (i := 1) rfl))) (fun _ h9 => h9) (v := .int (nI (kB k2))) rfl dX0_copyFrom_6 ?_
  refine lv_aload_n hx hb dX0_copyFrom_9 rfl (lv_at hl 1 rfl) ?_
  refine g_get S hE hI (C := RX0) (T := TX0) (N := 8) (ref := "StonecutterYard$Kind") (fun w h => (List.mem_cons_of_mem _ (List.mem_append_right _ h))) hg2 rfl 4 (by decide) (List.mem_cons_of_mem _ (List.mem_append_left _ (List.mem_of_getElem? (i := 2) rfl))) (fun _ h9 => h9) (v := .int (nI (kP k2))) rfl dX0_copyFrom_10 ?_
  refine g_callV (As := [.int (nI (kL k2)), .int (nI (kB k2)), .int (nI (kP k2))]) (rest := []) (b := h0) (n := 3) S hE hI hA (c_X0_begin l K _ t h0 k (kL k2) (kB k2) (kP k2) hg) gX0_copyFrom_X0_begin rfl (by decide +kernel) ⟨Nat.le_of_ble_eq_true rfl, Nat.le_of_ble_eq_true rfl⟩ (g_hro hE hI hg rfl) rfl hl.1 rfl (Nat.le_of_ble_eq_true rfl) dX0_copyFrom_13 ⟨Nat.le_of_ble_eq_true rfl, Nat.le_of_ble_eq_true rfl⟩ (fun E ce q9 Gx H1 locs1 hx9 => hx9.elim) (fun rv Gc_13 H locs hp hI => ?_)
  obtain ⟨rfl, hGc⟩ := hp
  have hga : Gc_13 t = some (h0, cK (kL k2, kB k2, kW k, kF k, kP k2, kN k, kT k, kD k)) := by rw [hGc]; exact gset_eq _ _ _ _
  have hgb : Gc_13 t2 = some (h1, cK k2) := by rw [hGc, gset_ne (Ne.symm hne)]; exact hg2
  refine W.eq (g2 := F0 m 16 ls []) rfl ?_
  refine lv_aload_n hx hb dX0_copyFrom_16 rfl (lv_at hl 0 rfl) ?_
  refine lv_aload_n hx hb dX0_copyFrom_17 rfl (lv_at hl 1 rfl) ?_
  refine g_get S hE hI (C := RX0) (T := TX0) (N := 8) (ref := "StonecutterYard$Kind") (fun w h => (List.mem_cons_of_mem _ (List.mem_append_right _ h))) hgb rfl 2 (by decide) (List.mem_cons_of_mem _ (List.mem_append_left _ (List.mem_of_getElem? (i := 3) rfl))) (fun _ h9 => h9) (v := .int (nI (kW k2))) rfl dX0_copyFrom_18 ?_
  refine g_put S hE hI (C := RX0) (T := TX0) (N := 8) (ref := "StonecutterYard$Kind") (fun w h => (List.mem_cons_of_mem _ (List.mem_append_right _ h))) tyX0 tyX0_ok nmX0 hga rfl 2 (by decide) (List.mem_cons_of_mem _ (List.mem_append_left _ (List.mem_of_getElem? (i := 3) rfl))) (fun _ h9 => h9) rfl rfl rfl (Nat.le_of_ble_eq_true rfl) dX0_copyFrom_21 (fun H locs hI => ?_)
  have hI : gI K A s (gset Gc_13 t h0 (.inr (1, [.int (nI (kL k2)), .int (nI (kB k2)), .int (nI (kW k2)), .int (nI (kF k)), .int (nI (kP k2)), .int (nI (kN k)), .int (nI (kT k)), .int (nI (kD k))]))) H locs := hI
  obtain ⟨G_1, hG_1⟩ : ∃ z, z = gset Gc_13 t h0 (.inr (1, [.int (nI (kL k2)), .int (nI (kB k2)), .int (nI (kW k2)), .int (nI (kF k)), .int (nI (kP k2)), .int (nI (kN k)), .int (nI (kT k)), .int (nI (kD k))])) := ⟨_, rfl⟩
  rw [← hG_1] at hI
  have o2_G_1 : G_1 t2 = some (h1, .inr (1, [.int (nI (kL k2)), .int (nI (kB k2)), .int (nI (kW k2)), .int (nI (kF k2)), .int (nI (kP k2)), .int (nI (kN k2)), .int (nI (kT k2)), .int (nI (kD k2))])) := by rw [hG_1, gset_ne (Ne.symm hne)]; exact hgb
  have o_G_1 : G_1 t = some (h0, .inr (1, [.int (nI (kL k2)), .int (nI (kB k2)), .int (nI (kW k2)), .int (nI (kF k)), .int (nI (kP k2)), .int (nI (kN k)), .int (nI (kT k)), .int (nI (kD k))])) := by rw [hG_1]; exact gset_eq _ _ _ _
  refine lv_aload_n hx hb dX0_copyFrom_24 rfl (lv_at hl 0 rfl) ?_
  refine lv_aload_n hx hb dX0_copyFrom_25 rfl (lv_at hl 1 rfl) ?_
  refine g_get S hE hI (C := RX0) (T := TX0) (N := 8) (ref := "StonecutterYard$Kind") (fun w h => (List.mem_cons_of_mem _ (List.mem_append_right _ h))) o2_G_1 rfl 3 (by decide) (List.mem_cons_of_mem _ (List.mem_append_left _ (List.mem_of_getElem? (i := 4) rfl))) (fun _ h9 => h9) (v := .int (nI (kF k2))) rfl dX0_copyFrom_26 ?_
  refine g_put S hE hI (C := RX0) (T := TX0) (N := 8) (ref := "StonecutterYard$Kind") (fun w h => (List.mem_cons_of_mem _ (List.mem_append_right _ h))) tyX0 tyX0_ok nmX0 o_G_1 rfl 3 (by decide) (List.mem_cons_of_mem _ (List.mem_append_left _ (List.mem_of_getElem? (i := 4) rfl))) (fun _ h9 => h9) rfl rfl rfl (Nat.le_of_ble_eq_true rfl) dX0_copyFrom_29 (fun H locs hI => ?_)
  have hI : gI K A s (gset G_1 t h0 (.inr (1, [.int (nI (kL k2)), .int (nI (kB k2)), .int (nI (kW k2)), .int (nI (kF k2)), .int (nI (kP k2)), .int (nI (kN k)), .int (nI (kT k)), .int (nI (kD k))]))) H locs := hI
  obtain ⟨G_2, hG_2⟩ : ∃ z, z = gset G_1 t h0 (.inr (1, [.int (nI (kL k2)), .int (nI (kB k2)), .int (nI (kW k2)), .int (nI (kF k2)), .int (nI (kP k2)), .int (nI (kN k)), .int (nI (kT k)), .int (nI (kD k))])) := ⟨_, rfl⟩
  rw [← hG_2] at hI
  have o2_G_2 : G_2 t2 = some (h1, .inr (1, [.int (nI (kL k2)), .int (nI (kB k2)), .int (nI (kW k2)), .int (nI (kF k2)), .int (nI (kP k2)), .int (nI (kN k2)), .int (nI (kT k2)), .int (nI (kD k2))])) := by rw [hG_2, gset_ne (Ne.symm hne)]; exact o2_G_1
  have o_G_2 : G_2 t = some (h0, .inr (1, [.int (nI (kL k2)), .int (nI (kB k2)), .int (nI (kW k2)), .int (nI (kF k2)), .int (nI (kP k2)), .int (nI (kN k)), .int (nI (kT k)), .int (nI (kD k))])) := by rw [hG_2]; exact gset_eq _ _ _ _
  refine lv_aload_n hx hb dX0_copyFrom_32 rfl (lv_at hl 0 rfl) ?_
  refine lv_aload_n hx hb dX0_copyFrom_33 rfl (lv_at hl 1 rfl) ?_
  refine g_get S hE hI (C := RX0) (T := TX0) (N := 8) (ref := "StonecutterYard$Kind") (fun w h => (List.mem_cons_of_mem _ (List.mem_append_right _ h))) o2_G_2 rfl 5 (by decide) (List.mem_cons_of_mem _ (List.mem_append_left _ (List.mem_of_getElem? (i := 5) rfl))) (fun _ h9 => h9) (v := .int (nI (kN k2))) rfl dX0_copyFrom_34 ?_
  refine g_put S hE hI (C := RX0) (T := TX0) (N := 8) (ref := "StonecutterYard$Kind") (fun w h => (List.mem_cons_of_mem _ (List.mem_append_right _ h))) tyX0 tyX0_ok nmX0 o_G_2 rfl 5 (by decide) (List.mem_cons_of_mem _ (List.mem_append_left _ (List.mem_of_getElem? (i := 5) rfl))) (fun _ h9 => h9) rfl rfl rfl (Nat.le_of_ble_eq_true rfl) dX0_copyFrom_37 (fun H locs hI => ?_)
  have hI : gI K A s (gset G_2 t h0 (.inr (1, [.int (nI (kL k2)), .int (nI (kB k2)), .int (nI (kW k2)), .int (nI (kF k2)), .int (nI (kP k2)), .int (nI (kN k2)), .int (nI (kT k)), .int (nI (kD k))]))) H locs := hI
  obtain ⟨G_3, hG_3⟩ : ∃ z, z = gset G_2 t h0 (.inr (1, [.int (nI (kL k2)), .int (nI (kB k2)), .int (nI (kW k2)), .int (nI (kF k2)), .int (nI (kP k2)), .int (nI (kN k2)), .int (nI (kT k)), .int (nI (kD k))])) := ⟨_, rfl⟩
  rw [← hG_3] at hI
  have o2_G_3 : G_3 t2 = some (h1, .inr (1, [.int (nI (kL k2)), .int (nI (kB k2)), .int (nI (kW k2)), .int (nI (kF k2)), .int (nI (kP k2)), .int (nI (kN k2)), .int (nI (kT k2)), .int (nI (kD k2))])) := by rw [hG_3, gset_ne (Ne.symm hne)]; exact o2_G_2
  have o_G_3 : G_3 t = some (h0, .inr (1, [.int (nI (kL k2)), .int (nI (kB k2)), .int (nI (kW k2)), .int (nI (kF k2)), .int (nI (kP k2)), .int (nI (kN k2)), .int (nI (kT k)), .int (nI (kD k))])) := by rw [hG_3]; exact gset_eq _ _ _ _
  refine lv_aload_n hx hb dX0_copyFrom_40 rfl (lv_at hl 0 rfl) ?_
  refine lv_aload_n hx hb dX0_copyFrom_41 rfl (lv_at hl 1 rfl) ?_
  refine g_get S hE hI (C := RX0) (T := TX0) (N := 8) (ref := "StonecutterYard$Kind") (fun w h => (List.mem_cons_of_mem _ (List.mem_append_right _ h))) o2_G_3 rfl 6 (by decide) (List.mem_cons_of_mem _ (List.mem_append_left _ (List.mem_of_getElem? (i := 6) rfl))) (fun _ h9 => h9) (v := .int (nI (kT k2))) rfl dX0_copyFrom_42 ?_
  refine g_put S hE hI (C := RX0) (T := TX0) (N := 8) (ref := "StonecutterYard$Kind") (fun w h => (List.mem_cons_of_mem _ (List.mem_append_right _ h))) tyX0 tyX0_ok nmX0 o_G_3 rfl 6 (by decide) (List.mem_cons_of_mem _ (List.mem_append_left _ (List.mem_of_getElem? (i := 6) rfl))) (fun _ h9 => h9) rfl rfl rfl (Nat.le_of_ble_eq_true rfl) dX0_copyFrom_45 (fun H locs hI => ?_)
  have hI : gI K A s (gset G_3 t h0 (.inr (1, [.int (nI (kL k2)), .int (nI (kB k2)), .int (nI (kW k2)), .int (nI (kF k2)), .int (nI (kP k2)), .int (nI (kN k2)), .int (nI (kT k2)), .int (nI (kD k))]))) H locs := hI
  obtain ⟨G_4, hG_4⟩ : ∃ z, z = gset G_3 t h0 (.inr (1, [.int (nI (kL k2)), .int (nI (kB k2)), .int (nI (kW k2)), .int (nI (kF k2)), .int (nI (kP k2)), .int (nI (kN k2)), .int (nI (kT k2)), .int (nI (kD k))])) := ⟨_, rfl⟩
  rw [← hG_4] at hI
  have o2_G_4 : G_4 t2 = some (h1, .inr (1, [.int (nI (kL k2)), .int (nI (kB k2)), .int (nI (kW k2)), .int (nI (kF k2)), .int (nI (kP k2)), .int (nI (kN k2)), .int (nI (kT k2)), .int (nI (kD k2))])) := by rw [hG_4, gset_ne (Ne.symm hne)]; exact o2_G_3
  have o_G_4 : G_4 t = some (h0, .inr (1, [.int (nI (kL k2)), .int (nI (kB k2)), .int (nI (kW k2)), .int (nI (kF k2)), .int (nI (kP k2)), .int (nI (kN k2)), .int (nI (kT k2)), .int (nI (kD k))])) := by rw [hG_4]; exact gset_eq _ _ _ _
  refine lv_aload_n hx hb dX0_copyFrom_48 rfl (lv_at hl 0 rfl) ?_
  refine lv_aload_n hx hb dX0_copyFrom_49 rfl (lv_at hl 1 rfl) ?_
  refine g_get S hE hI (C := RX0) (T := TX0) (N := 8) (ref := "StonecutterYard$Kind") (fun w h => (List.mem_cons_of_mem _ (List.mem_append_right _ h))) o2_G_4 rfl 7 (by decide) (List.mem_cons_of_mem _ (List.mem_append_left _ (List.mem_of_getElem? (i := 7) rfl))) (fun _ h9 => h9) (v := .int (nI (kD k2))) rfl dX0_copyFrom_50 ?_
  refine g_put S hE hI (C := RX0) (T := TX0) (N := 8) (ref := "StonecutterYard$Kind") (fun w h => (List.mem_cons_of_mem _ (List.mem_append_right _ h))) tyX0 tyX0_ok nmX0 o_G_4 rfl 7 (by decide) (List.mem_cons_of_mem _ (List.mem_append_left _ (List.mem_of_getElem? (i := 7) rfl))) (fun _ h9 => h9) rfl rfl rfl (Nat.le_of_ble_eq_true rfl) dX0_copyFrom_53 (fun H locs hI => ?_)
  have hI : gI K A s (gset G_4 t h0 (.inr (1, [.int (nI (kL k2)), .int (nI (kB k2)), .int (nI (kW k2)), .int (nI (kF k2)), .int (nI (kP k2)), .int (nI (kN k2)), .int (nI (kT k2)), .int (nI (kD k2))]))) H locs := hI
  obtain ⟨G_5, hG_5⟩ : ∃ z, z = gset G_4 t h0 (.inr (1, [.int (nI (kL k2)), .int (nI (kB k2)), .int (nI (kW k2)), .int (nI (kF k2)), .int (nI (kP k2)), .int (nI (kN k2)), .int (nI (kT k2)), .int (nI (kD k2))])) := ⟨_, rfl⟩
  rw [← hG_5] at hI
  have o2_G_5 : G_5 t2 = some (h1, .inr (1, [.int (nI (kL k2)), .int (nI (kB k2)), .int (nI (kW k2)), .int (nI (kF k2)), .int (nI (kP k2)), .int (nI (kN k2)), .int (nI (kT k2)), .int (nI (kD k2))])) := by rw [hG_5, gset_ne (Ne.symm hne)]; exact o2_G_4
  have o_G_5 : G_5 t = some (h0, .inr (1, [.int (nI (kL k2)), .int (nI (kB k2)), .int (nI (kW k2)), .int (nI (kF k2)), .int (nI (kP k2)), .int (nI (kN k2)), .int (nI (kT k2)), .int (nI (kD k2))])) := by rw [hG_5]; exact gset_eq _ _ _ _
  exact g_vret S hI hr hlocks (Nat.zero_le _) (Nat.zero_le _) dX0_copyFrom_56 ⟨rfl, by rw [hG_5, hG_4, hG_3, hG_2, hG_1, hGc, gset_gset, gset_gset, gset_gset, gset_gset, gset_gset]⟩
set_option maxHeartbeats 4000000 in
set_option maxRecDepth 100000 in
/-- Kind() -/
theorem c_X0_init (l : Launch) (K : gK) (G : gW) (h0 : Nat) : gM l yX0_init wsX0_init 2 40 0 0 K [.ref h0] G (fun v G1 => v = none ∧ G1 = G) (gNo) := by
  refine gM.of (cc := cX0_init) (maxL := 1) (ret := none) (by decide) rfl (Nat.le_of_ble_eq_true rfl) ?_
  intro p e s m below meth c A S hr hlocks htab hname hE hA hI ls hl
  have hx := S.1
  have hb := S.2.1
  have hml := S.2.2.1
  have hl : lv_has ls 1 [(0, .ref h0)] := hl
  obtain ⟨H, hHe⟩ : ∃ z, z = s.heap := ⟨_, rfl⟩
  obtain ⟨locs, hLe⟩ : ∃ z : List Loc, z = [] := ⟨_, rfl⟩
  rw [← hHe, ← hLe]
  have hI : gI K A s G H locs := by rw [hHe, hLe]; exact hI
  clear hHe hLe
  refine lv_aload_n hx hb dX0_init_0 rfl (lv_at hl 0 rfl) ?_
  refine W.objInit hx hb S.2.2.2.1 (S.2.2.2.2 _ (List.mem_cons_of_mem _ (List.mem_of_getElem? (i := 0) rfl))) (S.2.2.2.2 _ (List.mem_cons_of_mem _ (List.mem_of_getElem? (i := 1) rfl))) (S.2.2.2.2 _ (List.mem_cons_of_mem _ (List.mem_of_getElem? (i := 2) rfl))) rfl (by rw [hml]; exact hl.1) rfl dX0_init_1 (Nat.le_of_ble_eq_true rfl) (Nat.le_of_ble_eq_true rfl) ?_
  refine W.eq (g2 := F0 m 4 ls []) rfl ?_
  exact g_vret S hI hr hlocks (Nat.zero_le _) (Nat.zero_le _) dX0_init_4 ⟨rfl, rfl⟩
