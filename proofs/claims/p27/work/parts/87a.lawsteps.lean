/-! the law: its kinds, its steps -/
section GL1
variable {p : Program} {l : Launch} {e : Env} {s : State} {m : MethodId} {below : List Frame} {meth : Method} {c : Code} {H : Heap} {locs : List Loc} {cells slots : Nat} {Q : State → Prop}
variable {b Ln kn : Nat} {xs : Nat → Int32} {ls : Array Slot} {K : gK} {A : Nat → Prop} {G : gW} {L1 L2 : Nat → Nat → Nat} {M : Nat → Nat} {hy i k sl : Nat} {y : YV} {xv : Int32}
set_option maxHeartbeats 4000000 in
set_option maxRecDepth 100000 in
/-- one kind comes -/
theorem w_kind (S : CallFix p m c cL_law 20 s #[Value.ref b] wsL_law RL) (hE : gE K A s s.heap) (hA : ∀ q, s.heap.size ≤ q → A q) (hX : va_X b Ln xs s s.heap) (hbl : b < s.heap.size) (hbA : ¬ A b) (hlS : l.stackTraces = false) (hLn : Ln ≤ 260) (hcs : cells ≤ 600104 ∧ slots ≤ 7301314) (hk : KI k y) (hkn : k < kn ∧ kn ≤ 4) (hI : gI K A s G H locs) (hy0 : YardC K L1 L2 M hy G y) (hl : lv_has ls 20 [(3, .int (nI k)), (2, .int (nI kn)), (1, .ref hy), (0, .ref b)])
    (kk : ∀ (G1 : gW) (y1 : YV) (H1 : Heap) (locs1 : List Loc) (ls1 : Array Slot), KI (k + 1) y1 → gI K A s G1 H1 locs1 → YardC K L1 L2 M hy G1 y1 → lv_has ls1 20 [(3, .int (nI k)), (2, .int (nI kn)), (1, .ref hy), (0, .ref b)] → W p l e room_1 s m #[Value.ref b] below meth c H1 locs1 cells slots Q (F0 m 114 ls1 [])) : W p l e room_1 s m #[Value.ref b] below meth c H locs cells slots Q (F0 m 27 ls []) := by
  have hx := S.1
  have hb := S.2.1
  have hml := S.2.2.1
  have h40 : ySc y ≤ 40 := hy0.2.2.2.2
  have h6 : yKc y ≤ 6 := hy0.2.1.1.2.2.2.2.1
  have hkc : yKc y = k := hk.2.2.2
  refine lv_aload_n hx hb dL_law_27 rfl (lv_at hl 2 rfl) ?_
  refine lv_iconst (v := nI 1) hx hb dL_law_28 (by decide) ?_
  refine lv_aload_n hx hb dL_law_29 rfl (lv_at hl 3 rfl) ?_
  refine lv_iload_n hx hb dL_law_30 rfl (lv_at hl 0 rfl) ?_
  refine lv_iconst (v := nI 1) hx hb dL_law_31 (by decide) ?_
  refine t_iadd hx hb dL_law_32 (nI_add _ _) ?_
  refine g_callCell (rest := [.int (nI 1), .ref hy]) S hE hI hA hX hbl hbA hLn (k := k + 1) (by omega) gL_law_L_cell ⟨Nat.le_of_ble_eq_true rfl, Nat.le_of_ble_eq_true rfl⟩ hl.1 (Nat.le_of_ble_eq_true rfl) dL_law_33 hcs (fun x_33 H locs hI => ?_)
  refine W.eq (g2 := F0 m 36 ls [.int x_33, .int (nI 1), .ref hy]) rfl ?_
  refine lv_bipush (v := nI 8) hx hb dL_law_36 (by decide) ?_
  refine g_callS0 (As := [.int x_33, .int (nI 8)]) (rest := [.int (nI 1), .ref hy]) (n := 2) S hE hI hA (c_L_below l K _ x_33 8 ⟨by omega, by omega⟩) gL_law_L_below rfl (by decide +kernel) ⟨Nat.le_of_ble_eq_true rfl, Nat.le_of_ble_eq_true rfl⟩ rfl hl.1 rfl (Nat.le_of_ble_eq_true rfl) dL_law_38 hcs (fun rv Gc_38 H locs hp hI => ?_)
  obtain ⟨⟨r_38, hr_38, rfl⟩, hq9⟩ := hp
  rw [hq9] at hI
  refine W.eq (g2 := F0 m 41 ls [.int (nI r_38), .int (nI 1), .ref hy]) rfl ?_
  refine t_iadd hx hb dL_law_41 (nI_add _ _) ?_
  refine lv_iconst (v := nI 1) hx hb dL_law_42 (by decide) ?_
  refine lv_aload_n hx hb dL_law_43 rfl (lv_at hl 3 rfl) ?_
  refine lv_iload_n hx hb dL_law_44 rfl (lv_at hl 0 rfl) ?_
  refine lv_iconst (v := nI 1) hx hb dL_law_45 (by decide) ?_
  refine t_iadd hx hb dL_law_46 (nI_add _ _) ?_
  refine g_callCell (rest := [.int (nI 1), .int (nI (1 + r_38)), .ref hy]) S hE hI hA hX hbl hbA hLn (k := k + 1) (by omega) gL_law_L_cell ⟨Nat.le_of_ble_eq_true rfl, Nat.le_of_ble_eq_true rfl⟩ hl.1 (Nat.le_of_ble_eq_true rfl) dL_law_47 hcs (fun x_47 H locs hI => ?_)
  refine W.eq (g2 := F0 m 50 ls [.int x_47, .int (nI 1), .int (nI (1 + r_38)), .ref hy]) rfl ?_
  refine lv_iconst (v := nI 4) hx hb dL_law_50 (by decide) ?_
  refine g_shr hx hb dL_law_51 (fun v_51 => ?_)
  refine lv_bipush (v := nI 8) hx hb dL_law_52 (by decide) ?_
  refine g_callS0 (As := [.int v_51, .int (nI 8)]) (rest := [.int (nI 1), .int (nI (1 + r_38)), .ref hy]) (n := 2) S hE hI hA (c_L_below l K _ v_51 8 ⟨by omega, by omega⟩) gL_law_L_below rfl (by decide +kernel) ⟨Nat.le_of_ble_eq_true rfl, Nat.le_of_ble_eq_true rfl⟩ rfl hl.1 rfl (Nat.le_of_ble_eq_true rfl) dL_law_54 hcs (fun rv Gc_54 H locs hp hI => ?_)
  obtain ⟨⟨r_54, hr_54, rfl⟩, hq9⟩ := hp
  rw [hq9] at hI
  refine W.eq (g2 := F0 m 57 ls [.int (nI r_54), .int (nI 1), .int (nI (1 + r_38)), .ref hy]) rfl ?_
  refine t_iadd hx hb dL_law_57 (nI_add _ _) ?_
  refine lv_iconst (v := nI 1) hx hb dL_law_58 (by decide) ?_
  refine lv_aload_n hx hb dL_law_59 rfl (lv_at hl 3 rfl) ?_
  refine lv_iload_n hx hb dL_law_60 rfl (lv_at hl 0 rfl) ?_
  refine lv_iconst (v := nI 2) hx hb dL_law_61 (by decide) ?_
  refine t_iadd hx hb dL_law_62 (nI_add _ _) ?_
  refine g_callCell (rest := [.int (nI 1), .int (nI (1 + r_54)), .int (nI (1 + r_38)), .ref hy]) S hE hI hA hX hbl hbA hLn (k := k + 2) (by omega) gL_law_L_cell ⟨Nat.le_of_ble_eq_true rfl, Nat.le_of_ble_eq_true rfl⟩ hl.1 (Nat.le_of_ble_eq_true rfl) dL_law_63 hcs (fun x_63 H locs hI => ?_)
  refine W.eq (g2 := F0 m 66 ls [.int x_63, .int (nI 1), .int (nI (1 + r_54)), .int (nI (1 + r_38)), .ref hy]) rfl ?_
  refine lv_sipush (v := nI 300) hx hb dL_law_66 (by decide) ?_
  refine g_callS0 (As := [.int x_63, .int (nI 300)]) (rest := [.int (nI 1), .int (nI (1 + r_54)), .int (nI (1 + r_38)), .ref hy]) (n := 2) S hE hI hA (c_L_below l K _ x_63 300 ⟨by omega, by omega⟩) gL_law_L_below rfl (by decide +kernel) ⟨Nat.le_of_ble_eq_true rfl, Nat.le_of_ble_eq_true rfl⟩ rfl hl.1 rfl (Nat.le_of_ble_eq_true rfl) dL_law_69 hcs (fun rv Gc_69 H locs hp hI => ?_)
  obtain ⟨⟨r_69, hr_69, rfl⟩, hq9⟩ := hp
  rw [hq9] at hI
  refine W.eq (g2 := F0 m 72 ls [.int (nI r_69), .int (nI 1), .int (nI (1 + r_54)), .int (nI (1 + r_38)), .ref hy]) rfl ?_
  refine t_iadd hx hb dL_law_72 (nI_add _ _) ?_
  refine g_callV0 (As := [.int (nI (1 + r_38)), .int (nI (1 + r_54)), .int (nI (1 + r_69))]) (rest := []) (b := hy) (n := 3) S hE hI hA (e_kind l K _ L1 L2 M hy y (1 + r_38) (1 + r_54) (1 + r_69) hlS hy0 ⟨⟨by omega, by omega⟩, ⟨by omega, by omega⟩, by omega, by omega⟩ (by omega)) gL_law_X4_kind rfl (by decide +kernel) ⟨Nat.le_of_ble_eq_true rfl, Nat.le_of_ble_eq_true rfl⟩ (g_hro hE hI hy0.1 rfl) rfl hl.1 rfl (Nat.le_of_ble_eq_true rfl) dL_law_73 hcs (fun rv Gc_73 H locs hp hI => ?_)
  obtain ⟨rfl, hy_73, -⟩ := hp
  refine W.eq (g2 := F0 m 76 ls [.int (nI (yKc y))]) rfl ?_
  refine lv_iload_n hx hb dL_law_76 rfl (lv_at hl 0 rfl) ?_
  refine lv_icmp_ne (tgt := 112) hx hb dL_law_77 (by decide) (fun c_77 => ?_) (fun c_77 => ?_)
  · skip
    have c_77 : (yKc y) ≠ k := fun z => c_77 ((nI_eq (a := (yKc y)) (b := k) (by omega) (by omega)).mpr z)
    exact absurd c_77 (by omega)
  · skip
    have c_77 : (yKc y) = k := (nI_eq (a := (yKc y)) (b := k) (by omega) (by omega)).mp c_77
    refine lv_aload_n hx hb dL_law_80 rfl (lv_at hl 2 rfl) ?_
    refine lv_iload_n hx hb dL_law_81 rfl (lv_at hl 0 rfl) ?_
    refine lv_aload_n hx hb dL_law_82 rfl (lv_at hl 3 rfl) ?_
    refine lv_iload_n hx hb dL_law_83 rfl (lv_at hl 0 rfl) ?_
    refine lv_iconst (v := nI 3) hx hb dL_law_84 (by decide) ?_
    refine t_iadd hx hb dL_law_85 (nI_add _ _) ?_
    refine g_callCell (rest := [.int (nI k), .ref hy]) S hE hI hA hX hbl hbA hLn (k := k + 3) (by omega) gL_law_L_cell ⟨Nat.le_of_ble_eq_true rfl, Nat.le_of_ble_eq_true rfl⟩ hl.1 (Nat.le_of_ble_eq_true rfl) dL_law_86 hcs (fun x_86 H locs hI => ?_)
    refine W.eq (g2 := F0 m 89 ls [.int x_86, .int (nI k), .ref hy]) rfl ?_
    refine lv_iconst (v := nI 3) hx hb dL_law_89 (by decide) ?_
    refine g_callS0 (As := [.int x_86, .int (nI 3)]) (rest := [.int (nI k), .ref hy]) (n := 2) S hE hI hA (c_L_below l K _ x_86 3 ⟨by omega, by omega⟩) gL_law_L_below rfl (by decide +kernel) ⟨Nat.le_of_ble_eq_true rfl, Nat.le_of_ble_eq_true rfl⟩ rfl hl.1 rfl (Nat.le_of_ble_eq_true rfl) dL_law_90 hcs (fun rv Gc_90 H locs hp hI => ?_)
    obtain ⟨⟨r_90, hr_90, rfl⟩, hq9⟩ := hp
    rw [hq9] at hI
    refine W.eq (g2 := F0 m 93 ls [.int (nI r_90), .int (nI k), .ref hy]) rfl ?_
    refine lv_aload_n hx hb dL_law_93 rfl (lv_at hl 3 rfl) ?_
    refine lv_iload_n hx hb dL_law_94 rfl (lv_at hl 0 rfl) ?_
    refine lv_iconst (v := nI 3) hx hb dL_law_95 (by decide) ?_
    refine t_iadd hx hb dL_law_96 (nI_add _ _) ?_
    refine g_callCell (rest := [.int (nI r_90), .int (nI k), .ref hy]) S hE hI hA hX hbl hbA hLn (k := k + 3) (by omega) gL_law_L_cell ⟨Nat.le_of_ble_eq_true rfl, Nat.le_of_ble_eq_true rfl⟩ hl.1 (Nat.le_of_ble_eq_true rfl) dL_law_97 hcs (fun x_97 H locs hI => ?_)
    refine W.eq (g2 := F0 m 100 ls [.int x_97, .int (nI r_90), .int (nI k), .ref hy]) rfl ?_
    refine lv_iconst (v := nI 3) hx hb dL_law_100 (by decide) ?_
    refine g_shr hx hb dL_law_101 (fun v_101 => ?_)
    refine lv_iconst (v := nI 4) hx hb dL_law_102 (by decide) ?_
    refine g_callS0 (As := [.int v_101, .int (nI 4)]) (rest := [.int (nI r_90), .int (nI k), .ref hy]) (n := 2) S hE hI hA (c_L_below l K _ v_101 4 ⟨by omega, by omega⟩) gL_law_L_below rfl (by decide +kernel) ⟨Nat.le_of_ble_eq_true rfl, Nat.le_of_ble_eq_true rfl⟩ rfl hl.1 rfl (Nat.le_of_ble_eq_true rfl) dL_law_103 hcs (fun rv Gc_103 H locs hp hI => ?_)
    obtain ⟨⟨r_103, hr_103, rfl⟩, hq9⟩ := hp
    rw [hq9] at hI
    refine W.eq (g2 := F0 m 106 ls [.int (nI r_103), .int (nI r_90), .int (nI k), .ref hy]) rfl ?_
    refine g_callV0 (As := [.int (nI k), .int (nI r_90), .int (nI r_103)]) (rest := []) (b := hy) (n := 3) S hE hI hA (e_let l K _ L1 L2 M hy (yAddK y (1 + r_38, 1 + r_54, 0, 0, 1 + r_69, 0, 0, 0)) k r_90 r_103 hlS hy_73 (by show k < yKc y + 1; omega) ⟨by omega, by omega⟩) gL_law_X4_let rfl (by decide +kernel) ⟨Nat.le_of_ble_eq_true rfl, Nat.le_of_ble_eq_true rfl⟩ (g_hro hE hI hy_73.1 rfl) rfl hl.1 rfl (Nat.le_of_ble_eq_true rfl) dL_law_106 hcs (fun rv Gc_106 H locs hp hI => ?_)
    obtain ⟨rfl, hy_106, -⟩ := hp
    refine W.eq (g2 := F0 m 109 ls [.int (nI 0)]) (congrArg (fun z9 : Int32 => F0 m 109 ls (.int z9 :: [])) (congrArg nI (KI_way hk))) ?_
    refine lv_if_eq (tgt := 114) hx hb dL_law_109 (by decide) (fun c_109 => ?_) (fun c_109 => ?_)
    · skip
      have c_109 : 0 = 0 := (nI_eq (a := 0) (b := 0) (by omega) (by omega)).mp c_109
      exact kk _ _ _ _ _ (KI_step hk ⟨by omega, by omega⟩) hI hy_106 (lv_sub hl [0,1,2,3] rfl)
    · skip
      have c_109 : 0 ≠ 0 := fun z => c_109 ((nI_eq (a := 0) (b := 0) (by omega) (by omega)).mpr z)
      exact absurd rfl c_109
set_option maxHeartbeats 4000000 in
set_option maxRecDepth 100000 in
/-- what a step chooses -/
theorem w_front (S : CallFix p m c cL_law 20 s #[Value.ref b] wsL_law RL) (hE : gE K A s s.heap) (hA : ∀ q, s.heap.size ≤ q → A q) (hX : va_X b Ln xs s s.heap) (hbl : b < s.heap.size) (hbA : ¬ A b) (hlS : l.stackTraces = false) (hLn : Ln ≤ 260) (hcs : cells ≤ 600104 ∧ slots ≤ 7301314) (hPI : PI y) (hkc : yKc y = kn) (hkn : 1 ≤ kn ∧ kn ≤ 4) (hi : i < 30) (hI : gI K A s G H locs) (hy0 : YardC K L1 L2 M hy G y) (hl : lv_has ls 20 [(4, .int (nI i)), (3, .int (nI (yArea0 y))), (2, .int (nI kn)), (1, .ref hy), (0, .ref b)])
    (kk : ∀ (G1 : gW) (y1 : YV) (H1 : Heap) (locs1 : List Loc) (ls1 : Array Slot) (xv : Int32) (sl k t : Nat), (sl < ySc y ∨ (ySc y = 0 ∧ sl = 0 ∧ t = 0)) → k < kn → t < 7 → gI K A s G1 H1 locs1 → YardC K L1 L2 M hy G1 y → lv_has ls1 20 [(5, .int xv), (6, .int (nI (ySc y))), (7, .int (nI sl)), (8, .int (nI k)), (9, .int (nI (wst y))), (10, .int (nI (yPaid y))), (4, .int (nI i)), (3, .int (nI (yArea0 y))), (2, .int (nI kn)), (1, .ref hy), (0, .ref b)] → W p l e room_1 s m #[Value.ref b] below meth c H1 locs1 cells slots Q (F0 m 224 ls1 [.int (nI t)])) : W p l e room_1 s m #[Value.ref b] below meth c H locs cells slots Q (F0 m 132 ls []) := by
  have hx := S.1
  have hb := S.2.1
  have hml := S.2.2.1
  have h40 : ySc y ≤ 40 := hy0.2.2.2.2
  have h6 : yKc y ≤ 6 := hy0.2.1.1.2.2.2.2.1
  refine lv_aload_n hx hb dL_law_132 rfl (lv_at hl 4 rfl) ?_
  refine lv_iload hx hb dL_law_133 (lv_at hl 0 rfl) ?_
  refine lv_bipush (v := nI 16) hx hb dL_law_135 (by decide) ?_
  refine t_irem hx hb dL_law_137 (by decide) (v := nI (i % 16)) (pk_rem (by omega) (by decide) (by decide)) ?_
  refine g_callCell (rest := []) S hE hI hA hX hbl hbA hLn (k := (i % 16)) (by omega) gL_law_L_cell ⟨Nat.le_of_ble_eq_true rfl, Nat.le_of_ble_eq_true rfl⟩ hl.1 (Nat.le_of_ble_eq_true rfl) dL_law_138 hcs (fun x_138 H locs hI => ?_)
  refine W.eq (g2 := F0 m 141 ls [.int x_138]) rfl ?_
  refine lv_iload hx hb dL_law_141 (lv_at hl 0 rfl) ?_
  refine lv_bipush (v := nI 16) hx hb dL_law_143 (by decide) ?_
  refine g_idiv hx hb dL_law_145 (by decide) (v := nI (i / 16)) (pk_div (by omega) (by decide) (by decide)) ?_
  refine lv_iconst (v := nI 3) hx hb dL_law_146 (by decide) ?_
  refine t_imul hx hb dL_law_147 (pk_mul _ _) ?_
  refine g_shr hx hb dL_law_148 (fun v_148 => ?_)
  refine lv_bipush (v := nI 9) hx hb dL_law_149 (by decide) ?_
  refine lv_iload hx hb dL_law_151 (lv_at hl 0 rfl) ?_
  refine t_imul hx hb dL_law_153 (pk_mul _ _) ?_
  refine g_addA hx hb dL_law_154 (fun v_154 => ?_)
  refine lv_istore (lv' := [(5, .int v_154), (4, .int (nI i)), (3, .int (nI (yArea0 y))), (2, .int (nI kn)), (1, .ref hy), (0, .ref b)]) hx hb dL_law_155 hl (by decide) rfl (fun ls hl => ?_)
  refine lv_aload_n hx hb dL_law_157 rfl (lv_at hl 4 rfl) ?_
  refine lv_iconst (v := nI 0) hx hb dL_law_158 (by decide) ?_
  refine g_callV0 (As := [.int (nI 0)]) (rest := []) (b := hy) (n := 1) S hE hI hA (e_many0 l K _ L1 L2 M hy y  hlS hy0 ) gL_law_X4_many rfl (by decide +kernel) ⟨Nat.le_of_ble_eq_true rfl, Nat.le_of_ble_eq_true rfl⟩ (g_hro hE hI hy0.1 rfl) rfl hl.1 rfl (Nat.le_of_ble_eq_true rfl) dL_law_159 hcs (fun rv Gc_159 H locs hp hI => ?_)
  obtain ⟨rfl, hy_159, -⟩ := hp
  refine W.eq (g2 := F0 m 162 ls [.int (nI (ySc y))]) rfl ?_
  refine lv_istore (lv' := [(6, .int (nI (ySc y))), (5, .int v_154), (4, .int (nI i)), (3, .int (nI (yArea0 y))), (2, .int (nI kn)), (1, .ref hy), (0, .ref b)]) hx hb dL_law_162 hl (by decide) rfl (fun ls hl => ?_)
  refine lv_iload hx hb dL_law_164 (lv_at hl 0 rfl) ?_
  refine lv_if_ne (tgt := 173) hx hb dL_law_166 (by decide) (fun c_166 => ?_) (fun c_166 => ?_)
  · skip
    have c_166 : (ySc y) ≠ 0 := fun z => c_166 ((nI_eq (a := (ySc y)) (b := 0) (by omega) (by omega)).mpr z)
    refine lv_iload hx hb dL_law_173 (lv_at hl 1 rfl) ?_
    refine lv_iconst (v := nI 3) hx hb dL_law_175 (by decide) ?_
    refine g_shr hx hb dL_law_176 (fun v_176 => ?_)
    refine lv_iload hx hb dL_law_177 (lv_at hl 0 rfl) ?_
    refine g_callS0 (As := [.int v_176, .int (nI (ySc y))]) (rest := []) (n := 2) S hE hI hA (c_L_below l K _ v_176 (ySc y) ⟨by omega, by omega⟩) gL_law_L_below rfl (by decide +kernel) ⟨Nat.le_of_ble_eq_true rfl, Nat.le_of_ble_eq_true rfl⟩ rfl hl.1 rfl (Nat.le_of_ble_eq_true rfl) dL_law_179 hcs (fun rv Gc_179 H locs hp hI => ?_)
    obtain ⟨⟨r_179, hr_179, rfl⟩, hq9⟩ := hp
    rw [hq9] at hI
    refine W.eq (g2 := F0 m 182 ls [.int (nI r_179)]) rfl ?_
    refine lv_istore (lv' := [(7, .int (nI r_179)), (6, .int (nI (ySc y))), (5, .int v_154), (4, .int (nI i)), (3, .int (nI (yArea0 y))), (2, .int (nI kn)), (1, .ref hy), (0, .ref b)]) hx hb dL_law_182 hl (by decide) rfl (fun ls hl => ?_)
    refine lv_iload hx hb dL_law_184 (lv_at hl 2 rfl) ?_
    refine lv_iconst (v := nI 5) hx hb dL_law_186 (by decide) ?_
    refine g_shr hx hb dL_law_187 (fun v_187 => ?_)
    refine lv_iload_n hx hb dL_law_188 rfl (lv_at hl 5 rfl) ?_
    refine g_callS0 (As := [.int v_187, .int (nI kn)]) (rest := []) (n := 2) S hE hI hA (c_L_below l K _ v_187 kn ⟨by omega, by omega⟩) gL_law_L_below rfl (by decide +kernel) ⟨Nat.le_of_ble_eq_true rfl, Nat.le_of_ble_eq_true rfl⟩ rfl hl.1 rfl (Nat.le_of_ble_eq_true rfl) dL_law_189 hcs (fun rv Gc_189 H locs hp hI => ?_)
    obtain ⟨⟨r_189, hr_189, rfl⟩, hq9⟩ := hp
    rw [hq9] at hI
    refine W.eq (g2 := F0 m 192 ls [.int (nI r_189)]) rfl ?_
    refine lv_istore (lv' := [(8, .int (nI r_189)), (7, .int (nI r_179)), (6, .int (nI (ySc y))), (5, .int v_154), (4, .int (nI i)), (3, .int (nI (yArea0 y))), (2, .int (nI kn)), (1, .ref hy), (0, .ref b)]) hx hb dL_law_192 hl (by decide) rfl (fun ls hl => ?_)
    refine lv_aload_n hx hb dL_law_194 rfl (lv_at hl 7 rfl) ?_
    refine lv_iconst (v := nI 5) hx hb dL_law_195 (by decide) ?_
    refine g_callV0 (As := [.int (nI 5)]) (rest := []) (b := hy) (n := 1) S hE hI hA (e_many5 l K _ L1 L2 M hy y  hlS hy_159 hPI) gL_law_X4_many rfl (by decide +kernel) ⟨Nat.le_of_ble_eq_true rfl, Nat.le_of_ble_eq_true rfl⟩ (g_hro hE hI hy_159.1 rfl) rfl hl.1 rfl (Nat.le_of_ble_eq_true rfl) dL_law_196 hcs (fun rv Gc_196 H locs hp hI => ?_)
    obtain ⟨rfl, hy_196, -⟩ := hp
    refine W.eq (g2 := F0 m 199 ls [.int (nI (wst y))]) rfl ?_
    refine lv_istore (lv' := [(9, .int (nI (wst y))), (8, .int (nI r_189)), (7, .int (nI r_179)), (6, .int (nI (ySc y))), (5, .int v_154), (4, .int (nI i)), (3, .int (nI (yArea0 y))), (2, .int (nI kn)), (1, .ref hy), (0, .ref b)]) hx hb dL_law_199 hl (by decide) rfl (fun ls hl => ?_)
    refine lv_aload_n hx hb dL_law_201 rfl (lv_at hl 8 rfl) ?_
    refine lv_iconst (v := nI 4) hx hb dL_law_202 (by decide) ?_
    refine g_callV0 (As := [.int (nI 4)]) (rest := []) (b := hy) (n := 1) S hE hI hA (e_many4 l K _ L1 L2 M hy y  hlS hy_196 ) gL_law_X4_many rfl (by decide +kernel) ⟨Nat.le_of_ble_eq_true rfl, Nat.le_of_ble_eq_true rfl⟩ (g_hro hE hI hy_196.1 rfl) rfl hl.1 rfl (Nat.le_of_ble_eq_true rfl) dL_law_203 hcs (fun rv Gc_203 H locs hp hI => ?_)
    obtain ⟨rfl, hy_203, -⟩ := hp
    refine W.eq (g2 := F0 m 206 ls [.int (nI (yPaid y))]) rfl ?_
    refine lv_istore (lv' := [(10, .int (nI (yPaid y))), (9, .int (nI (wst y))), (8, .int (nI r_189)), (7, .int (nI r_179)), (6, .int (nI (ySc y))), (5, .int v_154), (4, .int (nI i)), (3, .int (nI (yArea0 y))), (2, .int (nI kn)), (1, .ref hy), (0, .ref b)]) hx hb dL_law_206 hl (by decide) rfl (fun ls hl => ?_)
    refine lv_iload hx hb dL_law_208 (lv_at hl 4 rfl) ?_
    refine lv_if_ne (tgt := 217) hx hb dL_law_210 (by decide) (fun c_210 => ?_) (fun c_210 => ?_)
    · skip
      have c_210 : (ySc y) ≠ 0 := fun z => c_210 ((nI_eq (a := (ySc y)) (b := 0) (by omega) (by omega)).mpr z)
      refine lv_iload hx hb dL_law_217 (lv_at hl 5 rfl) ?_
      refine lv_bipush (v := nI 7) hx hb dL_law_219 (by decide) ?_
      refine g_callS0 (As := [.int v_154, .int (nI 7)]) (rest := []) (n := 2) S hE hI hA (c_L_below l K _ v_154 7 ⟨by omega, by omega⟩) gL_law_L_below rfl (by decide +kernel) ⟨Nat.le_of_ble_eq_true rfl, Nat.le_of_ble_eq_true rfl⟩ rfl hl.1 rfl (Nat.le_of_ble_eq_true rfl) dL_law_221 hcs (fun rv Gc_221 H locs hp hI => ?_)
      obtain ⟨⟨r_221, hr_221, rfl⟩, hq9⟩ := hp
      rw [hq9] at hI
      refine W.eq (g2 := F0 m 224 ls [.int (nI r_221)]) rfl ?_
      exact kk _ y _ _ ls v_154 r_179 r_189 r_221 (Or.inl hr_179) hr_189 hr_221 hI hy_203 (lv_sub hl [5,4,3,2,1,0,6,7,8,9,10] rfl)
    · skip
      have c_210 : (ySc y) = 0 := (nI_eq (a := (ySc y)) (b := 0) (by omega) (by omega)).mp c_210
      exact absurd c_210 c_166
  · skip
    have c_166 : (ySc y) = 0 := (nI_eq (a := (ySc y)) (b := 0) (by omega) (by omega)).mp c_166
    refine lv_iconst (v := nI 0) hx hb dL_law_169 (by decide) ?_
    refine lv_goto (tgt := 182) hx hb dL_law_170 (by decide) ?_
    refine lv_istore (lv' := [(7, .int (nI 0)), (6, .int (nI (ySc y))), (5, .int v_154), (4, .int (nI i)), (3, .int (nI (yArea0 y))), (2, .int (nI kn)), (1, .ref hy), (0, .ref b)]) hx hb dL_law_182 hl (by decide) rfl (fun ls hl => ?_)
    refine lv_iload hx hb dL_law_184 (lv_at hl 2 rfl) ?_
    refine lv_iconst (v := nI 5) hx hb dL_law_186 (by decide) ?_
    refine g_shr hx hb dL_law_187 (fun v_187 => ?_)
    refine lv_iload_n hx hb dL_law_188 rfl (lv_at hl 5 rfl) ?_
    refine g_callS0 (As := [.int v_187, .int (nI kn)]) (rest := []) (n := 2) S hE hI hA (c_L_below l K _ v_187 kn ⟨by omega, by omega⟩) gL_law_L_below rfl (by decide +kernel) ⟨Nat.le_of_ble_eq_true rfl, Nat.le_of_ble_eq_true rfl⟩ rfl hl.1 rfl (Nat.le_of_ble_eq_true rfl) dL_law_189 hcs (fun rv Gc_189 H locs hp hI => ?_)
    obtain ⟨⟨r_189, hr_189, rfl⟩, hq9⟩ := hp
    rw [hq9] at hI
    refine W.eq (g2 := F0 m 192 ls [.int (nI r_189)]) rfl ?_
    refine lv_istore (lv' := [(8, .int (nI r_189)), (7, .int (nI 0)), (6, .int (nI (ySc y))), (5, .int v_154), (4, .int (nI i)), (3, .int (nI (yArea0 y))), (2, .int (nI kn)), (1, .ref hy), (0, .ref b)]) hx hb dL_law_192 hl (by decide) rfl (fun ls hl => ?_)
    refine lv_aload_n hx hb dL_law_194 rfl (lv_at hl 7 rfl) ?_
    refine lv_iconst (v := nI 5) hx hb dL_law_195 (by decide) ?_
    refine g_callV0 (As := [.int (nI 5)]) (rest := []) (b := hy) (n := 1) S hE hI hA (e_many5 l K _ L1 L2 M hy y  hlS hy_159 hPI) gL_law_X4_many rfl (by decide +kernel) ⟨Nat.le_of_ble_eq_true rfl, Nat.le_of_ble_eq_true rfl⟩ (g_hro hE hI hy_159.1 rfl) rfl hl.1 rfl (Nat.le_of_ble_eq_true rfl) dL_law_196 hcs (fun rv Gc_196 H locs hp hI => ?_)
    obtain ⟨rfl, hy_196, -⟩ := hp
    refine W.eq (g2 := F0 m 199 ls [.int (nI (wst y))]) rfl ?_
    refine lv_istore (lv' := [(9, .int (nI (wst y))), (8, .int (nI r_189)), (7, .int (nI 0)), (6, .int (nI (ySc y))), (5, .int v_154), (4, .int (nI i)), (3, .int (nI (yArea0 y))), (2, .int (nI kn)), (1, .ref hy), (0, .ref b)]) hx hb dL_law_199 hl (by decide) rfl (fun ls hl => ?_)
    refine lv_aload_n hx hb dL_law_201 rfl (lv_at hl 8 rfl) ?_
    refine lv_iconst (v := nI 4) hx hb dL_law_202 (by decide) ?_
    refine g_callV0 (As := [.int (nI 4)]) (rest := []) (b := hy) (n := 1) S hE hI hA (e_many4 l K _ L1 L2 M hy y  hlS hy_196 ) gL_law_X4_many rfl (by decide +kernel) ⟨Nat.le_of_ble_eq_true rfl, Nat.le_of_ble_eq_true rfl⟩ (g_hro hE hI hy_196.1 rfl) rfl hl.1 rfl (Nat.le_of_ble_eq_true rfl) dL_law_203 hcs (fun rv Gc_203 H locs hp hI => ?_)
    obtain ⟨rfl, hy_203, -⟩ := hp
    refine W.eq (g2 := F0 m 206 ls [.int (nI (yPaid y))]) rfl ?_
    refine lv_istore (lv' := [(10, .int (nI (yPaid y))), (9, .int (nI (wst y))), (8, .int (nI r_189)), (7, .int (nI 0)), (6, .int (nI (ySc y))), (5, .int v_154), (4, .int (nI i)), (3, .int (nI (yArea0 y))), (2, .int (nI kn)), (1, .ref hy), (0, .ref b)]) hx hb dL_law_206 hl (by decide) rfl (fun ls hl => ?_)
    refine lv_iload hx hb dL_law_208 (lv_at hl 4 rfl) ?_
    refine lv_if_ne (tgt := 217) hx hb dL_law_210 (by decide) (fun c_210 => ?_) (fun c_210 => ?_)
    · skip
      have c_210 : (ySc y) ≠ 0 := fun z => c_210 ((nI_eq (a := (ySc y)) (b := 0) (by omega) (by omega)).mpr z)
      exact absurd c_166 c_210
    · skip
      have c_210 : (ySc y) = 0 := (nI_eq (a := (ySc y)) (b := 0) (by omega) (by omega)).mp c_210
      refine lv_iconst (v := nI 0) hx hb dL_law_213 (by decide) ?_
      refine lv_goto (tgt := 224) hx hb dL_law_214 (by decide) ?_
      exact kk _ y _ _ ls v_154 0 r_189 0 (Or.inr ⟨c_166, rfl, rfl⟩) hr_189 (by decide) hI hy_203 (lv_sub hl [5,4,3,2,1,0,6,7,8,9,10] rfl)
set_option maxHeartbeats 4000000 in
set_option maxRecDepth 100000 in
/-- a slab comes -/
theorem w_slab (S : CallFix p m c cL_law 20 s #[Value.ref b] wsL_law RL) (hE : gE K A s s.heap) (hA : ∀ q, s.heap.size ≤ q → A q) (hX : va_X b Ln xs s s.heap) (hbl : b < s.heap.size) (hbA : ¬ A b) (hlS : l.stackTraces = false) (hLn : Ln ≤ 260) (hcs : cells ≤ 600104 ∧ slots ≤ 7301314) (hPI : PI y) (hkc : yKc y = kn) (hkn : 1 ≤ kn ∧ kn ≤ 4) (hi : i < 30) (hI : gI K A s G H locs) (hy0 : YardC K L1 L2 M hy G y) (hl : lv_has ls 20 [(5, .int xv), (6, .int (nI (ySc y))), (7, .int (nI sl)), (8, .int (nI k)), (9, .int (nI (wst y))), (10, .int (nI (yPaid y))), (4, .int (nI i)), (3, .int (nI (yArea0 y))), (2, .int (nI kn)), (1, .ref hy), (0, .ref b)])
    (kk : ∀ (G1 : gW) (y1 : YV) (H1 : Heap) (locs1 : List Loc) (ls1 : Array Slot), TR y y1 → gI K A s G1 H1 locs1 → YardC K L1 L2 M hy G1 y1 → lv_has ls1 20 [(4, .int (nI i)), (3, .int (nI (yArea0 y1))), (9, .int (nI (wst y))), (10, .int (nI (yPaid y))), (2, .int (nI kn)), (1, .ref hy), (0, .ref b)] → W p l e room_1 s m #[Value.ref b] below meth c H1 locs1 cells slots Q (F0 m 767 ls1 [])) : W p l e room_1 s m #[Value.ref b] below meth c H locs cells slots Q (F0 m 260 ls []) := by
  have hx := S.1
  have hb := S.2.1
  have hml := S.2.2.1
  have h40 : ySc y ≤ 40 := hy0.2.2.2.2
  have h6 : yKc y ≤ 6 := hy0.2.1.1.2.2.2.2.1
  refine lv_iload hx hb dL_law_260 (lv_at hl 1 rfl) ?_
  refine lv_bipush (v := nI 30) hx hb dL_law_262 (by decide) ?_
  refine lv_icmp_le (tgt := 270) hx hb dL_law_264 (by decide) (fun c_264 => ?_) (fun c_264 => ?_)
  · skip
    have c_264 : (ySc y) ≤ 30 := (nI_leI (a := (ySc y)) (b := 30) (by omega) (by omega)).mp c_264
    refine lv_iconst (v := nI 1) hx hb dL_law_270 (by decide) ?_
    refine lv_iload hx hb dL_law_271 (lv_at hl 0 rfl) ?_
    refine lv_iconst (v := nI 2) hx hb dL_law_273 (by decide) ?_
    refine g_shr hx hb dL_law_274 (fun v_274 => ?_)
    refine lv_bipush (v := nI 24) hx hb dL_law_275 (by decide) ?_
    refine g_callS0 (As := [.int v_274, .int (nI 24)]) (rest := [.int (nI 1)]) (n := 2) S hE hI hA (c_L_below l K _ v_274 24 ⟨by omega, by omega⟩) gL_law_L_below rfl (by decide +kernel) ⟨Nat.le_of_ble_eq_true rfl, Nat.le_of_ble_eq_true rfl⟩ rfl hl.1 rfl (Nat.le_of_ble_eq_true rfl) dL_law_277 hcs (fun rv Gc_277 H locs hp hI => ?_)
    obtain ⟨⟨r_277, hr_277, rfl⟩, hq9⟩ := hp
    rw [hq9] at hI
    refine W.eq (g2 := F0 m 280 ls [.int (nI r_277), .int (nI 1)]) rfl ?_
    refine t_iadd hx hb dL_law_280 (nI_add _ _) ?_
    refine lv_istore (lv' := [(11, .int (nI (1 + r_277))), (5, .int xv), (6, .int (nI (ySc y))), (7, .int (nI sl)), (8, .int (nI k)), (9, .int (nI (wst y))), (10, .int (nI (yPaid y))), (4, .int (nI i)), (3, .int (nI (yArea0 y))), (2, .int (nI kn)), (1, .ref hy), (0, .ref b)]) hx hb dL_law_281 hl (by decide) rfl (fun ls hl => ?_)
    refine lv_iconst (v := nI 1) hx hb dL_law_283 (by decide) ?_
    refine lv_iload hx hb dL_law_284 (lv_at hl 1 rfl) ?_
    refine lv_bipush (v := nI 6) hx hb dL_law_286 (by decide) ?_
    refine g_shr hx hb dL_law_288 (fun v_288 => ?_)
    refine lv_bipush (v := nI 24) hx hb dL_law_289 (by decide) ?_
    refine g_callS0 (As := [.int v_288, .int (nI 24)]) (rest := [.int (nI 1)]) (n := 2) S hE hI hA (c_L_below l K _ v_288 24 ⟨by omega, by omega⟩) gL_law_L_below rfl (by decide +kernel) ⟨Nat.le_of_ble_eq_true rfl, Nat.le_of_ble_eq_true rfl⟩ rfl hl.1 rfl (Nat.le_of_ble_eq_true rfl) dL_law_291 hcs (fun rv Gc_291 H locs hp hI => ?_)
    obtain ⟨⟨r_291, hr_291, rfl⟩, hq9⟩ := hp
    rw [hq9] at hI
    refine W.eq (g2 := F0 m 294 ls [.int (nI r_291), .int (nI 1)]) rfl ?_
    refine t_iadd hx hb dL_law_294 (nI_add _ _) ?_
    refine lv_istore (lv' := [(12, .int (nI (1 + r_291))), (11, .int (nI (1 + r_277))), (5, .int xv), (6, .int (nI (ySc y))), (7, .int (nI sl)), (8, .int (nI k)), (9, .int (nI (wst y))), (10, .int (nI (yPaid y))), (4, .int (nI i)), (3, .int (nI (yArea0 y))), (2, .int (nI kn)), (1, .ref hy), (0, .ref b)]) hx hb dL_law_295 hl (by decide) rfl (fun ls hl => ?_)
    refine lv_iload_n hx hb dL_law_297 rfl (lv_at hl 9 rfl) ?_
    refine lv_iload hx hb dL_law_298 (lv_at hl 1 rfl) ?_
    refine lv_iload hx hb dL_law_300 (lv_at hl 0 rfl) ?_
    refine t_imul hx hb dL_law_302 (pk_mul _ _) ?_
    refine t_iadd hx hb dL_law_303 (nI_add _ _) ?_
    refine lv_istore_n (lv' := [(3, .int (nI ((yArea0 y) + ((1 + r_277) * (1 + r_291))))), (12, .int (nI (1 + r_291))), (11, .int (nI (1 + r_277))), (5, .int xv), (6, .int (nI (ySc y))), (7, .int (nI sl)), (8, .int (nI k)), (9, .int (nI (wst y))), (10, .int (nI (yPaid y))), (4, .int (nI i)), (2, .int (nI kn)), (1, .ref hy), (0, .ref b)]) hx hb dL_law_304 rfl hl (by decide) rfl (fun ls hl => ?_)
    refine lv_aload_n hx hb dL_law_305 rfl (lv_at hl 11 rfl) ?_
    refine lv_iload hx hb dL_law_306 (lv_at hl 2 rfl) ?_
    refine lv_iload hx hb dL_law_308 (lv_at hl 1 rfl) ?_
    refine lv_iload hx hb dL_law_310 (lv_at hl 3 rfl) ?_
    refine lv_iconst (v := nI 4) hx hb dL_law_312 (by decide) ?_
    refine g_shr hx hb dL_law_313 (fun v_313 => ?_)
    refine lv_iconst (v := nI 2) hx hb dL_law_314 (by decide) ?_
    refine g_callS0 (As := [.int v_313, .int (nI 2)]) (rest := [.int (nI (1 + r_291)), .int (nI (1 + r_277)), .ref hy]) (n := 2) S hE hI hA (c_L_below l K _ v_313 2 ⟨by omega, by omega⟩) gL_law_L_below rfl (by decide +kernel) ⟨Nat.le_of_ble_eq_true rfl, Nat.le_of_ble_eq_true rfl⟩ rfl hl.1 rfl (Nat.le_of_ble_eq_true rfl) dL_law_315 hcs (fun rv Gc_315 H locs hp hI => ?_)
    obtain ⟨⟨r_315, hr_315, rfl⟩, hq9⟩ := hp
    rw [hq9] at hI
    refine W.eq (g2 := F0 m 318 ls [.int (nI r_315), .int (nI (1 + r_291)), .int (nI (1 + r_277)), .ref hy]) rfl ?_
    refine g_callV0 (As := [.int (nI (1 + r_277)), .int (nI (1 + r_291)), .int (nI r_315)]) (rest := []) (b := hy) (n := 3) S hE hI hA (e_slab l K _ L1 L2 M hy y (1 + r_277) (1 + r_291) r_315 hlS hy0 ⟨⟨by omega, by omega⟩, ⟨by omega, by omega⟩, by omega⟩ (by omega)) gL_law_X4_slab rfl (by decide +kernel) ⟨Nat.le_of_ble_eq_true rfl, Nat.le_of_ble_eq_true rfl⟩ (g_hro hE hI hy0.1 rfl) rfl hl.1 rfl (Nat.le_of_ble_eq_true rfl) dL_law_318 hcs (fun rv Gc_318 H locs hp hI => ?_)
    obtain ⟨rfl, hy_318, -⟩ := hp
    refine W.eq (g2 := F0 m 321 ls [.int (nI (ySc y))]) rfl ?_
    refine lv_iload hx hb dL_law_321 (lv_at hl 4 rfl) ?_
    refine lv_icmp_eq (tgt := 767) hx hb dL_law_323 (by decide) (fun c_323 => ?_) (fun c_323 => ?_)
    · skip
      have c_323 : (ySc y) = (ySc y) := (nI_eq (a := (ySc y)) (b := (ySc y)) (by omega) (by omega)).mp c_323
      have hA9 : yArea0 (yAddS y (1 + r_277, 1 + r_291, r_315, -1, 0, [])) = yArea0 y + (1 + r_277) * (1 + r_291) := (PI_slab hPI (u := (1 + r_277, 1 + r_291, r_315, -1, 0, [])) rfl rfl).2.2.1
      exact kk _ (yAddS y (1 + r_277, 1 + r_291, r_315, -1, 0, [])) _ _ ls (TR.slab hPI rfl rfl) hI hy_318 (by rw [hA9]; exact lv_sub hl [9,0,7,8,10,11,12] rfl)
    · skip
      have c_323 : (ySc y) ≠ (ySc y) := fun z => c_323 ((nI_eq (a := (ySc y)) (b := (ySc y)) (by omega) (by omega)).mpr z)
      exact absurd rfl c_323
  · skip
    have c_264 : 30 < (ySc y) := Nat.not_le.mp (fun z => c_264 ((nI_leI (a := (ySc y)) (b := 30) (by omega) (by omega)).mpr z))
    refine lv_goto (tgt := 767) hx hb dL_law_267 (by decide) ?_
    exact kk _ y _ _ ls (TR.rf hPI) hI hy0 (lv_sub hl [6,7,4,5,8,9,10] rfl)
set_option maxHeartbeats 4000000 in
set_option maxRecDepth 100000 in
/-- a flaw -/
theorem w_flaw (S : CallFix p m c cL_law 20 s #[Value.ref b] wsL_law RL) (hE : gE K A s s.heap) (hA : ∀ q, s.heap.size ≤ q → A q) (hX : va_X b Ln xs s s.heap) (hbl : b < s.heap.size) (hbA : ¬ A b) (hlS : l.stackTraces = false) (hLn : Ln ≤ 260) (hcs : cells ≤ 600104 ∧ slots ≤ 7301314) (hPI : PI y) (hkc : yKc y = kn) (hkn : 1 ≤ kn ∧ kn ≤ 4) (hi : i < 30) (hz : sl < ySc y) (hI : gI K A s G H locs) (hy0 : YardC K L1 L2 M hy G y) (hl : lv_has ls 20 [(5, .int xv), (6, .int (nI (ySc y))), (7, .int (nI sl)), (8, .int (nI k)), (9, .int (nI (wst y))), (10, .int (nI (yPaid y))), (4, .int (nI i)), (3, .int (nI (yArea0 y))), (2, .int (nI kn)), (1, .ref hy), (0, .ref b)])
    (kk : ∀ (G1 : gW) (y1 : YV) (H1 : Heap) (locs1 : List Loc) (ls1 : Array Slot), TR y y1 → gI K A s G1 H1 locs1 → YardC K L1 L2 M hy G1 y1 → lv_has ls1 20 [(4, .int (nI i)), (3, .int (nI (yArea0 y1))), (9, .int (nI (wst y))), (10, .int (nI (yPaid y))), (2, .int (nI kn)), (1, .ref hy), (0, .ref b)] → W p l e room_1 s m #[Value.ref b] below meth c H1 locs1 cells slots Q (F0 m 767 ls1 [])) : W p l e room_1 s m #[Value.ref b] below meth c H locs cells slots Q (F0 m 328 ls []) := by
  have hx := S.1
  have hb := S.2.1
  have hml := S.2.2.1
  have h40 : ySc y ≤ 40 := hy0.2.2.2.2
  have h6 : yKc y ≤ 6 := hy0.2.1.1.2.2.2.2.1
  obtain ⟨s1, s2, s3, s4, s5, s6, s7, s8⟩ := hy0.sok sl hz
  have hF : yF y = 1 := hPI.1
  refine lv_aload_n hx hb dL_law_328 rfl (lv_at hl 9 rfl) ?_
  refine lv_iload hx hb dL_law_329 (lv_at hl 2 rfl) ?_
  refine lv_iconst (v := nI 5) hx hb dL_law_331 (by decide) ?_
  refine g_callV0 (As := [.int (nI sl), .int (nI 5)]) (rest := []) (b := hy) (n := 2) S hE hI hA (d_ofSlab l K _ L1 L2 M hy y sl 5 hlS hy0 hz (by decide)) gL_law_X4_ofSlab rfl (by decide +kernel) ⟨Nat.le_of_ble_eq_true rfl, Nat.le_of_ble_eq_true rfl⟩ (g_hro hE hI hy0.1 rfl) rfl hl.1 rfl (Nat.le_of_ble_eq_true rfl) dL_law_332 hcs (fun rv Gc_332 H locs hp hI => ?_)
  obtain ⟨rfl, hy_332, -⟩ := hp
  refine W.eq (g2 := F0 m 335 ls [.int (nI (sT (yS y sl)))]) rfl ?_
  refine lv_if_ne (tgt := 767) hx hb dL_law_335 (by decide) (fun c_335 => ?_) (fun c_335 => ?_)
  · skip
    have c_335 : (sT (yS y sl)) ≠ 0 := fun z => c_335 ((nI_eq (a := (sT (yS y sl))) (b := 0) (by omega) (by omega)).mpr z)
    exact kk _ y _ _ ls (TR.rf hPI) hI hy_332 (lv_sub hl [6,7,4,5,8,9,10] rfl)
  · skip
    have c_335 : (sT (yS y sl)) = 0 := (nI_eq (a := (sT (yS y sl))) (b := 0) (by omega) (by omega)).mp c_335
    refine lv_aload_n hx hb dL_law_338 rfl (lv_at hl 9 rfl) ?_
    refine lv_iload hx hb dL_law_339 (lv_at hl 2 rfl) ?_
    refine lv_iconst (v := nI 3) hx hb dL_law_341 (by decide) ?_
    refine g_callV0 (As := [.int (nI sl), .int (nI 3)]) (rest := []) (b := hy) (n := 2) S hE hI hA (d_ofSlab l K _ L1 L2 M hy y sl 3 hlS hy_332 hz (by decide)) gL_law_X4_ofSlab rfl (by decide +kernel) ⟨Nat.le_of_ble_eq_true rfl, Nat.le_of_ble_eq_true rfl⟩ (g_hro hE hI hy_332.1 rfl) rfl hl.1 rfl (Nat.le_of_ble_eq_true rfl) dL_law_342 hcs (fun rv Gc_342 H locs hp hI => ?_)
    obtain ⟨rfl, hy_342, -⟩ := hp
    refine W.eq (g2 := F0 m 345 ls [.int (nI ((sL (yS y sl)).length))]) rfl ?_
    refine lv_bipush (v := nI 6) hx hb dL_law_345 (by decide) ?_
    refine lv_icmp_ge (tgt := 767) hx hb dL_law_347 (by decide) (fun c_347 => ?_) (fun c_347 => ?_)
    · skip
      have c_347 : 6 ≤ ((sL (yS y sl)).length) := (nI_leI (a := 6) (b := ((sL (yS y sl)).length)) (by omega) (by omega)).mp c_347
      exact kk _ y _ _ ls (TR.rf hPI) hI hy_342 (lv_sub hl [6,7,4,5,8,9,10] rfl)
    · skip
      have c_347 : ((sL (yS y sl)).length) < 6 := Nat.not_le.mp (fun z => c_347 ((nI_leI (a := 6) (b := ((sL (yS y sl)).length)) (by omega) (by omega)).mpr z))
      refine lv_aload_n hx hb dL_law_350 rfl (lv_at hl 9 rfl) ?_
      refine lv_iload hx hb dL_law_351 (lv_at hl 2 rfl) ?_
      refine lv_iconst (v := nI 0) hx hb dL_law_353 (by decide) ?_
      refine lv_aload_n hx hb dL_law_354 rfl (lv_at hl 9 rfl) ?_
      refine lv_iload hx hb dL_law_355 (lv_at hl 2 rfl) ?_
      refine lv_iconst (v := nI 1) hx hb dL_law_357 (by decide) ?_
      refine g_callV0 (As := [.int (nI sl), .int (nI 1)]) (rest := [.int (nI 0), .int (nI sl), .ref hy]) (b := hy) (n := 2) S hE hI hA (d_ofSlab l K _ L1 L2 M hy y sl 1 hlS hy_342 hz (by decide)) gL_law_X4_ofSlab rfl (by decide +kernel) ⟨Nat.le_of_ble_eq_true rfl, Nat.le_of_ble_eq_true rfl⟩ (g_hro hE hI hy_342.1 rfl) rfl hl.1 rfl (Nat.le_of_ble_eq_true rfl) dL_law_358 hcs (fun rv Gc_358 H locs hp hI => ?_)
      obtain ⟨rfl, hy_358, -⟩ := hp
      refine W.eq (g2 := F0 m 361 ls [.int (nI (sH (yS y sl))), .int (nI 0), .int (nI sl), .ref hy]) rfl ?_
      refine lv_iconst (v := nI 1) hx hb dL_law_361 (by decide) ?_
      refine t_isub hx hb dL_law_362 (v := nI (sH (yS y sl) - 1)) (pk_sub (by omega)) ?_
      refine g_callV0 (As := [.int (nI sl), .int (nI 0), .int (nI (sH (yS y sl) - 1))]) (rest := []) (b := hy) (n := 3) S hE hI hA (e_flaw l K _ L1 L2 M hy y sl 0 (sH (yS y sl) - 1) hlS hy_358 hz ⟨by omega, by omega⟩ ⟨c_335, c_347⟩) gL_law_X4_flaw rfl (by decide +kernel) ⟨Nat.le_of_ble_eq_true rfl, Nat.le_of_ble_eq_true rfl⟩ (g_hro hE hI hy_358.1 rfl) rfl hl.1 rfl (Nat.le_of_ble_eq_true rfl) dL_law_363 hcs (fun rv Gc_363 H locs hp hI => ?_)
      obtain ⟨rfl, hy_363, -⟩ := hp
      refine W.eq (g2 := F0 m 366 ls [.int (nI ((sL (yS y sl)).length + 1))]) rfl ?_
      refine lv_aload_n hx hb dL_law_366 rfl (lv_at hl 9 rfl) ?_
      refine lv_iload hx hb dL_law_367 (lv_at hl 2 rfl) ?_
      refine lv_iconst (v := nI 3) hx hb dL_law_369 (by decide) ?_
      refine g_callV0 (As := [.int (nI sl), .int (nI 3)]) (rest := [.int (nI ((sL (yS y sl)).length + 1))]) (b := hy) (n := 2) S hE hI hA (d_ofSlab l K _ L1 L2 M hy (ySetS y sl (sPut (yS y sl) 0 (sH (yS y sl) - 1))) sl 3 hlS hy_363 hz (by decide)) gL_law_X4_ofSlab rfl (by decide +kernel) ⟨Nat.le_of_ble_eq_true rfl, Nat.le_of_ble_eq_true rfl⟩ (g_hro hE hI hy_363.1 rfl) rfl hl.1 rfl (Nat.le_of_ble_eq_true rfl) dL_law_370 hcs (fun rv Gc_370 H locs hp hI => ?_)
      obtain ⟨rfl, hy_370, -⟩ := hp
      refine W.eq (g2 := F0 m 373 ls [.int (nI ((sL (yS y sl)).length + 1)), .int (nI ((sL (yS y sl)).length + 1))]) (congrArg (fun z9 : Int32 => F0 m 373 ls (.int z9 :: [.int (nI ((sL (yS y sl)).length + 1))])) ((congrArg (fun q9 => sOf q9 3) (show yS (ySetS y sl (sPut (yS y sl) 0 (sH (yS y sl) - 1))) sl = sPut (yS y sl) 0 (sH (yS y sl) - 1) from fU_eq)).trans (congrArg nI sPut_len))) ?_
      refine lv_icmp_eq (tgt := 767) hx hb dL_law_373 (by decide) (fun c_373 => ?_) (fun c_373 => ?_)
      · skip
        have c_373 : ((sL (yS y sl)).length + 1) = ((sL (yS y sl)).length + 1) := (nI_eq (a := ((sL (yS y sl)).length + 1)) (b := ((sL (yS y sl)).length + 1)) (by omega) (by omega)).mp c_373
        have hst := stp_flaw hPI (a := 0) (b := sH (yS y sl) - 1) hz
        exact kk _ (ySetS y sl (sPut (yS y sl) 0 (sH (yS y sl) - 1))) _ _ ls (hst.TR (by decide)) hI hy_370 (by rw [hst.2.2.2.1]; exact lv_sub hl [6,7,4,5,8,9,10] rfl)
      · skip
        have c_373 : ((sL (yS y sl)).length + 1) ≠ ((sL (yS y sl)).length + 1) := fun z => c_373 ((nI_eq (a := ((sL (yS y sl)).length + 1)) (b := ((sL (yS y sl)).length + 1)) (by omega) (by omega)).mpr z)
        exact absurd rfl c_373
set_option maxHeartbeats 4000000 in
set_option maxRecDepth 100000 in
/-- an order -/
theorem w_order (S : CallFix p m c cL_law 20 s #[Value.ref b] wsL_law RL) (hE : gE K A s s.heap) (hA : ∀ q, s.heap.size ≤ q → A q) (hX : va_X b Ln xs s s.heap) (hbl : b < s.heap.size) (hbA : ¬ A b) (hlS : l.stackTraces = false) (hLn : Ln ≤ 260) (hcs : cells ≤ 600104 ∧ slots ≤ 7301314) (hPI : PI y) (hkc : yKc y = kn) (hkn : 1 ≤ kn ∧ kn ≤ 4) (hi : i < 30) (hk : k < kn) (hI : gI K A s G H locs) (hy0 : YardC K L1 L2 M hy G y) (hl : lv_has ls 20 [(5, .int xv), (6, .int (nI (ySc y))), (7, .int (nI sl)), (8, .int (nI k)), (9, .int (nI (wst y))), (10, .int (nI (yPaid y))), (4, .int (nI i)), (3, .int (nI (yArea0 y))), (2, .int (nI kn)), (1, .ref hy), (0, .ref b)])
    (kk : ∀ (G1 : gW) (y1 : YV) (H1 : Heap) (locs1 : List Loc) (ls1 : Array Slot), TR y y1 → gI K A s G1 H1 locs1 → YardC K L1 L2 M hy G1 y1 → lv_has ls1 20 [(4, .int (nI i)), (3, .int (nI (yArea0 y1))), (9, .int (nI (wst y))), (10, .int (nI (yPaid y))), (2, .int (nI kn)), (1, .ref hy), (0, .ref b)] → W p l e room_1 s m #[Value.ref b] below meth c H1 locs1 cells slots Q (F0 m 767 ls1 [])) : W p l e room_1 s m #[Value.ref b] below meth c H locs cells slots Q (F0 m 378 ls []) := by
  have hx := S.1
  have hb := S.2.1
  have hml := S.2.2.1
  have h40 : ySc y ≤ 40 := hy0.2.2.2.2
  have h6 : yKc y ≤ 6 := hy0.2.1.1.2.2.2.2.1
  have hk9 : k < yKc y := by omega
  obtain ⟨k1, k2, k3, k4, k5, k6, k7, k8, k9⟩ := hy0.kok k hk9
  refine lv_aload_n hx hb dL_law_378 rfl (lv_at hl 9 rfl) ?_
  refine lv_iload hx hb dL_law_379 (lv_at hl 3 rfl) ?_
  refine lv_iconst (v := nI 5) hx hb dL_law_381 (by decide) ?_
  refine g_callV0 (As := [.int (nI k), .int (nI 5)]) (rest := []) (b := hy) (n := 2) S hE hI hA (d_ofKind l K _ L1 L2 M hy y k 5 hlS hy0 hk9 (by decide)) gL_law_X4_ofKind rfl (by decide +kernel) ⟨Nat.le_of_ble_eq_true rfl, Nat.le_of_ble_eq_true rfl⟩ (g_hro hE hI hy0.1 rfl) rfl hl.1 rfl (Nat.le_of_ble_eq_true rfl) dL_law_382 hcs (fun rv Gc_382 H locs hp hI => ?_)
  obtain ⟨rfl, hy_382, -⟩ := hp
  refine W.eq (g2 := F0 m 385 ls [.int (nI (kN (yK y k)))]) rfl ?_
  refine lv_bipush (v := nI 18) hx hb dL_law_385 (by decide) ?_
  refine lv_icmp_ge (tgt := 767) hx hb dL_law_387 (by decide) (fun c_387 => ?_) (fun c_387 => ?_)
  · skip
    have c_387 : 18 ≤ (kN (yK y k)) := (nI_leI (a := 18) (b := (kN (yK y k))) (by omega) (by omega)).mp c_387
    exact kk _ y _ _ ls (TR.rf hPI) hI hy_382 (lv_sub hl [6,7,4,5,8,9,10] rfl)
  · skip
    have c_387 : (kN (yK y k)) < 18 := Nat.not_le.mp (fun z => c_387 ((nI_leI (a := 18) (b := (kN (yK y k))) (by omega) (by omega)).mpr z))
    refine lv_aload_n hx hb dL_law_390 rfl (lv_at hl 9 rfl) ?_
    refine lv_iload hx hb dL_law_391 (lv_at hl 3 rfl) ?_
    refine lv_iconst (v := nI 2) hx hb dL_law_393 (by decide) ?_
    refine g_callV0 (As := [.int (nI k), .int (nI 2)]) (rest := []) (b := hy) (n := 2) S hE hI hA (e_order l K _ L1 L2 M hy y k 2 hlS hy_382 hk9 ⟨by decide, by omega⟩) gL_law_X4_order rfl (by decide +kernel) ⟨Nat.le_of_ble_eq_true rfl, Nat.le_of_ble_eq_true rfl⟩ (g_hro hE hI hy_382.1 rfl) rfl hl.1 rfl (Nat.le_of_ble_eq_true rfl) dL_law_394 hcs (fun rv Gc_394 H locs hp hI => ?_)
    obtain ⟨rfl, hy_394, -⟩ := hp
    refine W.eq (g2 := F0 m 397 ls [.int (nI (kN (yK y k) + 2))]) rfl ?_
    refine lv_aload_n hx hb dL_law_397 rfl (lv_at hl 9 rfl) ?_
    refine lv_iload hx hb dL_law_398 (lv_at hl 3 rfl) ?_
    refine lv_iconst (v := nI 5) hx hb dL_law_400 (by decide) ?_
    refine g_callV0 (As := [.int (nI k), .int (nI 5)]) (rest := [.int (nI (kN (yK y k) + 2))]) (b := hy) (n := 2) S hE hI hA (d_ofKind l K _ L1 L2 M hy (ySetK y k (kOrd (yK y k) 2)) k 5 hlS hy_394 hk9 (by decide)) gL_law_X4_ofKind rfl (by decide +kernel) ⟨Nat.le_of_ble_eq_true rfl, Nat.le_of_ble_eq_true rfl⟩ (g_hro hE hI hy_394.1 rfl) rfl hl.1 rfl (Nat.le_of_ble_eq_true rfl) dL_law_401 hcs (fun rv Gc_401 H locs hp hI => ?_)
    obtain ⟨rfl, hy_401, -⟩ := hp
    refine W.eq (g2 := F0 m 404 ls [.int (nI (kN (yK y k) + 2)), .int (nI (kN (yK y k) + 2))]) (congrArg (fun z9 : Int32 => F0 m 404 ls (.int z9 :: [.int (nI (kN (yK y k) + 2))])) (congrArg (fun q9 => kOf q9 5) (show yK (ySetK y k (kOrd (yK y k) 2)) k = kOrd (yK y k) 2 from fU_eq))) ?_
    refine lv_icmp_eq (tgt := 767) hx hb dL_law_404 (by decide) (fun c_404 => ?_) (fun c_404 => ?_)
    · skip
      have c_404 : (kN (yK y k) + 2) = (kN (yK y k) + 2) := (nI_eq (a := (kN (yK y k) + 2)) (b := (kN (yK y k) + 2)) (by omega) (by omega)).mp c_404
      have hst := stp_order hPI (n := 2) hk9
      exact kk _ (ySetK y k (kOrd (yK y k) 2)) _ _ ls (hst.TR (by decide)) hI hy_401 (by rw [hst.2.2.2.1]; exact lv_sub hl [6,7,4,5,8,9,10] rfl)
    · skip
      have c_404 : (kN (yK y k) + 2) ≠ (kN (yK y k) + 2) := fun z => c_404 ((nI_eq (a := (kN (yK y k) + 2)) (b := (kN (yK y k) + 2)) (by omega) (by omega)).mpr z)
      exact absurd rfl c_404
set_option maxHeartbeats 4000000 in
set_option maxRecDepth 100000 in
/-- a cut -/
theorem w_cut (S : CallFix p m c cL_law 20 s #[Value.ref b] wsL_law RL) (hE : gE K A s s.heap) (hA : ∀ q, s.heap.size ≤ q → A q) (hX : va_X b Ln xs s s.heap) (hbl : b < s.heap.size) (hbA : ¬ A b) (hlS : l.stackTraces = false) (hLn : Ln ≤ 260) (hcs : cells ≤ 600104 ∧ slots ≤ 7301314) (hPI : PI y) (hkc : yKc y = kn) (hkn : 1 ≤ kn ∧ kn ≤ 4) (hi : i < 30) (hz : sl < ySc y) (hI : gI K A s G H locs) (hy0 : YardC K L1 L2 M hy G y) (hl : lv_has ls 20 [(5, .int xv), (6, .int (nI (ySc y))), (7, .int (nI sl)), (8, .int (nI k)), (9, .int (nI (wst y))), (10, .int (nI (yPaid y))), (4, .int (nI i)), (3, .int (nI (yArea0 y))), (2, .int (nI kn)), (1, .ref hy), (0, .ref b)])
    (kk : ∀ (G1 : gW) (y1 : YV) (H1 : Heap) (locs1 : List Loc) (ls1 : Array Slot), TR y y1 → gI K A s G1 H1 locs1 → YardC K L1 L2 M hy G1 y1 → lv_has ls1 20 [(4, .int (nI i)), (3, .int (nI (yArea0 y1))), (9, .int (nI (wst y))), (10, .int (nI (yPaid y))), (2, .int (nI kn)), (1, .ref hy), (0, .ref b)] → W p l e room_1 s m #[Value.ref b] below meth c H1 locs1 cells slots Q (F0 m 767 ls1 [])) : W p l e room_1 s m #[Value.ref b] below meth c H locs cells slots Q (F0 m 409 ls []) := by
  have hx := S.1
  have hb := S.2.1
  have hml := S.2.2.1
  have h40 : ySc y ≤ 40 := hy0.2.2.2.2
  have h6 : yKc y ≤ 6 := hy0.2.1.1.2.2.2.2.1
  obtain ⟨s1, s2, s3, s4, s5, s6, s7, s8⟩ := hy0.sok sl hz
  have hF : yF y = 1 := hPI.1
  refine lv_iload hx hb dL_law_409 (lv_at hl 0 rfl) ?_
  refine lv_iconst (v := nI 2) hx hb dL_law_411 (by decide) ?_
  refine g_shr hx hb dL_law_412 (fun v_412 => ?_)
  refine lv_iconst (v := nI 2) hx hb dL_law_413 (by decide) ?_
  refine g_callS0 (As := [.int v_412, .int (nI 2)]) (rest := []) (n := 2) S hE hI hA (c_L_below l K _ v_412 2 ⟨by omega, by omega⟩) gL_law_L_below rfl (by decide +kernel) ⟨Nat.le_of_ble_eq_true rfl, Nat.le_of_ble_eq_true rfl⟩ rfl hl.1 rfl (Nat.le_of_ble_eq_true rfl) dL_law_414 hcs (fun rv Gc_414 H locs hp hI => ?_)
  obtain ⟨⟨r_414, hr_414, rfl⟩, hq9⟩ := hp
  rw [hq9] at hI
  refine W.eq (g2 := F0 m 417 ls [.int (nI r_414)]) rfl ?_
  refine lv_if_ne (tgt := 424) hx hb dL_law_417 (by decide) (fun c_417 => ?_) (fun c_417 => ?_)
  · skip
    have c_417 : r_414 ≠ 0 := fun z => c_417 ((nI_eq (a := r_414) (b := 0) (by omega) (by omega)).mpr z)
    refine lv_iconst (v := nI 0) hx hb dL_law_424 (by decide) ?_
    refine lv_istore (lv' := [(13, .int (nI 0)), (5, .int xv), (6, .int (nI (ySc y))), (7, .int (nI sl)), (8, .int (nI k)), (9, .int (nI (wst y))), (10, .int (nI (yPaid y))), (4, .int (nI i)), (3, .int (nI (yArea0 y))), (2, .int (nI kn)), (1, .ref hy), (0, .ref b)]) hx hb dL_law_425 hl (by decide) rfl (fun ls hl => ?_)
    refine lv_aload_n hx hb dL_law_427 rfl (lv_at hl 10 rfl) ?_
    refine lv_iload hx hb dL_law_428 (lv_at hl 3 rfl) ?_
    refine lv_iload hx hb dL_law_430 (lv_at hl 0 rfl) ?_
    refine lv_if_eq (tgt := 439) hx hb dL_law_432 (by decide) (fun c_432 => ?_) (fun c_432 => ?_)
    · skip
      have c_432 : 0 = 0 := (nI_eq (a := 0) (b := 0) (by omega) (by omega)).mp c_432
      refine lv_iconst (v := nI 1) hx hb dL_law_439 (by decide) ?_
      refine g_callV0 (As := [.int (nI sl), .int (nI 1)]) (rest := []) (b := hy) (n := 2) S hE hI hA (d_ofSlab l K _ L1 L2 M hy y sl 1 hlS hy0 hz (by decide)) gL_law_X4_ofSlab rfl (by decide +kernel) ⟨Nat.le_of_ble_eq_true rfl, Nat.le_of_ble_eq_true rfl⟩ (g_hro hE hI hy0.1 rfl) rfl hl.1 rfl (Nat.le_of_ble_eq_true rfl) dL_law_440 hcs (fun rv Gc_440 H locs hp hI => ?_)
      obtain ⟨rfl, hy_440, -⟩ := hp
      refine W.eq (g2 := F0 m 443 ls [.int (nI (sH (yS y sl)))]) rfl ?_
      refine lv_istore (lv' := [(14, .int (nI (sH (yS y sl)))), (13, .int (nI 0)), (5, .int xv), (6, .int (nI (ySc y))), (7, .int (nI sl)), (8, .int (nI k)), (9, .int (nI (wst y))), (10, .int (nI (yPaid y))), (4, .int (nI i)), (3, .int (nI (yArea0 y))), (2, .int (nI kn)), (1, .ref hy), (0, .ref b)]) hx hb dL_law_443 hl (by decide) rfl (fun ls hl => ?_)
      refine lv_aload_n hx hb dL_law_445 rfl (lv_at hl 11 rfl) ?_
      refine lv_iload hx hb dL_law_446 (lv_at hl 4 rfl) ?_
      refine lv_iconst (v := nI 5) hx hb dL_law_448 (by decide) ?_
      refine g_callV0 (As := [.int (nI sl), .int (nI 5)]) (rest := []) (b := hy) (n := 2) S hE hI hA (d_ofSlab l K _ L1 L2 M hy y sl 5 hlS hy_440 hz (by decide)) gL_law_X4_ofSlab rfl (by decide +kernel) ⟨Nat.le_of_ble_eq_true rfl, Nat.le_of_ble_eq_true rfl⟩ (g_hro hE hI hy_440.1 rfl) rfl hl.1 rfl (Nat.le_of_ble_eq_true rfl) dL_law_449 hcs (fun rv Gc_449 H locs hp hI => ?_)
      obtain ⟨rfl, hy_449, -⟩ := hp
      refine W.eq (g2 := F0 m 452 ls [.int (nI (sT (yS y sl)))]) rfl ?_
      refine lv_if_gt (tgt := 767) hx hb dL_law_452 (by decide) (fun c_452 => ?_) (fun c_452 => ?_)
      · skip
        have c_452 : 0 < (sT (yS y sl)) := (nI_ltI (a := 0) (b := (sT (yS y sl))) (by omega) (by omega)).mp c_452
        exact kk _ y _ _ ls (TR.rf hPI) hI hy_449 (lv_sub hl [8,9,6,7,10,11,12] rfl)
      · skip
        have c_452 : (sT (yS y sl)) ≤ 0 := Nat.not_lt.mp (fun z => c_452 ((nI_ltI (a := 0) (b := (sT (yS y sl))) (by omega) (by omega)).mpr z))
        refine lv_iload hx hb dL_law_455 (lv_at hl 0 rfl) ?_
        refine lv_iconst (v := nI 3) hx hb dL_law_457 (by decide) ?_
        refine lv_icmp_lt (tgt := 767) hx hb dL_law_458 (by decide) (fun c_458 => ?_) (fun c_458 => ?_)
        · skip
          have c_458 : (sH (yS y sl)) < 3 := (nI_ltI (a := (sH (yS y sl))) (b := 3) (by omega) (by omega)).mp c_458
          exact kk _ y _ _ ls (TR.rf hPI) hI hy_449 (lv_sub hl [8,9,6,7,10,11,12] rfl)
        · skip
          have c_458 : 3 ≤ (sH (yS y sl)) := Nat.not_lt.mp (fun z => c_458 ((nI_ltI (a := (sH (yS y sl))) (b := 3) (by omega) (by omega)).mpr z))
          refine lv_iload hx hb dL_law_461 (lv_at hl 3 rfl) ?_
          refine lv_bipush (v := nI 36) hx hb dL_law_463 (by decide) ?_
          refine lv_icmp_le (tgt := 471) hx hb dL_law_465 (by decide) (fun c_465 => ?_) (fun c_465 => ?_)
          · skip
            have c_465 : (ySc y) ≤ 36 := (nI_leI (a := (ySc y)) (b := 36) (by omega) (by omega)).mp c_465
            refine lv_aload_n hx hb dL_law_471 rfl (lv_at hl 11 rfl) ?_
            refine lv_iload hx hb dL_law_472 (lv_at hl 4 rfl) ?_
            refine lv_iload hx hb dL_law_474 (lv_at hl 1 rfl) ?_
            refine lv_iconst (v := nI 1) hx hb dL_law_476 (by decide) ?_
            refine lv_iload hx hb dL_law_477 (lv_at hl 2 rfl) ?_
            refine lv_iconst (v := nI 5) hx hb dL_law_479 (by decide) ?_
            refine g_shr hx hb dL_law_480 (fun v_480 => ?_)
            refine lv_iload hx hb dL_law_481 (lv_at hl 0 rfl) ?_
            refine lv_iconst (v := nI 2) hx hb dL_law_483 (by decide) ?_
            refine t_isub hx hb dL_law_484 (v := nI ((sH (yS y sl)) - 2)) (pk_sub (by omega)) ?_
            refine g_callS0 (As := [.int v_480, .int (nI ((sH (yS y sl)) - 2))]) (rest := [.int (nI 1), .int (nI 0), .int (nI sl), .ref hy]) (n := 2) S hE hI hA (c_L_below l K _ v_480 ((sH (yS y sl)) - 2) ⟨by omega, by omega⟩) gL_law_L_below rfl (by decide +kernel) ⟨Nat.le_of_ble_eq_true rfl, Nat.le_of_ble_eq_true rfl⟩ rfl hl.1 rfl (Nat.le_of_ble_eq_true rfl) dL_law_485 hcs (fun rv Gc_485 H locs hp hI => ?_)
            obtain ⟨⟨r_485, hr_485, rfl⟩, hq9⟩ := hp
            rw [hq9] at hI
            refine W.eq (g2 := F0 m 488 ls [.int (nI r_485), .int (nI 1), .int (nI 0), .int (nI sl), .ref hy]) rfl ?_
            refine t_iadd hx hb dL_law_488 (nI_add _ _) ?_
            have hcan : canC (yLen (yS y sl) false) (yF y) (1 + r_485) = true := by show decide (1 ≤ 1 + r_485 ∧ 1 + r_485 + yF y < (sH (yS y sl))) = true; exact decide_eq_true (by omega)
            refine g_callV0 (As := [.int (nI sl), .int (nI 0), .int (nI (1 + r_485))]) (rest := []) (b := hy) (n := 3) S hE hI hA (e_cutA l K _ L1 L2 M hy y sl (1 + r_485) hlS hy_449 hz (by omega) hcan ⟨by omega, by omega⟩) gL_law_X4_cut rfl (by decide +kernel) ⟨Nat.le_of_ble_eq_true rfl, Nat.le_of_ble_eq_true rfl⟩ (g_hro hE hI hy_449.1 rfl) rfl hl.1 rfl (Nat.le_of_ble_eq_true rfl) dL_law_489 hcs (fun rv Gc_489 H locs hp hI => ?_)
            obtain ⟨rfl, hy_489, -⟩ := hp
            have hz1 : yS (yCut y sl false (1 + r_485)) sl = sState (yS y sl) 1 := cut_self hcan
            have hn1 : yS (yCut y sl false (1 + r_485)) (ySc y) = (cutN (yS y sl) sl false (1 + r_485)) := cut_n1 hz hcan
            have hn2 : yS (yCut y sl false (1 + r_485)) (ySc y + 1) = (cutF (yS y sl) sl false (1 + r_485 + yF y)) := cut_n2 hz hcan
            have hsc1 : ySc (yCut y sl false (1 + r_485)) = ySc y + 2 := by rw [yCut_yes hcan] <;> rfl
            have hfl := cut_flaws (u := (yS y sl)) (i := sl) (x := 1 + r_485) (kf := yF y) (dn := false)
            refine W.eq (g2 := F0 m 492 ls [.int (nI (ySc y))]) rfl ?_
            refine lv_istore (lv' := [(15, .int (nI (ySc y))), (14, .int (nI (sH (yS y sl)))), (13, .int (nI 0)), (5, .int xv), (6, .int (nI (ySc y))), (7, .int (nI sl)), (8, .int (nI k)), (9, .int (nI (wst y))), (10, .int (nI (yPaid y))), (4, .int (nI i)), (3, .int (nI (yArea0 y))), (2, .int (nI kn)), (1, .ref hy), (0, .ref b)]) hx hb dL_law_492 hl (by decide) rfl (fun ls hl => ?_)
            refine lv_iload hx hb dL_law_494 (lv_at hl 0 rfl) ?_
            refine lv_iload hx hb dL_law_496 (lv_at hl 4 rfl) ?_
            refine lv_icmp_ne (tgt := 581) hx hb dL_law_498 (by decide) (fun c_498 => ?_) (fun c_498 => ?_)
            · skip
              have c_498 : (ySc y) ≠ (ySc y) := fun z => c_498 ((nI_eq (a := (ySc y)) (b := (ySc y)) (by omega) (by omega)).mpr z)
              exact absurd rfl c_498
            · skip
              have c_498 : (ySc y) = (ySc y) := (nI_eq (a := (ySc y)) (b := (ySc y)) (by omega) (by omega)).mp c_498
              refine lv_aload_n hx hb dL_law_501 rfl (lv_at hl 12 rfl) ?_
              refine lv_iload hx hb dL_law_502 (lv_at hl 5 rfl) ?_
              refine lv_iconst (v := nI 5) hx hb dL_law_504 (by decide) ?_
              refine g_callV0 (As := [.int (nI sl), .int (nI 5)]) (rest := []) (b := hy) (n := 2) S hE hI hA (d_ofSlab l K _ L1 L2 M hy (yCut y sl false (1 + r_485)) sl 5 hlS hy_489 (by omega) (by decide)) gL_law_X4_ofSlab rfl (by decide +kernel) ⟨Nat.le_of_ble_eq_true rfl, Nat.le_of_ble_eq_true rfl⟩ (g_hro hE hI hy_489.1 rfl) rfl hl.1 rfl (Nat.le_of_ble_eq_true rfl) dL_law_505 hcs (fun rv Gc_505 H locs hp hI => ?_)
              obtain ⟨rfl, hy_505, -⟩ := hp
              refine W.eq (g2 := F0 m 508 ls [.int (nI 1)]) (congrArg (fun z9 : Int32 => F0 m 508 ls (.int z9 :: [])) (congrArg (fun q9 => sOf q9 5) hz1)) ?_
              refine lv_iconst (v := nI 1) hx hb dL_law_508 (by decide) ?_
              refine lv_icmp_ne (tgt := 581) hx hb dL_law_509 (by decide) (fun c_509 => ?_) (fun c_509 => ?_)
              · skip
                have c_509 : 1 ≠ 1 := fun z => c_509 ((nI_eq (a := 1) (b := 1) (by omega) (by omega)).mpr z)
                exact absurd rfl c_509
              · skip
                have c_509 : 1 = 1 := (nI_eq (a := 1) (b := 1) (by omega) (by omega)).mp c_509
                refine lv_aload_n hx hb dL_law_512 rfl (lv_at hl 12 rfl) ?_
                refine lv_iload hx hb dL_law_513 (lv_at hl 0 rfl) ?_
                refine lv_iconst (v := nI 3) hx hb dL_law_515 (by decide) ?_
                refine g_callV0 (As := [.int (nI (ySc y)), .int (nI 3)]) (rest := []) (b := hy) (n := 2) S hE hI hA (d_ofSlab l K _ L1 L2 M hy (yCut y sl false (1 + r_485)) (ySc y) 3 hlS hy_505 (by omega) (by decide)) gL_law_X4_ofSlab rfl (by decide +kernel) ⟨Nat.le_of_ble_eq_true rfl, Nat.le_of_ble_eq_true rfl⟩ (g_hro hE hI hy_505.1 rfl) rfl hl.1 rfl (Nat.le_of_ble_eq_true rfl) dL_law_516 hcs (fun rv Gc_516 H locs hp hI => ?_)
                obtain ⟨rfl, hy_516, -⟩ := hp
                refine W.eq (g2 := F0 m 519 ls [.int (nI ((sL (cutN (yS y sl) sl false (1 + r_485))).length))]) (congrArg (fun z9 : Int32 => F0 m 519 ls (.int z9 :: [])) (congrArg (fun q9 => sOf q9 3) hn1)) ?_
                refine lv_aload_n hx hb dL_law_519 rfl (lv_at hl 12 rfl) ?_
                refine lv_iload hx hb dL_law_520 (lv_at hl 0 rfl) ?_
                refine lv_iconst (v := nI 1) hx hb dL_law_522 (by decide) ?_
                refine t_iadd hx hb dL_law_523 (nI_add _ _) ?_
                refine lv_iconst (v := nI 3) hx hb dL_law_524 (by decide) ?_
                refine g_callV0 (As := [.int (nI ((ySc y) + 1)), .int (nI 3)]) (rest := [.int (nI ((sL (cutN (yS y sl) sl false (1 + r_485))).length))]) (b := hy) (n := 2) S hE hI hA (d_ofSlab l K _ L1 L2 M hy (yCut y sl false (1 + r_485)) ((ySc y) + 1) 3 hlS hy_516 (by omega) (by decide)) gL_law_X4_ofSlab rfl (by decide +kernel) ⟨Nat.le_of_ble_eq_true rfl, Nat.le_of_ble_eq_true rfl⟩ (g_hro hE hI hy_516.1 rfl) rfl hl.1 rfl (Nat.le_of_ble_eq_true rfl) dL_law_525 hcs (fun rv Gc_525 H locs hp hI => ?_)
                obtain ⟨rfl, hy_525, -⟩ := hp
                refine W.eq (g2 := F0 m 528 ls [.int (nI ((sL (cutF (yS y sl) sl false (1 + r_485 + yF y))).length)), .int (nI ((sL (cutN (yS y sl) sl false (1 + r_485))).length))]) (congrArg (fun z9 : Int32 => F0 m 528 ls (.int z9 :: [.int (nI ((sL (cutN (yS y sl) sl false (1 + r_485))).length))])) (congrArg (fun q9 => sOf q9 3) hn2)) ?_
                refine t_iadd hx hb dL_law_528 (nI_add _ _) ?_
                refine lv_aload_n hx hb dL_law_529 rfl (lv_at hl 12 rfl) ?_
                refine lv_iload hx hb dL_law_530 (lv_at hl 5 rfl) ?_
                refine lv_iconst (v := nI 3) hx hb dL_law_532 (by decide) ?_
                refine g_callV0 (As := [.int (nI sl), .int (nI 3)]) (rest := [.int (nI (((sL (cutN (yS y sl) sl false (1 + r_485))).length) + ((sL (cutF (yS y sl) sl false (1 + r_485 + yF y))).length)))]) (b := hy) (n := 2) S hE hI hA (d_ofSlab l K _ L1 L2 M hy (yCut y sl false (1 + r_485)) sl 3 hlS hy_525 (by omega) (by decide)) gL_law_X4_ofSlab rfl (by decide +kernel) ⟨Nat.le_of_ble_eq_true rfl, Nat.le_of_ble_eq_true rfl⟩ (g_hro hE hI hy_525.1 rfl) rfl hl.1 rfl (Nat.le_of_ble_eq_true rfl) dL_law_533 hcs (fun rv Gc_533 H locs hp hI => ?_)
                obtain ⟨rfl, hy_533, -⟩ := hp
                refine W.eq (g2 := F0 m 536 ls [.int (nI ((sL (yS y sl)).length)), .int (nI (((sL (cutN (yS y sl) sl false (1 + r_485))).length) + ((sL (cutF (yS y sl) sl false (1 + r_485 + yF y))).length)))]) (congrArg (fun z9 : Int32 => F0 m 536 ls (.int z9 :: [.int (nI (((sL (cutN (yS y sl) sl false (1 + r_485))).length) + ((sL (cutF (yS y sl) sl false (1 + r_485 + yF y))).length)))])) ((congrArg (fun q9 => sOf q9 3) hz1).trans rfl)) ?_
                refine lv_icmp_gt (tgt := 581) hx hb dL_law_536 (by decide) (fun c_536 => ?_) (fun c_536 => ?_)
                · skip
                  have c_536 : ((sL (yS y sl)).length) < (((sL (cutN (yS y sl) sl false (1 + r_485))).length) + ((sL (cutF (yS y sl) sl false (1 + r_485 + yF y))).length)) := (nI_ltI (a := ((sL (yS y sl)).length)) (b := (((sL (cutN (yS y sl) sl false (1 + r_485))).length) + ((sL (cutF (yS y sl) sl false (1 + r_485 + yF y))).length))) (by omega) (by omega)).mp c_536
                  exact absurd c_536 (by omega)
                · skip
                  have c_536 : (((sL (cutN (yS y sl) sl false (1 + r_485))).length) + ((sL (cutF (yS y sl) sl false (1 + r_485 + yF y))).length)) ≤ ((sL (yS y sl)).length) := Nat.not_lt.mp (fun z => c_536 ((nI_ltI (a := ((sL (yS y sl)).length)) (b := (((sL (cutN (yS y sl) sl false (1 + r_485))).length) + ((sL (cutF (yS y sl) sl false (1 + r_485 + yF y))).length))) (by omega) (by omega)).mpr z))
                  refine lv_aload_n hx hb dL_law_539 rfl (lv_at hl 12 rfl) ?_
                  refine lv_iload hx hb dL_law_540 (lv_at hl 0 rfl) ?_
                  refine lv_iload hx hb dL_law_542 (lv_at hl 2 rfl) ?_
                  refine lv_if_eq (tgt := 551) hx hb dL_law_544 (by decide) (fun c_544 => ?_) (fun c_544 => ?_)
                  · skip
                    have c_544 : 0 = 0 := (nI_eq (a := 0) (b := 0) (by omega) (by omega)).mp c_544
                    refine lv_iconst (v := nI 1) hx hb dL_law_551 (by decide) ?_
                    refine g_callV0 (As := [.int (nI (ySc y)), .int (nI 1)]) (rest := []) (b := hy) (n := 2) S hE hI hA (d_ofSlab l K _ L1 L2 M hy (yCut y sl false (1 + r_485)) (ySc y) 1 hlS hy_533 (by omega) (by decide)) gL_law_X4_ofSlab rfl (by decide +kernel) ⟨Nat.le_of_ble_eq_true rfl, Nat.le_of_ble_eq_true rfl⟩ (g_hro hE hI hy_533.1 rfl) rfl hl.1 rfl (Nat.le_of_ble_eq_true rfl) dL_law_552 hcs (fun rv Gc_552 H locs hp hI => ?_)
                    obtain ⟨rfl, hy_552, -⟩ := hp
                    refine W.eq (g2 := F0 m 555 ls [.int (nI (1 + r_485))]) (congrArg (fun z9 : Int32 => F0 m 555 ls (.int z9 :: [])) (congrArg (fun q9 => sOf q9 1) hn1)) ?_
                    refine lv_aload_n hx hb dL_law_555 rfl (lv_at hl 12 rfl) ?_
                    refine lv_iload hx hb dL_law_556 (lv_at hl 0 rfl) ?_
                    refine lv_iconst (v := nI 1) hx hb dL_law_558 (by decide) ?_
                    refine t_iadd hx hb dL_law_559 (nI_add _ _) ?_
                    refine lv_iload hx hb dL_law_560 (lv_at hl 2 rfl) ?_
                    refine lv_if_eq (tgt := 569) hx hb dL_law_562 (by decide) (fun c_562 => ?_) (fun c_562 => ?_)
                    · skip
                      have c_562 : 0 = 0 := (nI_eq (a := 0) (b := 0) (by omega) (by omega)).mp c_562
                      refine lv_iconst (v := nI 1) hx hb dL_law_569 (by decide) ?_
                      refine g_callV0 (As := [.int (nI ((ySc y) + 1)), .int (nI 1)]) (rest := [.int (nI (1 + r_485))]) (b := hy) (n := 2) S hE hI hA (d_ofSlab l K _ L1 L2 M hy (yCut y sl false (1 + r_485)) ((ySc y) + 1) 1 hlS hy_552 (by omega) (by decide)) gL_law_X4_ofSlab rfl (by decide +kernel) ⟨Nat.le_of_ble_eq_true rfl, Nat.le_of_ble_eq_true rfl⟩ (g_hro hE hI hy_552.1 rfl) rfl hl.1 rfl (Nat.le_of_ble_eq_true rfl) dL_law_570 hcs (fun rv Gc_570 H locs hp hI => ?_)
                      obtain ⟨rfl, hy_570, -⟩ := hp
                      refine W.eq (g2 := F0 m 573 ls [.int (nI ((sH (yS y sl)) - (1 + r_485 + yF y))), .int (nI (1 + r_485))]) (congrArg (fun z9 : Int32 => F0 m 573 ls (.int z9 :: [.int (nI (1 + r_485))])) (congrArg (fun q9 => sOf q9 1) hn2)) ?_
                      refine t_iadd hx hb dL_law_573 (nI_add _ _) ?_
                      refine lv_iconst (v := nI 1) hx hb dL_law_574 (by decide) ?_
                      refine t_iadd hx hb dL_law_575 (nI_add _ _) ?_
                      refine lv_iload hx hb dL_law_576 (lv_at hl 1 rfl) ?_
                      refine lv_icmp_eq (tgt := 767) hx hb dL_law_578 (by decide) (fun c_578 => ?_) (fun c_578 => ?_)
                      · skip
                        have c_578 : (((1 + r_485) + ((sH (yS y sl)) - (1 + r_485 + yF y))) + 1) = (sH (yS y sl)) := (nI_eq (a := (((1 + r_485) + ((sH (yS y sl)) - (1 + r_485 + yF y))) + 1)) (b := (sH (yS y sl))) (by omega) (by omega)).mp c_578
                        have hst := stp_cut hPI (dn := false) (x := 1 + r_485) hz (by omega) (by omega)
                        exact kk _ (yCut y sl false (1 + r_485)) _ _ ls (hst.TR (by decide)) hI hy_570 (by rw [hst.2.2.2.1]; exact lv_sub hl [9,10,7,8,11,12,13] rfl)
                      · skip
                        have c_578 : (((1 + r_485) + ((sH (yS y sl)) - (1 + r_485 + yF y))) + 1) ≠ (sH (yS y sl)) := fun z => c_578 ((nI_eq (a := (((1 + r_485) + ((sH (yS y sl)) - (1 + r_485 + yF y))) + 1)) (b := (sH (yS y sl))) (by omega) (by omega)).mpr z)
                        exact (c_578 (by omega)).elim
                    · skip
                      have c_562 : 0 ≠ 0 := fun z => c_562 ((nI_eq (a := 0) (b := 0) (by omega) (by omega)).mpr z)
                      exact absurd rfl c_562
                  · skip
                    have c_544 : 0 ≠ 0 := fun z => c_544 ((nI_eq (a := 0) (b := 0) (by omega) (by omega)).mpr z)
                    exact absurd rfl c_544
          · skip
            have c_465 : 36 < (ySc y) := Nat.not_le.mp (fun z => c_465 ((nI_leI (a := (ySc y)) (b := 36) (by omega) (by omega)).mpr z))
            refine lv_goto (tgt := 767) hx hb dL_law_468 (by decide) ?_
            exact kk _ y _ _ ls (TR.rf hPI) hI hy_449 (lv_sub hl [8,9,6,7,10,11,12] rfl)
    · skip
      have c_432 : 0 ≠ 0 := fun z => c_432 ((nI_eq (a := 0) (b := 0) (by omega) (by omega)).mpr z)
      exact absurd rfl c_432
  · skip
    have c_417 : r_414 = 0 := (nI_eq (a := r_414) (b := 0) (by omega) (by omega)).mp c_417
    refine lv_iconst (v := nI 1) hx hb dL_law_420 (by decide) ?_
    refine lv_goto (tgt := 425) hx hb dL_law_421 (by decide) ?_
    refine lv_istore (lv' := [(13, .int (nI 1)), (5, .int xv), (6, .int (nI (ySc y))), (7, .int (nI sl)), (8, .int (nI k)), (9, .int (nI (wst y))), (10, .int (nI (yPaid y))), (4, .int (nI i)), (3, .int (nI (yArea0 y))), (2, .int (nI kn)), (1, .ref hy), (0, .ref b)]) hx hb dL_law_425 hl (by decide) rfl (fun ls hl => ?_)
    refine lv_aload_n hx hb dL_law_427 rfl (lv_at hl 10 rfl) ?_
    refine lv_iload hx hb dL_law_428 (lv_at hl 3 rfl) ?_
    refine lv_iload hx hb dL_law_430 (lv_at hl 0 rfl) ?_
    refine lv_if_eq (tgt := 439) hx hb dL_law_432 (by decide) (fun c_432 => ?_) (fun c_432 => ?_)
    · skip
      have c_432 : 1 = 0 := (nI_eq (a := 1) (b := 0) (by omega) (by omega)).mp c_432
      exact absurd c_432 (by decide)
    · skip
      have c_432 : 1 ≠ 0 := fun z => c_432 ((nI_eq (a := 1) (b := 0) (by omega) (by omega)).mpr z)
      refine lv_iconst (v := nI 0) hx hb dL_law_435 (by decide) ?_
      refine lv_goto (tgt := 440) hx hb dL_law_436 (by decide) ?_
      refine g_callV0 (As := [.int (nI sl), .int (nI 0)]) (rest := []) (b := hy) (n := 2) S hE hI hA (d_ofSlab l K _ L1 L2 M hy y sl 0 hlS hy0 hz (by decide)) gL_law_X4_ofSlab rfl (by decide +kernel) ⟨Nat.le_of_ble_eq_true rfl, Nat.le_of_ble_eq_true rfl⟩ (g_hro hE hI hy0.1 rfl) rfl hl.1 rfl (Nat.le_of_ble_eq_true rfl) dL_law_440 hcs (fun rv Gc_440 H locs hp hI => ?_)
      obtain ⟨rfl, hy_440, -⟩ := hp
      refine W.eq (g2 := F0 m 443 ls [.int (nI (sW (yS y sl)))]) rfl ?_
      refine lv_istore (lv' := [(14, .int (nI (sW (yS y sl)))), (13, .int (nI 1)), (5, .int xv), (6, .int (nI (ySc y))), (7, .int (nI sl)), (8, .int (nI k)), (9, .int (nI (wst y))), (10, .int (nI (yPaid y))), (4, .int (nI i)), (3, .int (nI (yArea0 y))), (2, .int (nI kn)), (1, .ref hy), (0, .ref b)]) hx hb dL_law_443 hl (by decide) rfl (fun ls hl => ?_)
      refine lv_aload_n hx hb dL_law_445 rfl (lv_at hl 11 rfl) ?_
      refine lv_iload hx hb dL_law_446 (lv_at hl 4 rfl) ?_
      refine lv_iconst (v := nI 5) hx hb dL_law_448 (by decide) ?_
      refine g_callV0 (As := [.int (nI sl), .int (nI 5)]) (rest := []) (b := hy) (n := 2) S hE hI hA (d_ofSlab l K _ L1 L2 M hy y sl 5 hlS hy_440 hz (by decide)) gL_law_X4_ofSlab rfl (by decide +kernel) ⟨Nat.le_of_ble_eq_true rfl, Nat.le_of_ble_eq_true rfl⟩ (g_hro hE hI hy_440.1 rfl) rfl hl.1 rfl (Nat.le_of_ble_eq_true rfl) dL_law_449 hcs (fun rv Gc_449 H locs hp hI => ?_)
      obtain ⟨rfl, hy_449, -⟩ := hp
      refine W.eq (g2 := F0 m 452 ls [.int (nI (sT (yS y sl)))]) rfl ?_
      refine lv_if_gt (tgt := 767) hx hb dL_law_452 (by decide) (fun c_452 => ?_) (fun c_452 => ?_)
      · skip
        have c_452 : 0 < (sT (yS y sl)) := (nI_ltI (a := 0) (b := (sT (yS y sl))) (by omega) (by omega)).mp c_452
        exact kk _ y _ _ ls (TR.rf hPI) hI hy_449 (lv_sub hl [8,9,6,7,10,11,12] rfl)
      · skip
        have c_452 : (sT (yS y sl)) ≤ 0 := Nat.not_lt.mp (fun z => c_452 ((nI_ltI (a := 0) (b := (sT (yS y sl))) (by omega) (by omega)).mpr z))
        refine lv_iload hx hb dL_law_455 (lv_at hl 0 rfl) ?_
        refine lv_iconst (v := nI 3) hx hb dL_law_457 (by decide) ?_
        refine lv_icmp_lt (tgt := 767) hx hb dL_law_458 (by decide) (fun c_458 => ?_) (fun c_458 => ?_)
        · skip
          have c_458 : (sW (yS y sl)) < 3 := (nI_ltI (a := (sW (yS y sl))) (b := 3) (by omega) (by omega)).mp c_458
          exact kk _ y _ _ ls (TR.rf hPI) hI hy_449 (lv_sub hl [8,9,6,7,10,11,12] rfl)
        · skip
          have c_458 : 3 ≤ (sW (yS y sl)) := Nat.not_lt.mp (fun z => c_458 ((nI_ltI (a := (sW (yS y sl))) (b := 3) (by omega) (by omega)).mpr z))
          refine lv_iload hx hb dL_law_461 (lv_at hl 3 rfl) ?_
          refine lv_bipush (v := nI 36) hx hb dL_law_463 (by decide) ?_
          refine lv_icmp_le (tgt := 471) hx hb dL_law_465 (by decide) (fun c_465 => ?_) (fun c_465 => ?_)
          · skip
            have c_465 : (ySc y) ≤ 36 := (nI_leI (a := (ySc y)) (b := 36) (by omega) (by omega)).mp c_465
            refine lv_aload_n hx hb dL_law_471 rfl (lv_at hl 11 rfl) ?_
            refine lv_iload hx hb dL_law_472 (lv_at hl 4 rfl) ?_
            refine lv_iload hx hb dL_law_474 (lv_at hl 1 rfl) ?_
            refine lv_iconst (v := nI 1) hx hb dL_law_476 (by decide) ?_
            refine lv_iload hx hb dL_law_477 (lv_at hl 2 rfl) ?_
            refine lv_iconst (v := nI 5) hx hb dL_law_479 (by decide) ?_
            refine g_shr hx hb dL_law_480 (fun v_480 => ?_)
            refine lv_iload hx hb dL_law_481 (lv_at hl 0 rfl) ?_
            refine lv_iconst (v := nI 2) hx hb dL_law_483 (by decide) ?_
            refine t_isub hx hb dL_law_484 (v := nI ((sW (yS y sl)) - 2)) (pk_sub (by omega)) ?_
            refine g_callS0 (As := [.int v_480, .int (nI ((sW (yS y sl)) - 2))]) (rest := [.int (nI 1), .int (nI 1), .int (nI sl), .ref hy]) (n := 2) S hE hI hA (c_L_below l K _ v_480 ((sW (yS y sl)) - 2) ⟨by omega, by omega⟩) gL_law_L_below rfl (by decide +kernel) ⟨Nat.le_of_ble_eq_true rfl, Nat.le_of_ble_eq_true rfl⟩ rfl hl.1 rfl (Nat.le_of_ble_eq_true rfl) dL_law_485 hcs (fun rv Gc_485 H locs hp hI => ?_)
            obtain ⟨⟨r_485, hr_485, rfl⟩, hq9⟩ := hp
            rw [hq9] at hI
            refine W.eq (g2 := F0 m 488 ls [.int (nI r_485), .int (nI 1), .int (nI 1), .int (nI sl), .ref hy]) rfl ?_
            refine t_iadd hx hb dL_law_488 (nI_add _ _) ?_
            have hcan : canC (yLen (yS y sl) true) (yF y) (1 + r_485) = true := by show decide (1 ≤ 1 + r_485 ∧ 1 + r_485 + yF y < (sW (yS y sl))) = true; exact decide_eq_true (by omega)
            refine g_callV0 (As := [.int (nI sl), .int (nI 1), .int (nI (1 + r_485))]) (rest := []) (b := hy) (n := 3) S hE hI hA (e_cutD l K _ L1 L2 M hy y sl (1 + r_485) hlS hy_449 hz (by omega) hcan ⟨by omega, by omega⟩) gL_law_X4_cut rfl (by decide +kernel) ⟨Nat.le_of_ble_eq_true rfl, Nat.le_of_ble_eq_true rfl⟩ (g_hro hE hI hy_449.1 rfl) rfl hl.1 rfl (Nat.le_of_ble_eq_true rfl) dL_law_489 hcs (fun rv Gc_489 H locs hp hI => ?_)
            obtain ⟨rfl, hy_489, -⟩ := hp
            have hz1 : yS (yCut y sl true (1 + r_485)) sl = sState (yS y sl) 1 := cut_self hcan
            have hn1 : yS (yCut y sl true (1 + r_485)) (ySc y) = (cutN (yS y sl) sl true (1 + r_485)) := cut_n1 hz hcan
            have hn2 : yS (yCut y sl true (1 + r_485)) (ySc y + 1) = (cutF (yS y sl) sl true (1 + r_485 + yF y)) := cut_n2 hz hcan
            have hsc1 : ySc (yCut y sl true (1 + r_485)) = ySc y + 2 := by rw [yCut_yes hcan] <;> rfl
            have hfl := cut_flaws (u := (yS y sl)) (i := sl) (x := 1 + r_485) (kf := yF y) (dn := true)
            refine W.eq (g2 := F0 m 492 ls [.int (nI (ySc y))]) rfl ?_
            refine lv_istore (lv' := [(15, .int (nI (ySc y))), (14, .int (nI (sW (yS y sl)))), (13, .int (nI 1)), (5, .int xv), (6, .int (nI (ySc y))), (7, .int (nI sl)), (8, .int (nI k)), (9, .int (nI (wst y))), (10, .int (nI (yPaid y))), (4, .int (nI i)), (3, .int (nI (yArea0 y))), (2, .int (nI kn)), (1, .ref hy), (0, .ref b)]) hx hb dL_law_492 hl (by decide) rfl (fun ls hl => ?_)
            refine lv_iload hx hb dL_law_494 (lv_at hl 0 rfl) ?_
            refine lv_iload hx hb dL_law_496 (lv_at hl 4 rfl) ?_
            refine lv_icmp_ne (tgt := 581) hx hb dL_law_498 (by decide) (fun c_498 => ?_) (fun c_498 => ?_)
            · skip
              have c_498 : (ySc y) ≠ (ySc y) := fun z => c_498 ((nI_eq (a := (ySc y)) (b := (ySc y)) (by omega) (by omega)).mpr z)
              exact absurd rfl c_498
            · skip
              have c_498 : (ySc y) = (ySc y) := (nI_eq (a := (ySc y)) (b := (ySc y)) (by omega) (by omega)).mp c_498
              refine lv_aload_n hx hb dL_law_501 rfl (lv_at hl 12 rfl) ?_
              refine lv_iload hx hb dL_law_502 (lv_at hl 5 rfl) ?_
              refine lv_iconst (v := nI 5) hx hb dL_law_504 (by decide) ?_
              refine g_callV0 (As := [.int (nI sl), .int (nI 5)]) (rest := []) (b := hy) (n := 2) S hE hI hA (d_ofSlab l K _ L1 L2 M hy (yCut y sl true (1 + r_485)) sl 5 hlS hy_489 (by omega) (by decide)) gL_law_X4_ofSlab rfl (by decide +kernel) ⟨Nat.le_of_ble_eq_true rfl, Nat.le_of_ble_eq_true rfl⟩ (g_hro hE hI hy_489.1 rfl) rfl hl.1 rfl (Nat.le_of_ble_eq_true rfl) dL_law_505 hcs (fun rv Gc_505 H locs hp hI => ?_)
              obtain ⟨rfl, hy_505, -⟩ := hp
              refine W.eq (g2 := F0 m 508 ls [.int (nI 1)]) (congrArg (fun z9 : Int32 => F0 m 508 ls (.int z9 :: [])) (congrArg (fun q9 => sOf q9 5) hz1)) ?_
              refine lv_iconst (v := nI 1) hx hb dL_law_508 (by decide) ?_
              refine lv_icmp_ne (tgt := 581) hx hb dL_law_509 (by decide) (fun c_509 => ?_) (fun c_509 => ?_)
              · skip
                have c_509 : 1 ≠ 1 := fun z => c_509 ((nI_eq (a := 1) (b := 1) (by omega) (by omega)).mpr z)
                exact absurd rfl c_509
              · skip
                have c_509 : 1 = 1 := (nI_eq (a := 1) (b := 1) (by omega) (by omega)).mp c_509
                refine lv_aload_n hx hb dL_law_512 rfl (lv_at hl 12 rfl) ?_
                refine lv_iload hx hb dL_law_513 (lv_at hl 0 rfl) ?_
                refine lv_iconst (v := nI 3) hx hb dL_law_515 (by decide) ?_
                refine g_callV0 (As := [.int (nI (ySc y)), .int (nI 3)]) (rest := []) (b := hy) (n := 2) S hE hI hA (d_ofSlab l K _ L1 L2 M hy (yCut y sl true (1 + r_485)) (ySc y) 3 hlS hy_505 (by omega) (by decide)) gL_law_X4_ofSlab rfl (by decide +kernel) ⟨Nat.le_of_ble_eq_true rfl, Nat.le_of_ble_eq_true rfl⟩ (g_hro hE hI hy_505.1 rfl) rfl hl.1 rfl (Nat.le_of_ble_eq_true rfl) dL_law_516 hcs (fun rv Gc_516 H locs hp hI => ?_)
                obtain ⟨rfl, hy_516, -⟩ := hp
                refine W.eq (g2 := F0 m 519 ls [.int (nI ((sL (cutN (yS y sl) sl true (1 + r_485))).length))]) (congrArg (fun z9 : Int32 => F0 m 519 ls (.int z9 :: [])) (congrArg (fun q9 => sOf q9 3) hn1)) ?_
                refine lv_aload_n hx hb dL_law_519 rfl (lv_at hl 12 rfl) ?_
                refine lv_iload hx hb dL_law_520 (lv_at hl 0 rfl) ?_
                refine lv_iconst (v := nI 1) hx hb dL_law_522 (by decide) ?_
                refine t_iadd hx hb dL_law_523 (nI_add _ _) ?_
                refine lv_iconst (v := nI 3) hx hb dL_law_524 (by decide) ?_
                refine g_callV0 (As := [.int (nI ((ySc y) + 1)), .int (nI 3)]) (rest := [.int (nI ((sL (cutN (yS y sl) sl true (1 + r_485))).length))]) (b := hy) (n := 2) S hE hI hA (d_ofSlab l K _ L1 L2 M hy (yCut y sl true (1 + r_485)) ((ySc y) + 1) 3 hlS hy_516 (by omega) (by decide)) gL_law_X4_ofSlab rfl (by decide +kernel) ⟨Nat.le_of_ble_eq_true rfl, Nat.le_of_ble_eq_true rfl⟩ (g_hro hE hI hy_516.1 rfl) rfl hl.1 rfl (Nat.le_of_ble_eq_true rfl) dL_law_525 hcs (fun rv Gc_525 H locs hp hI => ?_)
                obtain ⟨rfl, hy_525, -⟩ := hp
                refine W.eq (g2 := F0 m 528 ls [.int (nI ((sL (cutF (yS y sl) sl true (1 + r_485 + yF y))).length)), .int (nI ((sL (cutN (yS y sl) sl true (1 + r_485))).length))]) (congrArg (fun z9 : Int32 => F0 m 528 ls (.int z9 :: [.int (nI ((sL (cutN (yS y sl) sl true (1 + r_485))).length))])) (congrArg (fun q9 => sOf q9 3) hn2)) ?_
                refine t_iadd hx hb dL_law_528 (nI_add _ _) ?_
                refine lv_aload_n hx hb dL_law_529 rfl (lv_at hl 12 rfl) ?_
                refine lv_iload hx hb dL_law_530 (lv_at hl 5 rfl) ?_
                refine lv_iconst (v := nI 3) hx hb dL_law_532 (by decide) ?_
                refine g_callV0 (As := [.int (nI sl), .int (nI 3)]) (rest := [.int (nI (((sL (cutN (yS y sl) sl true (1 + r_485))).length) + ((sL (cutF (yS y sl) sl true (1 + r_485 + yF y))).length)))]) (b := hy) (n := 2) S hE hI hA (d_ofSlab l K _ L1 L2 M hy (yCut y sl true (1 + r_485)) sl 3 hlS hy_525 (by omega) (by decide)) gL_law_X4_ofSlab rfl (by decide +kernel) ⟨Nat.le_of_ble_eq_true rfl, Nat.le_of_ble_eq_true rfl⟩ (g_hro hE hI hy_525.1 rfl) rfl hl.1 rfl (Nat.le_of_ble_eq_true rfl) dL_law_533 hcs (fun rv Gc_533 H locs hp hI => ?_)
                obtain ⟨rfl, hy_533, -⟩ := hp
                refine W.eq (g2 := F0 m 536 ls [.int (nI ((sL (yS y sl)).length)), .int (nI (((sL (cutN (yS y sl) sl true (1 + r_485))).length) + ((sL (cutF (yS y sl) sl true (1 + r_485 + yF y))).length)))]) (congrArg (fun z9 : Int32 => F0 m 536 ls (.int z9 :: [.int (nI (((sL (cutN (yS y sl) sl true (1 + r_485))).length) + ((sL (cutF (yS y sl) sl true (1 + r_485 + yF y))).length)))])) ((congrArg (fun q9 => sOf q9 3) hz1).trans rfl)) ?_
                refine lv_icmp_gt (tgt := 581) hx hb dL_law_536 (by decide) (fun c_536 => ?_) (fun c_536 => ?_)
                · skip
                  have c_536 : ((sL (yS y sl)).length) < (((sL (cutN (yS y sl) sl true (1 + r_485))).length) + ((sL (cutF (yS y sl) sl true (1 + r_485 + yF y))).length)) := (nI_ltI (a := ((sL (yS y sl)).length)) (b := (((sL (cutN (yS y sl) sl true (1 + r_485))).length) + ((sL (cutF (yS y sl) sl true (1 + r_485 + yF y))).length))) (by omega) (by omega)).mp c_536
                  exact absurd c_536 (by omega)
                · skip
                  have c_536 : (((sL (cutN (yS y sl) sl true (1 + r_485))).length) + ((sL (cutF (yS y sl) sl true (1 + r_485 + yF y))).length)) ≤ ((sL (yS y sl)).length) := Nat.not_lt.mp (fun z => c_536 ((nI_ltI (a := ((sL (yS y sl)).length)) (b := (((sL (cutN (yS y sl) sl true (1 + r_485))).length) + ((sL (cutF (yS y sl) sl true (1 + r_485 + yF y))).length))) (by omega) (by omega)).mpr z))
                  refine lv_aload_n hx hb dL_law_539 rfl (lv_at hl 12 rfl) ?_
                  refine lv_iload hx hb dL_law_540 (lv_at hl 0 rfl) ?_
                  refine lv_iload hx hb dL_law_542 (lv_at hl 2 rfl) ?_
                  refine lv_if_eq (tgt := 551) hx hb dL_law_544 (by decide) (fun c_544 => ?_) (fun c_544 => ?_)
                  · skip
                    have c_544 : 1 = 0 := (nI_eq (a := 1) (b := 0) (by omega) (by omega)).mp c_544
                    exact absurd c_544 (by decide)
                  · skip
                    have c_544 : 1 ≠ 0 := fun z => c_544 ((nI_eq (a := 1) (b := 0) (by omega) (by omega)).mpr z)
                    refine lv_iconst (v := nI 0) hx hb dL_law_547 (by decide) ?_
                    refine lv_goto (tgt := 552) hx hb dL_law_548 (by decide) ?_
                    refine g_callV0 (As := [.int (nI (ySc y)), .int (nI 0)]) (rest := []) (b := hy) (n := 2) S hE hI hA (d_ofSlab l K _ L1 L2 M hy (yCut y sl true (1 + r_485)) (ySc y) 0 hlS hy_533 (by omega) (by decide)) gL_law_X4_ofSlab rfl (by decide +kernel) ⟨Nat.le_of_ble_eq_true rfl, Nat.le_of_ble_eq_true rfl⟩ (g_hro hE hI hy_533.1 rfl) rfl hl.1 rfl (Nat.le_of_ble_eq_true rfl) dL_law_552 hcs (fun rv Gc_552 H locs hp hI => ?_)
                    obtain ⟨rfl, hy_552, -⟩ := hp
                    refine W.eq (g2 := F0 m 555 ls [.int (nI (1 + r_485))]) (congrArg (fun z9 : Int32 => F0 m 555 ls (.int z9 :: [])) (congrArg (fun q9 => sOf q9 0) hn1)) ?_
                    refine lv_aload_n hx hb dL_law_555 rfl (lv_at hl 12 rfl) ?_
                    refine lv_iload hx hb dL_law_556 (lv_at hl 0 rfl) ?_
                    refine lv_iconst (v := nI 1) hx hb dL_law_558 (by decide) ?_
                    refine t_iadd hx hb dL_law_559 (nI_add _ _) ?_
                    refine lv_iload hx hb dL_law_560 (lv_at hl 2 rfl) ?_
                    refine lv_if_eq (tgt := 569) hx hb dL_law_562 (by decide) (fun c_562 => ?_) (fun c_562 => ?_)
                    · skip
                      have c_562 : 1 = 0 := (nI_eq (a := 1) (b := 0) (by omega) (by omega)).mp c_562
                      exact absurd c_562 (by decide)
                    · skip
                      have c_562 : 1 ≠ 0 := fun z => c_562 ((nI_eq (a := 1) (b := 0) (by omega) (by omega)).mpr z)
                      refine lv_iconst (v := nI 0) hx hb dL_law_565 (by decide) ?_
                      refine lv_goto (tgt := 570) hx hb dL_law_566 (by decide) ?_
                      refine g_callV0 (As := [.int (nI ((ySc y) + 1)), .int (nI 0)]) (rest := [.int (nI (1 + r_485))]) (b := hy) (n := 2) S hE hI hA (d_ofSlab l K _ L1 L2 M hy (yCut y sl true (1 + r_485)) ((ySc y) + 1) 0 hlS hy_552 (by omega) (by decide)) gL_law_X4_ofSlab rfl (by decide +kernel) ⟨Nat.le_of_ble_eq_true rfl, Nat.le_of_ble_eq_true rfl⟩ (g_hro hE hI hy_552.1 rfl) rfl hl.1 rfl (Nat.le_of_ble_eq_true rfl) dL_law_570 hcs (fun rv Gc_570 H locs hp hI => ?_)
                      obtain ⟨rfl, hy_570, -⟩ := hp
                      refine W.eq (g2 := F0 m 573 ls [.int (nI ((sW (yS y sl)) - (1 + r_485 + yF y))), .int (nI (1 + r_485))]) (congrArg (fun z9 : Int32 => F0 m 573 ls (.int z9 :: [.int (nI (1 + r_485))])) (congrArg (fun q9 => sOf q9 0) hn2)) ?_
                      refine t_iadd hx hb dL_law_573 (nI_add _ _) ?_
                      refine lv_iconst (v := nI 1) hx hb dL_law_574 (by decide) ?_
                      refine t_iadd hx hb dL_law_575 (nI_add _ _) ?_
                      refine lv_iload hx hb dL_law_576 (lv_at hl 1 rfl) ?_
                      refine lv_icmp_eq (tgt := 767) hx hb dL_law_578 (by decide) (fun c_578 => ?_) (fun c_578 => ?_)
                      · skip
                        have c_578 : (((1 + r_485) + ((sW (yS y sl)) - (1 + r_485 + yF y))) + 1) = (sW (yS y sl)) := (nI_eq (a := (((1 + r_485) + ((sW (yS y sl)) - (1 + r_485 + yF y))) + 1)) (b := (sW (yS y sl))) (by omega) (by omega)).mp c_578
                        have hst := stp_cut hPI (dn := true) (x := 1 + r_485) hz (by omega) (by omega)
                        exact kk _ (yCut y sl true (1 + r_485)) _ _ ls (hst.TR (by decide)) hI hy_570 (by rw [hst.2.2.2.1]; exact lv_sub hl [9,10,7,8,11,12,13] rfl)
                      · skip
                        have c_578 : (((1 + r_485) + ((sW (yS y sl)) - (1 + r_485 + yF y))) + 1) ≠ (sW (yS y sl)) := fun z => c_578 ((nI_eq (a := (((1 + r_485) + ((sW (yS y sl)) - (1 + r_485 + yF y))) + 1)) (b := (sW (yS y sl))) (by omega) (by omega)).mpr z)
                        exact (c_578 (by omega)).elim
          · skip
            have c_465 : 36 < (ySc y) := Nat.not_le.mp (fun z => c_465 ((nI_leI (a := (ySc y)) (b := 36) (by omega) (by omega)).mpr z))
            refine lv_goto (tgt := 767) hx hb dL_law_468 (by decide) ?_
            exact kk _ y _ _ ls (TR.rf hPI) hI hy_449 (lv_sub hl [8,9,6,7,10,11,12] rfl)
set_option maxHeartbeats 4000000 in
set_option maxRecDepth 100000 in
/-- a plan -/
theorem w_plan (S : CallFix p m c cL_law 20 s #[Value.ref b] wsL_law RL) (hE : gE K A s s.heap) (hA : ∀ q, s.heap.size ≤ q → A q) (hX : va_X b Ln xs s s.heap) (hbl : b < s.heap.size) (hbA : ¬ A b) (hlS : l.stackTraces = false) (hLn : Ln ≤ 260) (hcs : cells ≤ 600104 ∧ slots ≤ 7301314) (hPI : PI y) (hkc : yKc y = kn) (hkn : 1 ≤ kn ∧ kn ≤ 4) (hi : i < 30) (hI : gI K A s G H locs) (hy0 : YardC K L1 L2 M hy G y) (hl : lv_has ls 20 [(5, .int xv), (6, .int (nI (ySc y))), (7, .int (nI sl)), (8, .int (nI k)), (9, .int (nI (wst y))), (10, .int (nI (yPaid y))), (4, .int (nI i)), (3, .int (nI (yArea0 y))), (2, .int (nI kn)), (1, .ref hy), (0, .ref b)])
    (kk : ∀ (G1 : gW) (y1 : YV) (H1 : Heap) (locs1 : List Loc) (ls1 : Array Slot), TR y y1 → gI K A s G1 H1 locs1 → YardC K L1 L2 M hy G1 y1 → lv_has ls1 20 [(4, .int (nI i)), (3, .int (nI (yArea0 y1))), (9, .int (nI (wst y))), (10, .int (nI (yPaid y))), (2, .int (nI kn)), (1, .ref hy), (0, .ref b)] → W p l e room_1 s m #[Value.ref b] below meth c H1 locs1 cells slots Q (F0 m 767 ls1 [])) : W p l e room_1 s m #[Value.ref b] below meth c H locs cells slots Q (F0 m 583 ls []) := by
  have hx := S.1
  have hb := S.2.1
  have hml := S.2.2.1
  have h40 : ySc y ≤ 40 := hy0.2.2.2.2
  have h6 : yKc y ≤ 6 := hy0.2.1.1.2.2.2.2.1
  have hpl := stp_plan (n := 2) hPI h40
  have hpl2 : (yPlan 2 y).1 ≤ 2 := hpl.2
  refine lv_aload_n hx hb dL_law_583 rfl (lv_at hl 9 rfl) ?_
  refine lv_iconst (v := nI 2) hx hb dL_law_584 (by decide) ?_
  refine g_callV0 (As := [.int (nI 2)]) (rest := []) (b := hy) (n := 1) S hE hI hA (d_pays l K _ L1 L2 M hy y 2 hlS hy0 ⟨by decide, by decide⟩) gL_law_X4_planPays rfl (by decide +kernel) ⟨Nat.le_of_ble_eq_true rfl, Nat.le_of_ble_eq_true rfl⟩ (g_hro hE hI hy0.1 rfl) rfl hl.1 rfl (Nat.le_of_ble_eq_true rfl) dL_law_585 hcs (fun rv Gc_585 H locs hp hI => ?_)
  obtain ⟨rfl, hy_585, -⟩ := hp
  refine W.eq (g2 := F0 m 588 ls [.int (yPays y 2)]) rfl ?_
  refine lv_istore (lv' := [(16, .int (yPays y 2)), (5, .int xv), (6, .int (nI (ySc y))), (7, .int (nI sl)), (8, .int (nI k)), (9, .int (nI (wst y))), (10, .int (nI (yPaid y))), (4, .int (nI i)), (3, .int (nI (yArea0 y))), (2, .int (nI kn)), (1, .ref hy), (0, .ref b)]) hx hb dL_law_588 hl (by decide) rfl (fun ls hl => ?_)
  refine lv_aload_n hx hb dL_law_590 rfl (lv_at hl 10 rfl) ?_
  refine lv_iconst (v := nI 2) hx hb dL_law_591 (by decide) ?_
  refine g_callV0 (As := [.int (nI 2)]) (rest := []) (b := hy) (n := 1) S hE hI hA (e_plan l K _ L1 L2 M hy y 2 hlS hy_585 ⟨by decide, by decide⟩) gL_law_X4_plan rfl (by decide +kernel) ⟨Nat.le_of_ble_eq_true rfl, Nat.le_of_ble_eq_true rfl⟩ (g_hro hE hI hy_585.1 rfl) rfl hl.1 rfl (Nat.le_of_ble_eq_true rfl) dL_law_592 hcs (fun rv Gc_592 H locs hp hI => ?_)
  obtain ⟨rfl, hy_592, -⟩ := hp
  refine W.eq (g2 := F0 m 595 ls [.int (nI ((yPlan 2 y).1))]) rfl ?_
  refine lv_iconst (v := nI 2) hx hb dL_law_595 (by decide) ?_
  refine lv_icmp_gt (tgt := 612) hx hb dL_law_596 (by decide) (fun c_596 => ?_) (fun c_596 => ?_)
  · skip
    have c_596 : 2 < ((yPlan 2 y).1) := (nI_ltI (a := 2) (b := ((yPlan 2 y).1)) (by omega) (by omega)).mp c_596
    exact absurd c_596 (by omega)
  · skip
    have c_596 : ((yPlan 2 y).1) ≤ 2 := Nat.not_lt.mp (fun z => c_596 ((nI_ltI (a := 2) (b := ((yPlan 2 y).1)) (by omega) (by omega)).mpr z))
    refine lv_aload_n hx hb dL_law_599 rfl (lv_at hl 10 rfl) ?_
    refine lv_iconst (v := nI 4) hx hb dL_law_600 (by decide) ?_
    refine g_callV0 (As := [.int (nI 4)]) (rest := []) (b := hy) (n := 1) S hE hI hA (e_many4 l K _ L1 L2 M hy ((yPlan 2 y).2)  hlS hy_592 ) gL_law_X4_many rfl (by decide +kernel) ⟨Nat.le_of_ble_eq_true rfl, Nat.le_of_ble_eq_true rfl⟩ (g_hro hE hI hy_592.1 rfl) rfl hl.1 rfl (Nat.le_of_ble_eq_true rfl) dL_law_601 hcs (fun rv Gc_601 H locs hp hI => ?_)
    obtain ⟨rfl, hy_601, -⟩ := hp
    refine W.eq (g2 := F0 m 604 ls [.int (nI (yPaid (yPlan 2 y).2))]) rfl ?_
    refine lv_iload hx hb dL_law_604 (lv_at hl 6 rfl) ?_
    refine lv_iload hx hb dL_law_606 (lv_at hl 0 rfl) ?_
    refine lv_iadd hx hb dL_law_608 ?_
    refine lv_icmp_eq (tgt := 767) hx hb dL_law_609 (by decide) (fun c_609 => ?_) (fun c_609 => ?_)
    · skip
      exact kk _ (yPlan 2 y).2 _ _ ls (hpl.1.TR (by decide)) hI hy_601 (by rw [hpl.1.2.2.2.1]; exact lv_sub hl [7,8,5,6,9,10,11] rfl)
    · skip
      exact (c_609 (show nI (yPaid (yPlan 2 y).2) = nI (yPaid y) + yPays y 2 from (lw_pays _ _).symm)).elim
set_option maxHeartbeats 4000000 in
set_option maxRecDepth 100000 in
/-- a stone that does not fit -/
theorem w_takeN (S : CallFix p m c cL_law 20 s #[Value.ref b] wsL_law RL) (hE : gE K A s s.heap) (hA : ∀ q, s.heap.size ≤ q → A q) (hX : va_X b Ln xs s s.heap) (hbl : b < s.heap.size) (hbA : ¬ A b) (hlS : l.stackTraces = false) (hLn : Ln ≤ 260) (hcs : cells ≤ 600104 ∧ slots ≤ 7301314) (hPI : PI y) (hkc : yKc y = kn) (hkn : 1 ≤ kn ∧ kn ≤ 4) (hi : i < 30) (hz : sl < ySc y) (hk : k < kn) (hfit : sFits (yS y sl) (yK y k) = none) (hI : gI K A s G H locs) (hy0 : YardC K L1 L2 M hy G y) (hl : lv_has ls 20 [(5, .int xv), (6, .int (nI (ySc y))), (7, .int (nI sl)), (8, .int (nI k)), (9, .int (nI (wst y))), (10, .int (nI (yPaid y))), (4, .int (nI i)), (3, .int (nI (yArea0 y))), (2, .int (nI kn)), (1, .ref hy), (0, .ref b)])
    (kk : ∀ (G1 : gW) (y1 : YV) (H1 : Heap) (locs1 : List Loc) (ls1 : Array Slot), TR y y1 → gI K A s G1 H1 locs1 → YardC K L1 L2 M hy G1 y1 → lv_has ls1 20 [(4, .int (nI i)), (3, .int (nI (yArea0 y1))), (9, .int (nI (wst y))), (10, .int (nI (yPaid y))), (2, .int (nI kn)), (1, .ref hy), (0, .ref b)] → W p l e room_1 s m #[Value.ref b] below meth c H1 locs1 cells slots Q (F0 m 767 ls1 [])) : W p l e room_1 s m #[Value.ref b] below meth c H locs cells slots Q (F0 m 614 ls []) := by
  have hx := S.1
  have hb := S.2.1
  have hml := S.2.2.1
  have h40 : ySc y ≤ 40 := hy0.2.2.2.2
  have h6 : yKc y ≤ 6 := hy0.2.1.1.2.2.2.2.1
  have hk9 : k < yKc y := by omega
  refine lv_aload_n hx hb dL_law_614 rfl (lv_at hl 9 rfl) ?_
  refine lv_iload hx hb dL_law_615 (lv_at hl 2 rfl) ?_
  refine lv_iload hx hb dL_law_617 (lv_at hl 3 rfl) ?_
  refine g_callV0 (As := [.int (nI sl), .int (nI k)]) (rest := []) (b := hy) (n := 2) S hE hI hA (e_wasteN l K _ L1 L2 M hy y sl k hlS hy0 hz hk9 hfit) gL_law_X4_wasteBy rfl (by decide +kernel) ⟨Nat.le_of_ble_eq_true rfl, Nat.le_of_ble_eq_true rfl⟩ (g_hro hE hI hy0.1 rfl) rfl hl.1 rfl (Nat.le_of_ble_eq_true rfl) dL_law_619 hcs (fun rv Gc_619 H locs hp hI => ?_)
  obtain ⟨rfl, hy_619, -⟩ := hp
  refine W.eq (g2 := F0 m 622 ls [.int (-1)]) rfl ?_
  refine lv_istore (lv' := [(17, .int (-1)), (5, .int xv), (6, .int (nI (ySc y))), (7, .int (nI sl)), (8, .int (nI k)), (9, .int (nI (wst y))), (10, .int (nI (yPaid y))), (4, .int (nI i)), (3, .int (nI (yArea0 y))), (2, .int (nI kn)), (1, .ref hy), (0, .ref b)]) hx hb dL_law_622 hl (by decide) rfl (fun ls hl => ?_)
  refine lv_iload hx hb dL_law_624 (lv_at hl 0 rfl) ?_
  refine lv_if_ge (tgt := 633) hx hb dL_law_626 (by decide) (fun c_626 => ?_) (fun c_626 => ?_)
  · skip
    exact absurd c_626 (by decide)
  · skip
    refine lv_iconst (v := nI 1) hx hb dL_law_629 (by decide) ?_
    refine lv_goto (tgt := 634) hx hb dL_law_630 (by decide) ?_
    refine lv_aload_n hx hb dL_law_634 rfl (lv_at hl 10 rfl) ?_
    refine lv_iload hx hb dL_law_635 (lv_at hl 3 rfl) ?_
    refine lv_iload hx hb dL_law_637 (lv_at hl 4 rfl) ?_
    refine g_callV0 (As := [.int (nI sl), .int (nI k)]) (rest := [.int (nI 1)]) (b := hy) (n := 2) S hE hI hA (e_fitsN l K _ L1 L2 M hy y sl k hlS hy_619 hz hk9 hfit) gL_law_X4_fits rfl (by decide +kernel) ⟨Nat.le_of_ble_eq_true rfl, Nat.le_of_ble_eq_true rfl⟩ (g_hro hE hI hy_619.1 rfl) rfl hl.1 rfl (Nat.le_of_ble_eq_true rfl) dL_law_639 hcs (fun rv Gc_639 H locs hp hI => ?_)
    obtain ⟨rfl, hy_639, -⟩ := hp
    refine W.eq (g2 := F0 m 642 ls [.int (-1), .int (nI 1)]) rfl ?_
    refine lv_if_ge (tgt := 649) hx hb dL_law_642 (by decide) (fun c_642 => ?_) (fun c_642 => ?_)
    · skip
      exact absurd c_642 (by decide)
    · skip
      refine lv_iconst (v := nI 1) hx hb dL_law_645 (by decide) ?_
      refine lv_goto (tgt := 650) hx hb dL_law_646 (by decide) ?_
      refine lv_icmp_ne (tgt := 674) hx hb dL_law_650 (by decide) (fun c_650 => ?_) (fun c_650 => ?_)
      · skip
        have c_650 : 1 ≠ 1 := fun z => c_650 ((nI_eq (a := 1) (b := 1) (by omega) (by omega)).mpr z)
        exact absurd rfl c_650
      · skip
        have c_650 : 1 = 1 := (nI_eq (a := 1) (b := 1) (by omega) (by omega)).mp c_650
        refine lv_aload_n hx hb dL_law_653 rfl (lv_at hl 10 rfl) ?_
        refine lv_iload hx hb dL_law_654 (lv_at hl 3 rfl) ?_
        refine lv_iload hx hb dL_law_656 (lv_at hl 4 rfl) ?_
        refine g_callV0 (As := [.int (nI sl), .int (nI k)]) (rest := []) (b := hy) (n := 2) S hE hI hA (e_fitsN l K _ L1 L2 M hy y sl k hlS hy_639 hz hk9 hfit) gL_law_X4_fits rfl (by decide +kernel) ⟨Nat.le_of_ble_eq_true rfl, Nat.le_of_ble_eq_true rfl⟩ (g_hro hE hI hy_639.1 rfl) rfl hl.1 rfl (Nat.le_of_ble_eq_true rfl) dL_law_658 hcs (fun rv Gc_658 H locs hp hI => ?_)
        obtain ⟨rfl, hy_658, -⟩ := hp
        refine W.eq (g2 := F0 m 661 ls [.int (-1)]) rfl ?_
        refine lv_if_lt (tgt := 676) hx hb dL_law_661 (by decide) (fun c_661 => ?_) (fun c_661 => ?_)
        · skip
          refine lv_iload hx hb dL_law_676 (lv_at hl 0 rfl) ?_
          refine lv_if_lt (tgt := 767) hx hb dL_law_678 (by decide) (fun c_678 => ?_) (fun c_678 => ?_)
          · skip
            exact kk _ y _ _ ls (TR.rf hPI) hI hy_658 (lv_sub hl [7,8,5,6,9,10,11] rfl)
          · skip
            exact absurd (by decide) c_678
        · skip
          exact absurd (by decide) c_661
set_option maxHeartbeats 4000000 in
set_option maxRecDepth 100000 in
/-- a stone that fits -/
theorem w_takeS (S : CallFix p m c cL_law 20 s #[Value.ref b] wsL_law RL) (hE : gE K A s s.heap) (hA : ∀ q, s.heap.size ≤ q → A q) (hX : va_X b Ln xs s s.heap) (hbl : b < s.heap.size) (hbA : ¬ A b) (hlS : l.stackTraces = false) (hLn : Ln ≤ 260) (hcs : cells ≤ 600104 ∧ slots ≤ 7301314) (hPI : PI y) (hkc : yKc y = kn) (hkn : 1 ≤ kn ∧ kn ≤ 4) (hi : i < 30) (hz : sl < ySc y) (hk : k < kn) {mn : Nat} (hfit : sFits (yS y sl) (yK y k) = some mn) (hI : gI K A s G H locs) (hy0 : YardC K L1 L2 M hy G y) (hl : lv_has ls 20 [(5, .int xv), (6, .int (nI (ySc y))), (7, .int (nI sl)), (8, .int (nI k)), (9, .int (nI (wst y))), (10, .int (nI (yPaid y))), (4, .int (nI i)), (3, .int (nI (yArea0 y))), (2, .int (nI kn)), (1, .ref hy), (0, .ref b)])
    (kk : ∀ (G1 : gW) (y1 : YV) (H1 : Heap) (locs1 : List Loc) (ls1 : Array Slot), TR y y1 → gI K A s G1 H1 locs1 → YardC K L1 L2 M hy G1 y1 → lv_has ls1 20 [(4, .int (nI i)), (3, .int (nI (yArea0 y1))), (9, .int (nI (wst y))), (10, .int (nI (yPaid y))), (2, .int (nI kn)), (1, .ref hy), (0, .ref b)] → W p l e room_1 s m #[Value.ref b] below meth c H1 locs1 cells slots Q (F0 m 767 ls1 [])) : W p l e room_1 s m #[Value.ref b] below meth c H locs cells slots Q (F0 m 614 ls []) := by
  have hx := S.1
  have hb := S.2.1
  have hml := S.2.2.1
  have h40 : ySc y ≤ 40 := hy0.2.2.2.2
  have h6 : yKc y ≤ 6 := hy0.2.1.1.2.2.2.2.1
  have hk9 : k < yKc y := by omega
  obtain ⟨k1, k2, k3, k4, k5, k6, k7, k8, k9⟩ := hy0.kok k hk9
  have hst := stp_take hPI hz hk9 h40 hfit
  have hmn := sFits_lt hfit
  have hw0 : wst y ≤ wst (yTake y sl k mn) := hst.1.2.2.1
  have har := area_le h40 hy0.sok
  have hws := wst_sum hPI
  have har1 : yArea0 (yTake y sl k mn) = yArea0 y := hst.1.2.2.2.1
  have hws1 := wst_sum hst.1.1
  have hsT : sT (yS y sl) = 0 := (sFits_ok hfit).1
  have hsp : sellP (yK y k) = kP (yK y k) ∨ sellP (yK y k) = kP (yK y k) / 4 := by unfold sellP; split <;> simp
  have hpr := take_price (i := sl) (mn := mn) k7
  have hge := yTake_ge (y := y) (i := sl) (j := k) (mn := mn)
  have hgone := take_gone hz hfit
  refine lv_aload_n hx hb dL_law_614 rfl (lv_at hl 9 rfl) ?_
  refine lv_iload hx hb dL_law_615 (lv_at hl 2 rfl) ?_
  refine lv_iload hx hb dL_law_617 (lv_at hl 3 rfl) ?_
  refine g_callV0 (As := [.int (nI sl), .int (nI k)]) (rest := []) (b := hy) (n := 2) S hE hI hA (e_wasteS l K _ L1 L2 M hy y sl k mn hlS hy0 hz hk9 hfit hst.1.1) gL_law_X4_wasteBy rfl (by decide +kernel) ⟨Nat.le_of_ble_eq_true rfl, Nat.le_of_ble_eq_true rfl⟩ (g_hro hE hI hy0.1 rfl) rfl hl.1 rfl (Nat.le_of_ble_eq_true rfl) dL_law_619 hcs (fun rv Gc_619 H locs hp hI => ?_)
  obtain ⟨rfl, hy_619, -⟩ := hp
  refine W.eq (g2 := F0 m 622 ls [.int (nI (wst (yTake y sl k mn)))]) rfl ?_
  refine lv_istore (lv' := [(17, .int (nI (wst (yTake y sl k mn)))), (5, .int xv), (6, .int (nI (ySc y))), (7, .int (nI sl)), (8, .int (nI k)), (9, .int (nI (wst y))), (10, .int (nI (yPaid y))), (4, .int (nI i)), (3, .int (nI (yArea0 y))), (2, .int (nI kn)), (1, .ref hy), (0, .ref b)]) hx hb dL_law_622 hl (by decide) rfl (fun ls hl => ?_)
  refine lv_iload hx hb dL_law_624 (lv_at hl 0 rfl) ?_
  refine lv_if_ge (tgt := 633) hx hb dL_law_626 (by decide) (fun c_626 => ?_) (fun c_626 => ?_)
  · skip
    have c_626 : 0 ≤ (wst (yTake y sl k mn)) := (nI_leI (a := 0) (b := (wst (yTake y sl k mn))) (by omega) (by omega)).mp c_626
    refine lv_iconst (v := nI 0) hx hb dL_law_633 (by decide) ?_
    refine lv_aload_n hx hb dL_law_634 rfl (lv_at hl 10 rfl) ?_
    refine lv_iload hx hb dL_law_635 (lv_at hl 3 rfl) ?_
    refine lv_iload hx hb dL_law_637 (lv_at hl 4 rfl) ?_
    refine g_callV0 (As := [.int (nI sl), .int (nI k)]) (rest := [.int (nI 0)]) (b := hy) (n := 2) S hE hI hA (e_fitsS l K _ L1 L2 M hy y sl k mn hlS hy_619 hz hk9 hfit) gL_law_X4_fits rfl (by decide +kernel) ⟨Nat.le_of_ble_eq_true rfl, Nat.le_of_ble_eq_true rfl⟩ (g_hro hE hI hy_619.1 rfl) rfl hl.1 rfl (Nat.le_of_ble_eq_true rfl) dL_law_639 hcs (fun rv Gc_639 H locs hp hI => ?_)
    obtain ⟨rfl, hy_639, -⟩ := hp
    refine W.eq (g2 := F0 m 642 ls [.int (nI mn), .int (nI 0)]) rfl ?_
    refine lv_if_ge (tgt := 649) hx hb dL_law_642 (by decide) (fun c_642 => ?_) (fun c_642 => ?_)
    · skip
      have c_642 : 0 ≤ mn := (nI_leI (a := 0) (b := mn) (by omega) (by omega)).mp c_642
      refine lv_iconst (v := nI 0) hx hb dL_law_649 (by decide) ?_
      refine lv_icmp_ne (tgt := 674) hx hb dL_law_650 (by decide) (fun c_650 => ?_) (fun c_650 => ?_)
      · skip
        have c_650 : 0 ≠ 0 := fun z => c_650 ((nI_eq (a := 0) (b := 0) (by omega) (by omega)).mpr z)
        exact absurd rfl c_650
      · skip
        have c_650 : 0 = 0 := (nI_eq (a := 0) (b := 0) (by omega) (by omega)).mp c_650
        refine lv_aload_n hx hb dL_law_653 rfl (lv_at hl 10 rfl) ?_
        refine lv_iload hx hb dL_law_654 (lv_at hl 3 rfl) ?_
        refine lv_iload hx hb dL_law_656 (lv_at hl 4 rfl) ?_
        refine g_callV0 (As := [.int (nI sl), .int (nI k)]) (rest := []) (b := hy) (n := 2) S hE hI hA (e_fitsS l K _ L1 L2 M hy y sl k mn hlS hy_639 hz hk9 hfit) gL_law_X4_fits rfl (by decide +kernel) ⟨Nat.le_of_ble_eq_true rfl, Nat.le_of_ble_eq_true rfl⟩ (g_hro hE hI hy_639.1 rfl) rfl hl.1 rfl (Nat.le_of_ble_eq_true rfl) dL_law_658 hcs (fun rv Gc_658 H locs hp hI => ?_)
        obtain ⟨rfl, hy_658, -⟩ := hp
        refine W.eq (g2 := F0 m 661 ls [.int (nI mn)]) rfl ?_
        refine lv_if_lt (tgt := 676) hx hb dL_law_661 (by decide) (fun c_661 => ?_) (fun c_661 => ?_)
        · skip
          have c_661 : mn < 0 := (nI_ltI (a := mn) (b := 0) (by omega) (by omega)).mp c_661
          exact absurd c_661 (by omega)
        · skip
          have c_661 : 0 ≤ mn := Nat.not_lt.mp (fun z => c_661 ((nI_ltI (a := mn) (b := 0) (by omega) (by omega)).mpr z))
          refine lv_aload_n hx hb dL_law_664 rfl (lv_at hl 10 rfl) ?_
          refine lv_iload hx hb dL_law_665 (lv_at hl 3 rfl) ?_
          refine lv_iconst (v := nI 5) hx hb dL_law_667 (by decide) ?_
          refine g_callV0 (As := [.int (nI sl), .int (nI 5)]) (rest := []) (b := hy) (n := 2) S hE hI hA (d_ofSlab l K _ L1 L2 M hy y sl 5 hlS hy_658 hz (by decide)) gL_law_X4_ofSlab rfl (by decide +kernel) ⟨Nat.le_of_ble_eq_true rfl, Nat.le_of_ble_eq_true rfl⟩ (g_hro hE hI hy_658.1 rfl) rfl hl.1 rfl (Nat.le_of_ble_eq_true rfl) dL_law_668 hcs (fun rv Gc_668 H locs hp hI => ?_)
          obtain ⟨rfl, hy_668, -⟩ := hp
          refine W.eq (g2 := F0 m 671 ls [.int (nI 0)]) (congrArg (fun z9 : Int32 => F0 m 671 ls (.int z9 :: [])) (congrArg nI hsT)) ?_
          refine lv_if_eq (tgt := 676) hx hb dL_law_671 (by decide) (fun c_671 => ?_) (fun c_671 => ?_)
          · skip
            have c_671 : 0 = 0 := (nI_eq (a := 0) (b := 0) (by omega) (by omega)).mp c_671
            refine lv_iload hx hb dL_law_676 (lv_at hl 0 rfl) ?_
            refine lv_if_lt (tgt := 767) hx hb dL_law_678 (by decide) (fun c_678 => ?_) (fun c_678 => ?_)
            · skip
              have c_678 : (wst (yTake y sl k mn)) < 0 := (nI_ltI (a := (wst (yTake y sl k mn))) (b := 0) (by omega) (by omega)).mp c_678
              exact absurd c_678 (by omega)
            · skip
              have c_678 : 0 ≤ (wst (yTake y sl k mn)) := Nat.not_lt.mp (fun z => c_678 ((nI_ltI (a := (wst (yTake y sl k mn))) (b := 0) (by omega) (by omega)).mpr z))
              refine lv_iload hx hb dL_law_681 (lv_at hl 2 rfl) ?_
              refine lv_bipush (v := nI 36) hx hb dL_law_683 (by decide) ?_
              refine lv_icmp_le (tgt := 691) hx hb dL_law_685 (by decide) (fun c_685 => ?_) (fun c_685 => ?_)
              · skip
                have c_685 : (ySc y) ≤ 36 := (nI_leI (a := (ySc y)) (b := 36) (by omega) (by omega)).mp c_685
                refine lv_aload_n hx hb dL_law_691 rfl (lv_at hl 10 rfl) ?_
                refine lv_iload hx hb dL_law_692 (lv_at hl 4 rfl) ?_
                refine lv_iconst (v := nI 4) hx hb dL_law_694 (by decide) ?_
                refine g_callV0 (As := [.int (nI k), .int (nI 4)]) (rest := []) (b := hy) (n := 2) S hE hI hA (d_ofKind l K _ L1 L2 M hy y k 4 hlS hy_668 hk9 (by decide)) gL_law_X4_ofKind rfl (by decide +kernel) ⟨Nat.le_of_ble_eq_true rfl, Nat.le_of_ble_eq_true rfl⟩ (g_hro hE hI hy_668.1 rfl) rfl hl.1 rfl (Nat.le_of_ble_eq_true rfl) dL_law_695 hcs (fun rv Gc_695 H locs hp hI => ?_)
                obtain ⟨rfl, hy_695, -⟩ := hp
                refine W.eq (g2 := F0 m 698 ls [.int (nI (kP (yK y k)))]) rfl ?_
                refine lv_istore (lv' := [(18, .int (nI (kP (yK y k)))), (17, .int (nI (wst (yTake y sl k mn)))), (5, .int xv), (6, .int (nI (ySc y))), (7, .int (nI sl)), (8, .int (nI k)), (9, .int (nI (wst y))), (10, .int (nI (yPaid y))), (4, .int (nI i)), (3, .int (nI (yArea0 y))), (2, .int (nI kn)), (1, .ref hy), (0, .ref b)]) hx hb dL_law_698 hl (by decide) rfl (fun ls hl => ?_)
                refine lv_aload_n hx hb dL_law_700 rfl (lv_at hl 11 rfl) ?_
                refine lv_iload hx hb dL_law_701 (lv_at hl 4 rfl) ?_
                refine lv_iload hx hb dL_law_703 (lv_at hl 5 rfl) ?_
                refine g_callV0 (As := [.int (nI sl), .int (nI k)]) (rest := []) (b := hy) (n := 2) S hE hI hA (e_take l K _ L1 L2 M hy y sl k mn hlS hy_695 hz hk9 hfit (by omega)) gL_law_X4_take rfl (by decide +kernel) ⟨Nat.le_of_ble_eq_true rfl, Nat.le_of_ble_eq_true rfl⟩ (g_hro hE hI hy_695.1 rfl) rfl hl.1 rfl (Nat.le_of_ble_eq_true rfl) dL_law_705 hcs (fun rv Gc_705 H locs hp hI => ?_)
                obtain ⟨rfl, hy_705, -⟩ := hp
                have hsT1 : sT (yS (yTake y sl k mn) sl) ≤ 3 := (hy_705.sok sl (by omega)).2.2.2.2.2.1
                refine W.eq (g2 := F0 m 708 ls [.int (nI (sellP (yK y k)))]) rfl ?_
                refine lv_istore (lv' := [(19, .int (nI (sellP (yK y k)))), (18, .int (nI (kP (yK y k)))), (17, .int (nI (wst (yTake y sl k mn)))), (5, .int xv), (6, .int (nI (ySc y))), (7, .int (nI sl)), (8, .int (nI k)), (9, .int (nI (wst y))), (10, .int (nI (yPaid y))), (4, .int (nI i)), (3, .int (nI (yArea0 y))), (2, .int (nI kn)), (1, .ref hy), (0, .ref b)]) hx hb dL_law_708 hl (by decide) rfl (fun ls hl => ?_)
                refine lv_iload hx hb dL_law_710 (lv_at hl 0 rfl) ?_
                refine lv_iload hx hb dL_law_712 (lv_at hl 1 rfl) ?_
                refine lv_icmp_eq (tgt := 726) hx hb dL_law_714 (by decide) (fun c_714 => ?_) (fun c_714 => ?_)
                · skip
                  have c_714 : (sellP (yK y k)) = (kP (yK y k)) := (nI_eq (a := (sellP (yK y k))) (b := (kP (yK y k))) (by omega) (by omega)).mp c_714
                  refine lv_aload_n hx hb dL_law_726 rfl (lv_at hl 12 rfl) ?_
                  refine lv_iconst (v := nI 5) hx hb dL_law_727 (by decide) ?_
                  refine g_callV0 (As := [.int (nI 5)]) (rest := []) (b := hy) (n := 1) S hE hI hA (e_many5 l K _ L1 L2 M hy (yTake y sl k mn)  hlS hy_705 hst.1.1) gL_law_X4_many rfl (by decide +kernel) ⟨Nat.le_of_ble_eq_true rfl, Nat.le_of_ble_eq_true rfl⟩ (g_hro hE hI hy_705.1 rfl) rfl hl.1 rfl (Nat.le_of_ble_eq_true rfl) dL_law_728 hcs (fun rv Gc_728 H locs hp hI => ?_)
                  obtain ⟨rfl, hy_728, -⟩ := hp
                  refine W.eq (g2 := F0 m 731 ls [.int (nI (wst (yTake y sl k mn)))]) rfl ?_
                  refine lv_iload hx hb dL_law_731 (lv_at hl 2 rfl) ?_
                  refine lv_icmp_ne (tgt := 765) hx hb dL_law_733 (by decide) (fun c_733 => ?_) (fun c_733 => ?_)
                  · skip
                    have c_733 : (wst (yTake y sl k mn)) ≠ (wst (yTake y sl k mn)) := fun z => c_733 ((nI_eq (a := (wst (yTake y sl k mn))) (b := (wst (yTake y sl k mn))) (by omega) (by omega)).mpr z)
                    exact absurd rfl c_733
                  · skip
                    have c_733 : (wst (yTake y sl k mn)) = (wst (yTake y sl k mn)) := (nI_eq (a := (wst (yTake y sl k mn))) (b := (wst (yTake y sl k mn))) (by omega) (by omega)).mp c_733
                    refine lv_iload hx hb dL_law_736 (lv_at hl 2 rfl) ?_
                    refine lv_iload hx hb dL_law_738 (lv_at hl 7 rfl) ?_
                    refine lv_icmp_lt (tgt := 765) hx hb dL_law_740 (by decide) (fun c_740 => ?_) (fun c_740 => ?_)
                    · skip
                      have c_740 : (wst (yTake y sl k mn)) < (wst y) := (nI_ltI (a := (wst (yTake y sl k mn))) (b := (wst y)) (by omega) (by omega)).mp c_740
                      exact absurd c_740 (by omega)
                    · skip
                      have c_740 : (wst y) ≤ (wst (yTake y sl k mn)) := Nat.not_lt.mp (fun z => c_740 ((nI_ltI (a := (wst (yTake y sl k mn))) (b := (wst y)) (by omega) (by omega)).mpr z))
                      refine lv_aload_n hx hb dL_law_743 rfl (lv_at hl 12 rfl) ?_
                      refine lv_iload hx hb dL_law_744 (lv_at hl 5 rfl) ?_
                      refine lv_iconst (v := nI 5) hx hb dL_law_746 (by decide) ?_
                      refine g_callV0 (As := [.int (nI sl), .int (nI 5)]) (rest := []) (b := hy) (n := 2) S hE hI hA (d_ofSlab l K _ L1 L2 M hy (yTake y sl k mn) sl 5 hlS hy_728 (by omega) (by decide)) gL_law_X4_ofSlab rfl (by decide +kernel) ⟨Nat.le_of_ble_eq_true rfl, Nat.le_of_ble_eq_true rfl⟩ (g_hro hE hI hy_728.1 rfl) rfl hl.1 rfl (Nat.le_of_ble_eq_true rfl) dL_law_747 hcs (fun rv Gc_747 H locs hp hI => ?_)
                      obtain ⟨rfl, hy_747, -⟩ := hp
                      refine W.eq (g2 := F0 m 750 ls [.int (nI (sT (yS (yTake y sl k mn) sl)))]) rfl ?_
                      refine lv_if_eq (tgt := 765) hx hb dL_law_750 (by decide) (fun c_750 => ?_) (fun c_750 => ?_)
                      · skip
                        have c_750 : (sT (yS (yTake y sl k mn) sl)) = 0 := (nI_eq (a := (sT (yS (yTake y sl k mn) sl))) (b := 0) (by omega) (by omega)).mp c_750
                        exact (hgone c_750).elim
                      · skip
                        have c_750 : (sT (yS (yTake y sl k mn) sl)) ≠ 0 := fun z => c_750 ((nI_eq (a := (sT (yS (yTake y sl k mn) sl))) (b := 0) (by omega) (by omega)).mpr z)
                        refine lv_aload_n hx hb dL_law_753 rfl (lv_at hl 12 rfl) ?_
                        refine lv_iload hx hb dL_law_754 (lv_at hl 6 rfl) ?_
                        refine lv_iconst (v := nI 4) hx hb dL_law_756 (by decide) ?_
                        refine g_callV0 (As := [.int (nI k), .int (nI 4)]) (rest := []) (b := hy) (n := 2) S hE hI hA (d_ofKind l K _ L1 L2 M hy (yTake y sl k mn) k 4 hlS hy_747 (by rw [take_Kc]; exact hk9) (by decide)) gL_law_X4_ofKind rfl (by decide +kernel) ⟨Nat.le_of_ble_eq_true rfl, Nat.le_of_ble_eq_true rfl⟩ (g_hro hE hI hy_747.1 rfl) rfl hl.1 rfl (Nat.le_of_ble_eq_true rfl) dL_law_757 hcs (fun rv Gc_757 H locs hp hI => ?_)
                        obtain ⟨rfl, hy_757, -⟩ := hp
                        refine W.eq (g2 := F0 m 760 ls [.int (nI (kP (yK (yTake y sl k mn) k)))]) rfl ?_
                        refine lv_iload hx hb dL_law_760 (lv_at hl 1 rfl) ?_
                        refine lv_icmp_le (tgt := 767) hx hb dL_law_762 (by decide) (fun c_762 => ?_) (fun c_762 => ?_)
                        · skip
                          have c_762 : (kP (yK (yTake y sl k mn) k)) ≤ (kP (yK y k)) := (nI_leI (a := (kP (yK (yTake y sl k mn) k))) (b := (kP (yK y k))) (by omega) (by omega)).mp c_762
                          exact kk _ (yTake y sl k mn) _ _ ls (hst.1.TR (by decide)) hI hy_757 (by rw [hst.1.2.2.2.1]; exact lv_sub hl [9,10,7,8,11,12,13] rfl)
                        · skip
                          have c_762 : (kP (yK y k)) < (kP (yK (yTake y sl k mn) k)) := Nat.not_le.mp (fun z => c_762 ((nI_leI (a := (kP (yK (yTake y sl k mn) k))) (b := (kP (yK y k))) (by omega) (by omega)).mpr z))
                          exact absurd c_762 (by omega)
                · skip
                  have c_714 : (sellP (yK y k)) ≠ (kP (yK y k)) := fun z => c_714 ((nI_eq (a := (sellP (yK y k))) (b := (kP (yK y k))) (by omega) (by omega)).mpr z)
                  refine lv_iload hx hb dL_law_717 (lv_at hl 0 rfl) ?_
                  refine lv_iload hx hb dL_law_719 (lv_at hl 1 rfl) ?_
                  refine lv_iconst (v := nI 4) hx hb dL_law_721 (by decide) ?_
                  refine g_idiv hx hb dL_law_722 (by decide) (v := nI (kP (yK y k) / 4)) (pk_div (by omega) (by decide) (by decide)) ?_
                  refine lv_icmp_ne (tgt := 765) hx hb dL_law_723 (by decide) (fun c_723 => ?_) (fun c_723 => ?_)
                  · skip
                    have c_723 : (sellP (yK y k)) ≠ (kP (yK y k) / 4) := fun z => c_723 ((nI_eq (a := (sellP (yK y k))) (b := (kP (yK y k) / 4)) (by omega) (by omega)).mpr z)
                    exact (c_723 (hsp.resolve_left c_714)).elim
                  · skip
                    have c_723 : (sellP (yK y k)) = (kP (yK y k) / 4) := (nI_eq (a := (sellP (yK y k))) (b := (kP (yK y k) / 4)) (by omega) (by omega)).mp c_723
                    refine lv_aload_n hx hb dL_law_726 rfl (lv_at hl 12 rfl) ?_
                    refine lv_iconst (v := nI 5) hx hb dL_law_727 (by decide) ?_
                    refine g_callV0 (As := [.int (nI 5)]) (rest := []) (b := hy) (n := 1) S hE hI hA (e_many5 l K _ L1 L2 M hy (yTake y sl k mn)  hlS hy_705 hst.1.1) gL_law_X4_many rfl (by decide +kernel) ⟨Nat.le_of_ble_eq_true rfl, Nat.le_of_ble_eq_true rfl⟩ (g_hro hE hI hy_705.1 rfl) rfl hl.1 rfl (Nat.le_of_ble_eq_true rfl) dL_law_728 hcs (fun rv Gc_728 H locs hp hI => ?_)
                    obtain ⟨rfl, hy_728, -⟩ := hp
                    refine W.eq (g2 := F0 m 731 ls [.int (nI (wst (yTake y sl k mn)))]) rfl ?_
                    refine lv_iload hx hb dL_law_731 (lv_at hl 2 rfl) ?_
                    refine lv_icmp_ne (tgt := 765) hx hb dL_law_733 (by decide) (fun c_733 => ?_) (fun c_733 => ?_)
                    · skip
                      have c_733 : (wst (yTake y sl k mn)) ≠ (wst (yTake y sl k mn)) := fun z => c_733 ((nI_eq (a := (wst (yTake y sl k mn))) (b := (wst (yTake y sl k mn))) (by omega) (by omega)).mpr z)
                      exact absurd rfl c_733
                    · skip
                      have c_733 : (wst (yTake y sl k mn)) = (wst (yTake y sl k mn)) := (nI_eq (a := (wst (yTake y sl k mn))) (b := (wst (yTake y sl k mn))) (by omega) (by omega)).mp c_733
                      refine lv_iload hx hb dL_law_736 (lv_at hl 2 rfl) ?_
                      refine lv_iload hx hb dL_law_738 (lv_at hl 7 rfl) ?_
                      refine lv_icmp_lt (tgt := 765) hx hb dL_law_740 (by decide) (fun c_740 => ?_) (fun c_740 => ?_)
                      · skip
                        have c_740 : (wst (yTake y sl k mn)) < (wst y) := (nI_ltI (a := (wst (yTake y sl k mn))) (b := (wst y)) (by omega) (by omega)).mp c_740
                        exact absurd c_740 (by omega)
                      · skip
                        have c_740 : (wst y) ≤ (wst (yTake y sl k mn)) := Nat.not_lt.mp (fun z => c_740 ((nI_ltI (a := (wst (yTake y sl k mn))) (b := (wst y)) (by omega) (by omega)).mpr z))
                        refine lv_aload_n hx hb dL_law_743 rfl (lv_at hl 12 rfl) ?_
                        refine lv_iload hx hb dL_law_744 (lv_at hl 5 rfl) ?_
                        refine lv_iconst (v := nI 5) hx hb dL_law_746 (by decide) ?_
                        refine g_callV0 (As := [.int (nI sl), .int (nI 5)]) (rest := []) (b := hy) (n := 2) S hE hI hA (d_ofSlab l K _ L1 L2 M hy (yTake y sl k mn) sl 5 hlS hy_728 (by omega) (by decide)) gL_law_X4_ofSlab rfl (by decide +kernel) ⟨Nat.le_of_ble_eq_true rfl, Nat.le_of_ble_eq_true rfl⟩ (g_hro hE hI hy_728.1 rfl) rfl hl.1 rfl (Nat.le_of_ble_eq_true rfl) dL_law_747 hcs (fun rv Gc_747 H locs hp hI => ?_)
                        obtain ⟨rfl, hy_747, -⟩ := hp
                        refine W.eq (g2 := F0 m 750 ls [.int (nI (sT (yS (yTake y sl k mn) sl)))]) rfl ?_
                        refine lv_if_eq (tgt := 765) hx hb dL_law_750 (by decide) (fun c_750 => ?_) (fun c_750 => ?_)
                        · skip
                          have c_750 : (sT (yS (yTake y sl k mn) sl)) = 0 := (nI_eq (a := (sT (yS (yTake y sl k mn) sl))) (b := 0) (by omega) (by omega)).mp c_750
                          exact (hgone c_750).elim
                        · skip
                          have c_750 : (sT (yS (yTake y sl k mn) sl)) ≠ 0 := fun z => c_750 ((nI_eq (a := (sT (yS (yTake y sl k mn) sl))) (b := 0) (by omega) (by omega)).mpr z)
                          refine lv_aload_n hx hb dL_law_753 rfl (lv_at hl 12 rfl) ?_
                          refine lv_iload hx hb dL_law_754 (lv_at hl 6 rfl) ?_
                          refine lv_iconst (v := nI 4) hx hb dL_law_756 (by decide) ?_
                          refine g_callV0 (As := [.int (nI k), .int (nI 4)]) (rest := []) (b := hy) (n := 2) S hE hI hA (d_ofKind l K _ L1 L2 M hy (yTake y sl k mn) k 4 hlS hy_747 (by rw [take_Kc]; exact hk9) (by decide)) gL_law_X4_ofKind rfl (by decide +kernel) ⟨Nat.le_of_ble_eq_true rfl, Nat.le_of_ble_eq_true rfl⟩ (g_hro hE hI hy_747.1 rfl) rfl hl.1 rfl (Nat.le_of_ble_eq_true rfl) dL_law_757 hcs (fun rv Gc_757 H locs hp hI => ?_)
                          obtain ⟨rfl, hy_757, -⟩ := hp
                          refine W.eq (g2 := F0 m 760 ls [.int (nI (kP (yK (yTake y sl k mn) k)))]) rfl ?_
                          refine lv_iload hx hb dL_law_760 (lv_at hl 1 rfl) ?_
                          refine lv_icmp_le (tgt := 767) hx hb dL_law_762 (by decide) (fun c_762 => ?_) (fun c_762 => ?_)
                          · skip
                            have c_762 : (kP (yK (yTake y sl k mn) k)) ≤ (kP (yK y k)) := (nI_leI (a := (kP (yK (yTake y sl k mn) k))) (b := (kP (yK y k))) (by omega) (by omega)).mp c_762
                            exact kk _ (yTake y sl k mn) _ _ ls (hst.1.TR (by decide)) hI hy_757 (by rw [hst.1.2.2.2.1]; exact lv_sub hl [9,10,7,8,11,12,13] rfl)
                          · skip
                            have c_762 : (kP (yK y k)) < (kP (yK (yTake y sl k mn) k)) := Nat.not_le.mp (fun z => c_762 ((nI_leI (a := (kP (yK (yTake y sl k mn) k))) (b := (kP (yK y k))) (by omega) (by omega)).mpr z))
                            exact absurd c_762 (by omega)
              · skip
                have c_685 : 36 < (ySc y) := Nat.not_le.mp (fun z => c_685 ((nI_leI (a := (ySc y)) (b := 36) (by omega) (by omega)).mpr z))
                refine lv_goto (tgt := 767) hx hb dL_law_688 (by decide) ?_
                exact kk _ y _ _ ls (TR.rf hPI) hI hy_668 (lv_sub hl [7,8,5,6,9,10,11] rfl)
          · skip
            have c_671 : 0 ≠ 0 := fun z => c_671 ((nI_eq (a := 0) (b := 0) (by omega) (by omega)).mpr z)
            exact absurd rfl c_671
    · skip
      have c_642 : mn < 0 := Nat.not_le.mp (fun z => c_642 ((nI_leI (a := 0) (b := mn) (by omega) (by omega)).mpr z))
      exact absurd c_642 (by omega)
  · skip
    have c_626 : (wst (yTake y sl k mn)) < 0 := Nat.not_le.mp (fun z => c_626 ((nI_leI (a := 0) (b := (wst (yTake y sl k mn))) (by omega) (by omega)).mpr z))
    exact absurd c_626 (by omega)
end GL1
