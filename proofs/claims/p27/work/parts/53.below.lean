/-! the law's helpers: a number of the script, and one below a bound -/
theorem bm_ex (v : Int32) : ∃ n, n < 2 ^ 31 ∧ v &&& 2147483647 = nI n := by
  have h : (v &&& 2147483647).toBitVec = v.toBitVec &&& 2147483647#32 := rfl
  have h1 : (v.toBitVec &&& 2147483647#32).toNat ≤ 2147483647 := by
    rw [BitVec.toNat_and]
    exact Nat.and_le_right
  refine ⟨(v.toBitVec &&& 2147483647#32).toNat, Nat.lt_of_le_of_lt h1 (by decide), ?_⟩
  apply Int32.toBitVec_inj.mp
  rw [h]
  show _ = BitVec.ofNat 32 _
  apply BitVec.eq_of_toNat_eq
  rw [BitVec.toNat_ofNat, Nat.mod_eq_of_lt (Nat.lt_of_le_of_lt h1 (by decide))]
set_option maxHeartbeats 4000000 in
set_option maxRecDepth 100000 in
/-- below(v, n) -/
theorem c_L_below (l : Launch) (K : gK) (G : gW) (v : Int32) (n : Nat) (hn : 1 ≤ n ∧ n ≤ 1000) : gM l yL_below wsL_below 2 40 0 0 K [.int v, .int (nI n)] G (fun r G1 => (∃ q, q < n ∧ r = some (.int (nI q))) ∧ G1 = G) (gNo) := by
  refine gM.of (cc := cL_below) (maxL := 2) (ret := (some .int)) (by decide) rfl (Nat.le_of_ble_eq_true rfl) ?_
  intro p e s m below meth c A S hr hlocks htab hname hE hA hI ls hl
  have hx := S.1
  have hb := S.2.1
  have hml := S.2.2.1
  have hl : lv_has ls 2 [(0, .int v), (1, .int (nI n))] := hl
  obtain ⟨q9, hq9, he9⟩ := bm_ex v
  obtain ⟨H, hHe⟩ : ∃ z, z = s.heap := ⟨_, rfl⟩
  obtain ⟨locs, hLe⟩ : ∃ z : List Loc, z = [] := ⟨_, rfl⟩
  rw [← hHe, ← hLe]
  have hI : gI K A s G H locs := by rw [hHe, hLe]; exact hI
  clear hHe hLe
  refine lv_iload_n hx hb dL_below_0 rfl (lv_at hl 0 rfl) ?_
  refine lv_ldc hx hb S.2.2.2.1 (S.2.2.2.2 _ (List.mem_cons_of_mem _ (List.mem_of_getElem? (i := 0) rfl))) dL_below_1 ?_
  refine t_iand hx hb dL_below_3 (v := nI q9) he9 ?_
  refine lv_iload_n hx hb dL_below_4 rfl (lv_at hl 1 rfl) ?_
  refine t_irem hx hb dL_below_5 (nI_ne0 (by omega) (by omega)) (v := nI (q9 % n)) (pk_rem hq9 (by omega) (by omega)) ?_
  exact g_iret S hI hr hlocks (Nat.zero_le _) (Nat.zero_le _) dL_below_6 ⟨⟨_, Nat.mod_lt _ (by omega), rfl⟩, rfl⟩
