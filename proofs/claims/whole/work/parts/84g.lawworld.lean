/-! the world at the law's entry -/
theorem lb_t (i : Nat) {w : Cond} (h : tables_1[i]? = some w) : w ∈ lw_tbl := List.mem_append_right _ (List.mem_of_getElem? h)
theorem lb_str : ∀ q ∈ gStr, Cond.stringRef RX4 q.1 q.2 ∈ lw_tbl := List.forall_mem_cons.mpr ⟨lb_t 524 (by decide +kernel), List.forall_mem_cons.mpr ⟨lb_t 544 (by decide +kernel), List.forall_mem_cons.mpr ⟨lb_t 553 (by decide +kernel), List.forall_mem_cons.mpr ⟨lb_t 562 (by decide +kernel), List.forall_mem_cons.mpr ⟨lb_t 563 (by decide +kernel), List.forall_mem_cons.mpr ⟨lb_t 572 (by decide +kernel), List.forall_mem_cons.mpr ⟨lb_t 328 (by decide +kernel), List.forall_mem_cons.mpr ⟨lb_t 603 (by decide +kernel), List.forall_mem_cons.mpr ⟨lb_t 604 (by decide +kernel), List.forall_mem_cons.mpr ⟨lb_t 617 (by decide +kernel), List.forall_mem_cons.mpr ⟨lb_t 625 (by decide +kernel), List.forall_mem_cons.mpr ⟨lb_t 276 (by decide +kernel), List.forall_mem_cons.mpr ⟨lb_t 642 (by decide +kernel), List.forall_mem_cons.mpr ⟨lb_t 686 (by decide +kernel), List.forall_mem_cons.mpr ⟨lb_t 321 (by decide +kernel), List.forall_mem_cons.mpr ⟨lb_t 338 (by decide +kernel), List.forall_mem_cons.mpr ⟨lb_t 543 (by decide +kernel), List.forall_mem_cons.mpr ⟨lb_t 373 (by decide +kernel), List.forall_mem_cons.mpr ⟨lb_t 418 (by decide +kernel), fun _ h => absurd h List.not_mem_nil⟩⟩⟩⟩⟩⟩⟩⟩⟩⟩⟩⟩⟩⟩⟩⟩⟩⟩⟩
theorem lb_cas : ∀ q ∈ gCas, Cond.castable q.1 q.2 ∈ lw_tbl := List.forall_mem_cons.mpr ⟨lb_t 237 (by decide +kernel), List.forall_mem_cons.mpr ⟨lb_t 517 (by decide +kernel), List.forall_mem_cons.mpr ⟨lb_t 314 (by decide +kernel), List.forall_mem_cons.mpr ⟨lb_t 1271 (by decide +kernel), List.forall_mem_cons.mpr ⟨lb_t 1273 (by decide +kernel), List.forall_mem_cons.mpr ⟨lb_t 1281 (by decide +kernel), fun _ h => absurd h List.not_mem_nil⟩⟩⟩⟩⟩⟩
theorem lb_noc : ∀ q ∈ gNoc, Cond.not (.castable q.1 q.2) ∈ flatC (Jvm.Cond.and given_1 narrow_1) := List.forall_mem_cons.mpr ⟨List.mem_of_getElem? (i := 30) (by decide +kernel), List.forall_mem_cons.mpr ⟨List.mem_of_getElem? (i := 42) (by decide +kernel), List.forall_mem_cons.mpr ⟨List.mem_of_getElem? (i := 18) (by decide +kernel), List.forall_mem_cons.mpr ⟨List.mem_of_getElem? (i := 43) (by decide +kernel), List.forall_mem_cons.mpr ⟨List.mem_of_getElem? (i := 20) (by decide +kernel), List.forall_mem_cons.mpr ⟨List.mem_of_getElem? (i := 32) (by decide +kernel), fun _ h => absurd h List.not_mem_nil⟩⟩⟩⟩⟩⟩
theorem lb_nsF : ∀ q ∈ gNsF, Cond.fieldLinkNest q.1 q.2.1 q.2.2.1 q.2.2.2.1 q.2.2.2.2.1 q.2.2.2.2.2 ∈ lw_tbl := List.forall_mem_cons.mpr ⟨lb_t 130 (by decide +kernel), List.forall_mem_cons.mpr ⟨lb_t 61 (by decide +kernel), List.forall_mem_cons.mpr ⟨lb_t 64 (by decide +kernel), List.forall_mem_cons.mpr ⟨lb_t 136 (by decide +kernel), List.forall_mem_cons.mpr ⟨lb_t 49 (by decide +kernel), List.forall_mem_cons.mpr ⟨lb_t 52 (by decide +kernel), List.forall_mem_cons.mpr ⟨lb_t 55 (by decide +kernel), List.forall_mem_cons.mpr ⟨lb_t 58 (by decide +kernel), List.forall_mem_cons.mpr ⟨lb_t 133 (by decide +kernel), List.forall_mem_cons.mpr ⟨lb_t 94 (by decide +kernel), List.forall_mem_cons.mpr ⟨lb_t 97 (by decide +kernel), List.forall_mem_cons.mpr ⟨lb_t 103 (by decide +kernel), List.forall_mem_cons.mpr ⟨lb_t 88 (by decide +kernel), List.forall_mem_cons.mpr ⟨lb_t 91 (by decide +kernel), List.forall_mem_cons.mpr ⟨lb_t 101 (by decide +kernel), List.forall_mem_cons.mpr ⟨lb_t 106 (by decide +kernel), List.forall_mem_cons.mpr ⟨lb_t 109 (by decide +kernel), List.forall_mem_cons.mpr ⟨lb_t 135 (by decide +kernel), List.forall_mem_cons.mpr ⟨lb_t 99 (by decide +kernel), List.forall_mem_cons.mpr ⟨lb_t 96 (by decide +kernel), List.forall_mem_cons.mpr ⟨lb_t 100 (by decide +kernel), List.forall_mem_cons.mpr ⟨lb_t 53 (by decide +kernel), List.forall_mem_cons.mpr ⟨lb_t 56 (by decide +kernel), List.forall_mem_cons.mpr ⟨lb_t 50 (by decide +kernel), List.forall_mem_cons.mpr ⟨lb_t 62 (by decide +kernel), List.forall_mem_cons.mpr ⟨lb_t 104 (by decide +kernel), List.forall_mem_cons.mpr ⟨lb_t 59 (by decide +kernel), List.forall_mem_cons.mpr ⟨lb_t 107 (by decide +kernel), List.forall_mem_cons.mpr ⟨lb_t 89 (by decide +kernel), List.forall_mem_cons.mpr ⟨lb_t 92 (by decide +kernel), List.forall_mem_cons.mpr ⟨lb_t 110 (by decide +kernel), fun _ h => absurd h List.not_mem_nil⟩⟩⟩⟩⟩⟩⟩⟩⟩⟩⟩⟩⟩⟩⟩⟩⟩⟩⟩⟩⟩⟩⟩⟩⟩⟩⟩⟩⟩⟩⟩
theorem lb_nsM : ∀ q ∈ gNsM, Cond.methodLinkNest q.1 q.2.1 q.2.2.1 q.2.2.2 ∈ lw_tbl := List.forall_mem_cons.mpr ⟨lb_t 150 (by decide +kernel), List.forall_mem_cons.mpr ⟨lb_t 44 (by decide +kernel), List.forall_mem_cons.mpr ⟨lb_t 83 (by decide +kernel), List.forall_mem_cons.mpr ⟨lb_t 719 (by decide +kernel), fun _ h => absurd h List.not_mem_nil⟩⟩⟩⟩
theorem lb_arrP {s : State} {args : Array Value} {ty : FieldType} (hty : ∀ C, ty ≠ .object C) (h : (Cond.arrayClass ty).before args s = true) : ∃ cA : ClassId, ArrOfT s cA ty ∧ va_RA s cA ty := by
  obtain ⟨c, k, comp, h1, h2, h3⟩ := Cond.arrayClass_spec h
  refine ⟨c, fun N z => ⟨(fun k h => by cases h), k, h2, comp, h3⟩, ?_⟩
  cases ty with
  | object C => exact absurd rfl (hty C)
  | _ => exact h1
theorem lb_arrO {s : State} {args : Array Value} {C : String} (h : (Cond.arrayOver (.object C)).before args s = true) : ∃ cA : ClassId, ArrOfT s cA (.object C) ∧ va_RA s cA (.object C) := by
  obtain ⟨comp, c, k, h1, -, h2, h3, h4⟩ := Cond.arrayOver_spec h
  exact ⟨c, fun N z => ⟨(fun k h => by cases h), k, h2, comp, h3⟩, k, comp, h2, h3, h1, h4⟩
theorem lb_arrA {s : State} {args : Array Value} {t : FieldType} (h : (Cond.arrayOver (.array t)).before args s = true) : ∃ cA : ClassId, ArrOfT s cA (.array t) ∧ va_RA s cA (.array t) := by
  obtain ⟨comp, c, k, h1, -, h2, h3, h4⟩ := arrayOverA_spec h
  exact ⟨c, fun N z => ⟨(fun k h => by cases h), k, h2, comp, h3⟩, h4⟩
theorem lb_arrs {s : State} {args : Array Value} (hts : ∀ w ∈ lw_tbl, w.before args s = true) : ∃ Y : Nat → ClassId, ∀ (k : Nat) (q : ClassId × FieldType), (gTys Y)[k]? = some q → ArrOfT s q.1 q.2 ∧ va_RA s q.1 q.2 := by
  obtain ⟨y0, a0⟩ := lb_arrP (ty := .int) (fun C z => nomatch z) (hts _ (lb_t 81 (by decide +kernel)))
  obtain ⟨y1, a1⟩ := lb_arrP (ty := .long) (fun C z => nomatch z) (hts _ (lb_t 1259 (by decide +kernel)))
  obtain ⟨y2, a2⟩ := lb_arrO (C := RX2) (hts _ (lb_t 40 (by decide +kernel)))
  obtain ⟨y3, a3⟩ := lb_arrO (C := RX0) (hts _ (lb_t 42 (by decide +kernel)))
  obtain ⟨y4, a4⟩ := lb_arrO (C := "java/lang/Object") (hts _ (lb_t 885 (by decide +kernel)))
  obtain ⟨y5, a5⟩ := lb_arrA (t := .int) (hts _ (lb_t 1164 (by decide +kernel)))
  obtain ⟨y6, a6⟩ := lb_arrA (t := .array .int) (hts _ (lb_t 1236 (by decide +kernel)))
  refine ⟨fun k => [y0, y1, y2, y3, y4, y5, y6].getD k 0, fun k q hk => ?_⟩
  match k, hk with
  | 0, hk => obtain rfl := Option.some.inj (show some (y0, FieldType.int) = some q from hk); exact a0
  | 1, hk => obtain rfl := Option.some.inj (show some (y1, FieldType.long) = some q from hk); exact a1
  | 2, hk => obtain rfl := Option.some.inj (show some (y2, FieldType.object RX2) = some q from hk); exact a2
  | 3, hk => obtain rfl := Option.some.inj (show some (y3, FieldType.object RX0) = some q from hk); exact a3
  | 4, hk => obtain rfl := Option.some.inj (show some (y4, FieldType.object "java/lang/Object") = some q from hk); exact a4
  | 5, hk => obtain rfl := Option.some.inj (show some (y5, FieldType.array .int) = some q from hk); exact a5
  | 6, hk => obtain rfl := Option.some.inj (show some (y6, FieldType.array (.array .int)) = some q from hk); exact a6
  | n + 7, hk => exact absurd hk (by rw [List.getElem?_eq_none (by show 7 ≤ n + 7; omega)]; exact fun z => nomatch z)
theorem lb_cls {s : State} {args : Array Value} (hts : ∀ w ∈ lw_tbl, w.before args s = true) : ∃ D : va_G, ∀ (c : Nat) (q : vw_C), vwCl[c]? = some q → u_Kn s q.1 q.2.1 q.2.2 (D.1 c) (D.2 c) := by
  have htw : ∀ w ∈ wsL_law, w.before args s = true := fun w h => hts w (wsL_law_in w h)
  obtain ⟨c0, i0, a0⟩ := u_known (C := RJx4a65c) (T := TJx4a65c) (N := 3) (n := 3) htw (fun w h => (List.mem_append_left _ (List.mem_append_left _ (List.mem_append_left _ (List.mem_append_left _ (List.mem_append_left _ (List.mem_append_left _ (List.mem_append_right _ h)))))))) (hts _ (lb_t 724 (by decide +kernel)))
  obtain ⟨c1, i1, a1⟩ := u_known (C := RX0) (T := TX0) (N := 8) (n := 8) htw (fun w h => (List.mem_append_left _ (List.mem_append_left _ (List.mem_append_left _ (List.mem_append_left _ (List.mem_append_left _ (List.mem_append_left _ (List.mem_append_left _ (List.mem_append_left _ (List.mem_append_right _ h)))))))))) (hts _ (lb_t 82 (by decide +kernel)))
  obtain ⟨c2, i2, a2⟩ := u_known (C := RX1) (T := TX1) (N := 5) (n := 5) htw (fun w h => (List.mem_append_left _ (List.mem_append_left _ (List.mem_append_left _ (List.mem_append_left _ (List.mem_append_left _ (List.mem_append_left _ (List.mem_append_left _ (List.mem_append_left _ (List.mem_append_left _ (List.mem_append_left _ (List.mem_append_right _ h)))))))))))) (hts _ (lb_t 149 (by decide +kernel)))
  obtain ⟨c3, i3, a3⟩ := u_known (C := RX2) (T := TX2) (N := 7) (n := 7) htw (fun w h => (List.mem_append_left _ (List.mem_append_left _ (List.mem_append_left _ (List.mem_append_left _ (List.mem_append_left _ (List.mem_append_left _ (List.mem_append_left _ (List.mem_append_left _ (List.mem_append_left _ (List.mem_append_right _ h))))))))))) (hts _ (lb_t 43 (by decide +kernel)))
  obtain ⟨c4, i4, a4⟩ := u_known (C := RX3) (T := TX3) (N := 5) (n := 5) htw (fun w h => (List.mem_append_left _ (List.mem_append_left _ (List.mem_append_left _ (List.mem_append_left _ (List.mem_append_left _ (List.mem_append_left _ (List.mem_append_left _ (List.mem_append_left _ (List.mem_append_left _ (List.mem_append_left _ (List.mem_append_left _ (List.mem_append_right _ h))))))))))))) (hts _ (lb_t 34 (by decide +kernel)))
  obtain ⟨c5, i5, a5⟩ := u_known (C := RX4) (T := TX4) (N := 3) (n := 3) htw (fun w h => (List.mem_append_left _ (List.mem_append_left _ (List.mem_append_left _ (List.mem_append_left _ (List.mem_append_left _ (List.mem_append_left _ (List.mem_append_left _ (List.mem_append_left _ (List.mem_append_left _ (List.mem_append_left _ (List.mem_append_left _ (List.mem_append_left _ (List.mem_append_left _ (List.mem_append_right _ h))))))))))))))) (hts _ (lb_t 26 (by decide +kernel)))
  obtain ⟨c6, i6, a6⟩ := u_known (C := RX5) (T := TX5) (N := 8) (n := 8) htw (fun w h => (List.mem_append_left _ (List.mem_append_left _ (List.mem_append_left _ (List.mem_append_left _ (List.mem_append_right _ h)))))) (hts _ (lb_t 992 (by decide +kernel)))
  obtain ⟨c7, i7, a7⟩ := u_known (C := RX6) (T := TX6) (N := 6) (n := 6) htw (fun w h => (List.mem_append_left _ (List.mem_append_left _ (List.mem_append_left _ (List.mem_append_left _ (List.mem_append_left _ (List.mem_append_right _ h))))))) (hts _ (lb_t 796 (by decide +kernel)))
  obtain ⟨c8, i8, a8⟩ := u_known (C := RX7) (T := TX7) (N := 3) (n := 3) htw (fun w h => (List.mem_append_left _ (List.mem_append_left _ (List.mem_append_left _ (List.mem_append_left _ (List.mem_append_left _ (List.mem_append_left _ (List.mem_append_left _ (List.mem_append_right _ h))))))))) (hts _ (lb_t 718 (by decide +kernel)))
  obtain ⟨c9, i9, a9⟩ := u_known (C := RX8) (T := TX8) (N := 2) (n := 2) htw (fun w h => (List.mem_append_left _ (List.mem_append_left _ (List.mem_append_left _ (List.mem_append_left _ (List.mem_append_left _ (List.mem_append_left _ (List.mem_append_left _ (List.mem_append_left _ (List.mem_append_left _ (List.mem_append_left _ (List.mem_append_left _ (List.mem_append_left _ (List.mem_append_right _ h)))))))))))))) (hts _ (lb_t 712 (by decide +kernel)))
  refine ⟨(fun k => [c0, c1, c2, c3, c4, c5, c6, c7, c8, c9].getD k 0, fun k => [i0, i1, i2, i3, i4, i5, i6, i7, i8, i9].getD k (fun _ => 0)), fun c q hk => ?_⟩
  match c, hk with
  | 0, hk => obtain rfl := Option.some.inj (show some (RJx4a65c, TJx4a65c, 3) = some q from hk); exact a0
  | 1, hk => obtain rfl := Option.some.inj (show some (RX0, TX0, 8) = some q from hk); exact a1
  | 2, hk => obtain rfl := Option.some.inj (show some (RX1, TX1, 5) = some q from hk); exact a2
  | 3, hk => obtain rfl := Option.some.inj (show some (RX2, TX2, 7) = some q from hk); exact a3
  | 4, hk => obtain rfl := Option.some.inj (show some (RX3, TX3, 5) = some q from hk); exact a4
  | 5, hk => obtain rfl := Option.some.inj (show some (RX4, TX4, 3) = some q from hk); exact a5
  | 6, hk => obtain rfl := Option.some.inj (show some (RX5, TX5, 8) = some q from hk); exact a6
  | 7, hk => obtain rfl := Option.some.inj (show some (RX6, TX6, 6) = some q from hk); exact a7
  | 8, hk => obtain rfl := Option.some.inj (show some (RX7, TX7, 3) = some q from hk); exact a8
  | 9, hk => obtain rfl := Option.some.inj (show some (RX8, TX8, 2) = some q from hk); exact a9
  | n + 10, hk => exact absurd hk (by rw [List.getElem?_eq_none (by show 10 ≤ n + 10; omega)]; exact fun z => nomatch z)
theorem lb_world {s : State} {args : Array Value} (hts : ∀ w ∈ lw_tbl, w.before args s = true) (hgv : (Jvm.Cond.and given_1 narrow_1).before args s = true) : ∃ K : gK, gE K (fun q => s.heap.size ≤ q) s s.heap := by
  have hAn : ∀ a : Nat, a < s.heap.size → ¬ (fun q : Nat => s.heap.size ≤ q) a := fun a h z => absurd h (Nat.not_lt.mpr z)
  have hg := flat_of_before _ hgv
  obtain ⟨D, hD⟩ := lb_cls hts
  obtain ⟨Y, hY⟩ := lb_arrs hts
  obtain ⟨t, ht, hT⟩ := va_Tof (args := args) (s := s) (tm := Jvm.Term.static "java/util/ArrayList" "DEFAULTCAPACITY_EMPTY_ELEMENTDATA" "[Ljava/lang/Object;") (ty := .object "java/lang/Object") (N := 0) (f := fun _ => .null) (A := fun q => s.heap.size ≤ q) (by decide) (hg _ (List.mem_of_getElem? (i := 7) (by decide +kernel))) (va_eqt (z := 0) (hg _ (List.mem_of_getElem? (i := 9) (by decide +kernel)))) (fun j hj => absurd hj (Nat.not_lt_zero _)) hAn
  have hZ := va_Zof (v := .ref t) (A := fun q => s.heap.size ≤ q) (hts _ (lb_t 736 (by decide +kernel))) (hts _ (lb_t 10 (by decide +kernel))) ht hAn
  have hO := va_Oof (nm := "[Ljava/lang/Object;") (A := fun q => s.heap.size ≤ q) (hg _ (List.mem_of_getElem? (i := 8) (by decide +kernel))) ht hAn
  have hU := vx_Zqof (C := Bundle.tN) (n := "UNASSIGNED_STACK") (d := Bundle.steD) (A := fun q => s.heap.size ≤ q) (hts _ (lb_t 262 (by decide +kernel))) (hts _ (lb_t 11 (by decide +kernel))) (hg _ (List.mem_of_getElem? (i := 4) (by decide +kernel))) hAn
  have hN := vx_Zqof (C := Bundle.tN) (n := "SUPPRESSED_SENTINEL") (d := Bundle.listD) (A := fun q => s.heap.size ≤ q) (hts _ (lb_t 264 (by decide +kernel))) (hts _ (lb_t 11 (by decide +kernel))) (hg _ (List.mem_of_getElem? (i := 5) (by decide +kernel))) hAn
  obtain ⟨mi, hmi⟩ := va_Mi.of (C := "[Ljava/lang/Object;") (hg _ (List.mem_of_getElem? (i := 74) (by decide +kernel)))
  obtain ⟨cur, hcur⟩ : ∃ cur, s.vm.findClass RX4 = some cur := ⟨_, (hD 5 (RX4, TX4, 3) rfl).2.1⟩
  have hstr : ∀ k : Nat, ∃ a : Nat, ∀ tx, (k, tx) ∈ gStr → vk_R RX4 k tx a s := by
    intro k
    by_cases h : ∃ tx, (k, tx) ∈ gStr
    · obtain ⟨tx, h⟩ := h
      obtain ⟨_, _, _, a, -, -, -, -, -, hev⟩ := Cond.stringRef_spec hcur (hts _ (lb_str _ h))
      exact ⟨a, fun tx2 h2 => vk_R.of (hts _ (lb_str _ h2)) hev⟩
    · exact ⟨0, fun tx h2 => absurd ⟨tx, h2⟩ h⟩
  obtain ⟨f, hf⟩ := Classical.axiomOfChoice hstr
  have hne : ∀ q ∈ gStr, q.1 ≠ 1000 := by decide
  refine ⟨(D, Y, t, fun k => if k = 1000 then mi else f k), ⟨hD, hY⟩, hZ, hT, hO, hU, hN, fun q hq => ?_, fun q hq => va_Nw.of rfl (hts _ (lb_cas q hq)), fun q hq => va_Nc.of (hg _ (lb_noc q hq)), va_AO.of (hts _ (lb_t 40 (by decide +kernel))), va_AO.of (hts _ (lb_t 42 (by decide +kernel))), va_AO.of (hts _ (lb_t 885 (by decide +kernel))), va_AOA.of (hts _ (lb_t 1164 (by decide +kernel))), va_AOA.of (hts _ (lb_t 1236 (by decide +kernel))), ?_, va_Dc.of (hts _ (lb_t 1278 (by decide +kernel))), va_Fw.of (hts _ (lb_t 1218 (by decide +kernel))) (hts _ (lb_t 1217 (by decide +kernel))) (hts _ (lb_t 1223 (by decide +kernel))) (hts _ (lb_t 1221 (by decide +kernel))) (hts _ (lb_t 1219 (by decide +kernel))), fun q hq => va_Nw.of rfl (hts _ (lb_nsF q hq)), fun q hq => va_Nw.of rfl (hts _ (lb_nsM q hq))⟩
  · show vk_R RX4 q.1 q.2 (if q.1 = 1000 then mi else f q.1) s
    rw [if_neg (hne q hq)]
    exact hf q.1 q.2 hq
  · show va_Mi _ (if 1000 = 1000 then mi else f 1000) s
    rw [if_pos rfl]
    exact hmi
