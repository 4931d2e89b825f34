/-! the world at the law's entry -/
theorem lb_t (i : Nat) {w : Cond} (h : tables_1[i]? = some w) : w ∈ lw_tbl := List.mem_append_right _ (List.mem_of_getElem? h)
theorem lb_nsF : ∀ q ∈ gNsF, Cond.fieldLinkNest q.1 q.2.1 q.2.2.1 q.2.2.2.1 q.2.2.2.2.1 q.2.2.2.2.2 ∈ lw_tbl := List.forall_mem_cons.mpr ⟨lb_t 118 (by decide +kernel), List.forall_mem_cons.mpr ⟨lb_t 49 (by decide +kernel), List.forall_mem_cons.mpr ⟨lb_t 52 (by decide +kernel), List.forall_mem_cons.mpr ⟨lb_t 37 (by decide +kernel), List.forall_mem_cons.mpr ⟨lb_t 40 (by decide +kernel), List.forall_mem_cons.mpr ⟨lb_t 43 (by decide +kernel), List.forall_mem_cons.mpr ⟨lb_t 46 (by decide +kernel), List.forall_mem_cons.mpr ⟨lb_t 121 (by decide +kernel), List.forall_mem_cons.mpr ⟨lb_t 82 (by decide +kernel), List.forall_mem_cons.mpr ⟨lb_t 85 (by decide +kernel), List.forall_mem_cons.mpr ⟨lb_t 91 (by decide +kernel), List.forall_mem_cons.mpr ⟨lb_t 76 (by decide +kernel), List.forall_mem_cons.mpr ⟨lb_t 79 (by decide +kernel), List.forall_mem_cons.mpr ⟨lb_t 89 (by decide +kernel), List.forall_mem_cons.mpr ⟨lb_t 94 (by decide +kernel), List.forall_mem_cons.mpr ⟨lb_t 97 (by decide +kernel), List.forall_mem_cons.mpr ⟨lb_t 123 (by decide +kernel), List.forall_mem_cons.mpr ⟨lb_t 87 (by decide +kernel), List.forall_mem_cons.mpr ⟨lb_t 84 (by decide +kernel), List.forall_mem_cons.mpr ⟨lb_t 88 (by decide +kernel), List.forall_mem_cons.mpr ⟨lb_t 41 (by decide +kernel), List.forall_mem_cons.mpr ⟨lb_t 44 (by decide +kernel), List.forall_mem_cons.mpr ⟨lb_t 38 (by decide +kernel), List.forall_mem_cons.mpr ⟨lb_t 50 (by decide +kernel), List.forall_mem_cons.mpr ⟨lb_t 92 (by decide +kernel), List.forall_mem_cons.mpr ⟨lb_t 47 (by decide +kernel), List.forall_mem_cons.mpr ⟨lb_t 95 (by decide +kernel), List.forall_mem_cons.mpr ⟨lb_t 77 (by decide +kernel), List.forall_mem_cons.mpr ⟨lb_t 80 (by decide +kernel), List.forall_mem_cons.mpr ⟨lb_t 98 (by decide +kernel), fun _ h => absurd h List.not_mem_nil⟩⟩⟩⟩⟩⟩⟩⟩⟩⟩⟩⟩⟩⟩⟩⟩⟩⟩⟩⟩⟩⟩⟩⟩⟩⟩⟩⟩⟩⟩
theorem lb_nsM : ∀ q ∈ gNsM, Cond.methodLinkNest q.1 q.2.1 q.2.2.1 q.2.2.2 ∈ lw_tbl := List.forall_mem_cons.mpr ⟨lb_t 137 (by decide +kernel), List.forall_mem_cons.mpr ⟨lb_t 32 (by decide +kernel), List.forall_mem_cons.mpr ⟨lb_t 71 (by decide +kernel), fun _ h => absurd h List.not_mem_nil⟩⟩⟩
theorem lb_arrP {s : State} {args : Array Value} {ty : FieldType} (hty : ∀ C, ty ≠ .object C) (h : (Cond.arrayClass ty).before args s = true) : ∃ cA : ClassId, ArrOfT s cA ty ∧ va_RA s cA ty := by
  obtain ⟨c, k, comp, h1, h2, h3⟩ := Cond.arrayClass_spec h
  refine ⟨c, fun N z => ⟨(fun k h => by cases h), k, h2, comp, h3⟩, ?_⟩
  cases ty with
  | object C => exact absurd rfl (hty C)
  | _ => exact h1
theorem lb_arrO {s : State} {args : Array Value} {C : String} (h : (Cond.arrayOver (.object C)).before args s = true) : ∃ cA : ClassId, ArrOfT s cA (.object C) ∧ va_RA s cA (.object C) := by
  obtain ⟨comp, c, k, h1, -, h2, h3, h4⟩ := Cond.arrayOver_spec h
  exact ⟨c, fun N z => ⟨(fun k h => by cases h), k, h2, comp, h3⟩, k, comp, h2, h3, h1, h4⟩
theorem lb_arrs {s : State} {args : Array Value} (hts : ∀ w ∈ lw_tbl, w.before args s = true) : ∃ Y : Nat → ClassId, ∀ (k : Nat) (q : ClassId × FieldType), (gTys Y)[k]? = some q → ArrOfT s q.1 q.2 ∧ va_RA s q.1 q.2 := by
  obtain ⟨y0, a0⟩ := lb_arrP (ty := .int) (fun C z => nomatch z) (hts _ (lb_t 69 (by decide +kernel)))
  obtain ⟨y2, a2⟩ := lb_arrO (C := RX2) (hts _ (lb_t 28 (by decide +kernel)))
  obtain ⟨y3, a3⟩ := lb_arrO (C := RX0) (hts _ (lb_t 30 (by decide +kernel)))
  refine ⟨fun k => [y0, y0, y2, y3].getD k 0, fun k q hk => ?_⟩
  match k, hk with
  | 0, hk => obtain rfl := Option.some.inj (show some (y0, FieldType.int) = some q from hk); exact a0
  | 1, hk => obtain rfl := Option.some.inj (show some (y0, FieldType.int) = some q from hk); exact a0
  | 2, hk => obtain rfl := Option.some.inj (show some (y2, FieldType.object RX2) = some q from hk); exact a2
  | 3, hk => obtain rfl := Option.some.inj (show some (y3, FieldType.object RX0) = some q from hk); exact a3
  | n + 4, hk => exact absurd hk (by rw [List.getElem?_eq_none (by show 4 ≤ n + 4; omega)]; exact fun z => nomatch z)
theorem lb_cls {s : State} {args : Array Value} (hts : ∀ w ∈ lw_tbl, w.before args s = true) : ∃ D : va_G, ∀ (c : Nat) (q : vw_C), vwCl[c]? = some q → u_Kn s q.1 q.2.1 q.2.2 (D.1 c) (D.2 c) := by
  have htw : ∀ w ∈ wsL_law, w.before args s = true := fun w h => hts w (wsL_law_in w h)
  obtain ⟨c0, i0, a0⟩ := u_known (C := RX0) (T := TX0) (N := 8) (n := 8) htw (fun w h => (List.mem_append_left _ (List.mem_append_left _ (List.mem_append_left _ (List.mem_append_left _ (List.mem_append_right _ h)))))) (hts _ (lb_t 70 (by decide +kernel)))
  obtain ⟨c1, i1, a1⟩ := u_known (C := RX0) (T := TX0) (N := 8) (n := 8) htw (fun w h => (List.mem_append_left _ (List.mem_append_left _ (List.mem_append_left _ (List.mem_append_left _ (List.mem_append_right _ h)))))) (hts _ (lb_t 70 (by decide +kernel)))
  obtain ⟨c2, i2, a2⟩ := u_known (C := RX1) (T := TX1) (N := 5) (n := 5) htw (fun w h => (List.mem_append_left _ (List.mem_append_left _ (List.mem_append_left _ (List.mem_append_left _ (List.mem_append_left _ (List.mem_append_left _ (List.mem_append_right _ h)))))))) (hts _ (lb_t 136 (by decide +kernel)))
  obtain ⟨c3, i3, a3⟩ := u_known (C := RX2) (T := TX2) (N := 7) (n := 7) htw (fun w h => (List.mem_append_left _ (List.mem_append_left _ (List.mem_append_left _ (List.mem_append_left _ (List.mem_append_left _ (List.mem_append_right _ h))))))) (hts _ (lb_t 31 (by decide +kernel)))
  obtain ⟨c4, i4, a4⟩ := u_known (C := RX3) (T := TX3) (N := 5) (n := 5) htw (fun w h => (List.mem_append_left _ (List.mem_append_left _ (List.mem_append_left _ (List.mem_append_left _ (List.mem_append_left _ (List.mem_append_left _ (List.mem_append_left _ (List.mem_append_right _ h))))))))) (hts _ (lb_t 22 (by decide +kernel)))
  obtain ⟨c5, i5, a5⟩ := u_known (C := RX4) (T := TX4) (N := 3) (n := 3) htw (fun w h => (List.mem_append_left _ (List.mem_append_left _ (List.mem_append_left _ (List.mem_append_left _ (List.mem_append_left _ (List.mem_append_left _ (List.mem_append_left _ (List.mem_append_left _ (List.mem_append_right _ h)))))))))) (hts _ (lb_t 14 (by decide +kernel)))
  refine ⟨(fun k => [c0, c1, c2, c3, c4, c5].getD k 0, fun k => [i0, i1, i2, i3, i4, i5].getD k (fun _ => 0)), fun c q hk => ?_⟩
  match c, hk with
  | 0, hk => obtain rfl := Option.some.inj (show some (RX0, TX0, 8) = some q from hk); exact a0
  | 1, hk => obtain rfl := Option.some.inj (show some (RX0, TX0, 8) = some q from hk); exact a1
  | 2, hk => obtain rfl := Option.some.inj (show some (RX1, TX1, 5) = some q from hk); exact a2
  | 3, hk => obtain rfl := Option.some.inj (show some (RX2, TX2, 7) = some q from hk); exact a3
  | 4, hk => obtain rfl := Option.some.inj (show some (RX3, TX3, 5) = some q from hk); exact a4
  | 5, hk => obtain rfl := Option.some.inj (show some (RX4, TX4, 3) = some q from hk); exact a5
  | n + 6, hk => exact absurd hk (by rw [List.getElem?_eq_none (by show 6 ≤ n + 6; omega)]; exact fun z => nomatch z)
theorem lb_world {s : State} {args : Array Value} (hts : ∀ w ∈ lw_tbl, w.before args s = true) : ∃ K : gK, gE K (fun q => s.heap.size ≤ q) s s.heap := by
  obtain ⟨D, hD⟩ := lb_cls hts
  obtain ⟨Y, hY⟩ := lb_arrs hts
  exact ⟨(D, Y, 0, fun _ => 0), ⟨hD, hY⟩, trivial, trivial, trivial, trivial, trivial, trivial, trivial, trivial, va_AO.of (hts _ (lb_t 28 (by decide +kernel))), va_AO.of (hts _ (lb_t 30 (by decide +kernel))), trivial, trivial, trivial, trivial, trivial, trivial, fun q hq => va_Nw.of rfl (hts _ (lb_nsF q hq)), fun q hq => va_Nw.of rfl (hts _ (lb_nsM q hq))⟩
