/-! numbers and truth values -/
def bI (b : Bool) : Int32 := if b then 1 else 0
theorem bI_0 {b : Bool} : bI b = 0 ↔ b = false := by cases b <;> simp [bI]
theorem bI_1 {b : Bool} : (¬ bI b = 0) ↔ b = true := by cases b <;> simp [bI]
theorem bI_01 (b : Bool) : bI b = 0 ∨ bI b = 1 := by cases b <;> simp [bI]
theorem bI_n0 : bI false = nI 0 := rfl
theorem bI_n1 : bI true = nI 1 := rfl
section GN
variable {p : Program} {l : Launch} {e : Env} {R : Room} {s : State} {m : MethodId} {args : Array Value} {below : List Frame} {meth : Method} {c : Code} {H : Heap} {locs : List Loc} {cells slots : Nat} {Q : State → Prop}
variable {cc : ByteArray} {pc : Nat} {ls : Array Slot} {rest : List Value}
theorem g_idiv (hexec : p.tables.exec = Jvm.exec) (hb : c.code = cc) {x y : Int32} (hdg : decode cc pc = .ok (.idiv, 1)) (hne : ¬ y = 0) {v : Int32} (hv : x / y = v)
    (k : W p l e R s m args below meth c H locs cells slots Q (F0 m (pc + 1) ls (.int v :: rest))) : W p l e R s m args below meth c H locs cells slots Q (F0 m pc ls (.int y :: .int x :: rest)) := by
  subst hv
  exact lv_idiv hexec hb hdg hne k
end GN
/-! the values: a slab (wide, high, grain, from, state, flaws), a kind (length, breadth, way, flaws let, price, wanted, taken, paid) -/
abbrev SV : Type := Nat × Nat × Nat × Int32 × Nat × List (Nat × Nat)
abbrev sW (s : SV) : Nat := s.1
abbrev sH (s : SV) : Nat := s.2.1
abbrev sG (s : SV) : Nat := s.2.2.1
abbrev sF (s : SV) : Int32 := s.2.2.2.1
abbrev sT (s : SV) : Nat := s.2.2.2.2.1
abbrev sL (s : SV) : List (Nat × Nat) := s.2.2.2.2.2
abbrev KV : Type := Nat × Nat × Nat × Nat × Nat × Nat × Nat × Nat
abbrev kL (k : KV) : Nat := k.1
abbrev kB (k : KV) : Nat := k.2.1
abbrev kW (k : KV) : Nat := k.2.2.1
abbrev kF (k : KV) : Nat := k.2.2.2.1
abbrev kP (k : KV) : Nat := k.2.2.2.2.1
abbrev kN (k : KV) : Nat := k.2.2.2.2.2.1
abbrev kT (k : KV) : Nat := k.2.2.2.2.2.2.1
abbrev kD (k : KV) : Nat := k.2.2.2.2.2.2.2
/-- the cells of StonecutterYard's own slabs and kinds -/
abbrev cS (s : SV) (pa : Nat) : va_E := .inr (3, [.int (nI (sW s)), .int (nI (sH s)), .int (nI (sG s)), .int (sF s), .int (nI (sT s)), .int (nI (sL s).length), .ref pa])
abbrev cK (k : KV) : va_E := .inr (1, [.int (nI (kL k)), .int (nI (kB k)), .int (nI (kW k)), .int (nI (kF k)), .int (nI (kP k)), .int (nI (kN k)), .int (nI (kT k)), .int (nI (kD k))])
abbrev cI (K : gK) (n : Nat) (f : Nat → Int32) : va_E := .inl (K.2.1 0, n, .inl f)
/-- a row of points, as the class keeps flaws -/
def ptsOK (f : Nat → Int32) (fl : List (Nat × Nat)) : Prop := fl.length ≤ 6 ∧ (∀ q ∈ fl, q.1 < 24 ∧ q.2 < 24) ∧ ∀ j, j < fl.length → f j = nI ((fl.getD j (0, 0)).1 * 24 + (fl.getD j (0, 0)).2)
abbrev kw (k : KV) (mn : Nat) : Nat := if mn = 0 then kL k else kB k
abbrev kh (k : KV) (mn : Nat) : Nat := if mn = 0 then kB k else kL k
/-- a kind lies in wide and high with a grain in a manner, and is not greater -/
def kGoes (k : KV) (mn w h g : Nat) : Bool := ((kW k == 0) || ((kW k == 1) == (mn == g))) && (decide (kw k mn ≤ w) && decide (kh k mn ≤ h))
