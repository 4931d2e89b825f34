/-! numbers and truth values -/
def bI (b : Bool) : Int32 := if b then 1 else 0
theorem bI_0 {b : Bool} : bI b = 0 ↔ b = false := by cases b <;> simp [bI]
theorem bI_1 {b : Bool} : (¬ bI b = 0) ↔ b = true := by cases b <;> simp [bI]
theorem bI_01 (b : Bool) : bI b = 0 ∨ bI b = 1 := by cases b <;> simp [bI]
theorem bI_n0 : bI false = nI 0 := rfl
theorem bI_n1 : bI true = nI 1 := rfl
section GN
variable {p : Program} {l : Launch} {e : Env} {R : Room} {s : State} {m : MethodId} {args : Array Value} {below : List Frame} {meth : Method} {c : Code} {H : Heap} {locs : List Loc} {cells slots : Nat} {Q : State → Prop}
variable {cc : ByteArray} {pc : Nat} {ls : Array Slot} {rest : List Value}
theorem g_idiv (hexec : p.tables.exec = Jvm.exec) (hb : c.code = cc) {x y : Int32} (hdg : decode cc pc = .ok (.idiv, 1)) (hne : ¬ y = 0) {v : Int32} (hv : x / y = v)
    (k : W p l e R s m args below meth c H locs cells slots Q (F0 m (pc + 1) ls (.int v :: rest))) : W p l e R s m args below meth c H locs cells slots Q (F0 m pc ls (.int y :: .int x :: rest)) := by
  subst hv
  exact lv_idiv hexec hb hdg hne k
end GN
/-! the values: a slab (wide, high, grain, from, state, flaws), a kind (length, breadth, way, flaws let, price, wanted, taken, paid) -/
abbrev SV : Type := Nat × Nat × Nat × Int32 × Nat × List (Nat × Nat)
abbrev sW (s : SV) : Nat := s.1
abbrev sH (s : SV) : Nat := s.2.1
abbrev sG (s : SV) : Nat := s.2.2.1
abbrev sF (s : SV) : Int32 := s.2.2.2.1
abbrev sT (s : SV) : Nat := s.2.2.2.2.1
abbrev sL (s : SV) : List (Nat × Nat) := s.2.2.2.2.2
abbrev KV : Type := Nat × Nat × Nat × Nat × Nat × Nat × Nat × Nat
abbrev kL (k : KV) : Nat := k.1
abbrev kB (k : KV) : Nat := k.2.1
abbrev kW (k : KV) : Nat := k.2.2.1
abbrev kF (k : KV) : Nat := k.2.2.2.1
abbrev kP (k : KV) : Nat := k.2.2.2.2.1
abbrev kN (k : KV) : Nat := k.2.2.2.2.2.1
abbrev kT (k : KV) : Nat := k.2.2.2.2.2.2.1
abbrev kD (k : KV) : Nat := k.2.2.2.2.2.2.2
/-- the cells of StonecutterYard's own slabs and kinds -/
abbrev cS (s : SV) (pa : Nat) : va_E := .inr (3, [.int (nI (sW s)), .int (nI (sH s)), .int (nI (sG s)), .int (sF s), .int (nI (sT s)), .int (nI (sL s).length), .ref pa])
abbrev cK (k : KV) : va_E := .inr (1, [.int (nI (kL k)), .int (nI (kB k)), .int (nI (kW k)), .int (nI (kF k)), .int (nI (kP k)), .int (nI (kN k)), .int (nI (kT k)), .int (nI (kD k))])
abbrev cI (K : gK) (n : Nat) (f : Nat → Int32) : va_E := .inl (K.2.1 0, n, .inl f)
/-- a row of points, as the class keeps flaws -/
def ptsOK (f : Nat → Int32) (fl : List (Nat × Nat)) : Prop := fl.length ≤ 6 ∧ (∀ q ∈ fl, q.1 < 24 ∧ q.2 < 24) ∧ ∀ j, j < fl.length → f j = nI ((fl.getD j (0, 0)).1 * 24 + (fl.getD j (0, 0)).2)
abbrev kw (k : KV) (mn : Nat) : Nat := if mn = 0 then kL k else kB k
abbrev kh (k : KV) (mn : Nat) : Nat := if mn = 0 then kB k else kL k
/-- a kind lies in wide and high with a grain in a manner, and is not greater -/
def kGoes (k : KV) (mn w h g : Nat) : Bool := ((kW k == 0) || ((kW k == 1) == (mn == g))) && (decide (kw k mn ≤ w) && decide (kh k mn ≤ h))
section GM
variable {p : Program} {l : Launch} {e : Env} {R : Room} {s : State} {m : MethodId} {args : Array Value} {below : List Frame} {meth : Method} {c : Code} {H : Heap} {locs : List Loc} {cells slots : Nat} {Q : State → Prop}
variable {cc : ByteArray} {pc nL index : Nat} {ls : Array Slot} {rest : List Value} {own : String} {Ts : List Cond}
theorem g_mmax (S : CallFix p m c cc nL s args Ts own) (hsz : ls.size = nL) (hlink : (Cond.methodLink own index Lib.Math.max.name).before args s = true) (hstat : (Cond.static Lib.Math.max.name).before args s = true) (hini : (Cond.initialized "java/lang/Math").before args s = true) (hcode : (Cond.code Lib.Math.max.name Lib.Math.max.code 2 (some .int)).before args s = true) (hframes : 1 ≤ R.frames) (hlocals : (rest.map fun v => v.category).sum + 13 ≤ R.locals) (hc : cells ≤ R.cells) (hs : slots ≤ R.slots) {x y : Int32} (hdg : decode cc pc = .ok (.invokestatic index, 3)) {v : Int32} (hv : (if x < y then y else x) = v)
    (kk : W p l e R s m args below meth c H locs cells slots Q (F0 m (pc + 3) ls (.int v :: rest))) : W p l e R s m args below meth c H locs cells slots Q (F0 m pc ls (.int y :: .int x :: rest)) := by
  subst hv
  exact va_mmax S.1 S.2.1 (S.2.2.1.trans hsz.symm) S.2.2.2.1 hlink hstat hini hcode hframes hlocals hc hs hdg kk
theorem g_mmin (S : CallFix p m c cc nL s args Ts own) (hsz : ls.size = nL) (hlink : (Cond.methodLink own index Lib.Math.min.name).before args s = true) (hstat : (Cond.static Lib.Math.min.name).before args s = true) (hini : (Cond.initialized "java/lang/Math").before args s = true) (hcode : (Cond.code Lib.Math.min.name Lib.Math.min.code 2 (some .int)).before args s = true) (hframes : 1 ≤ R.frames) (hlocals : (rest.map fun v => v.category).sum + 13 ≤ R.locals) (hc : cells ≤ R.cells) (hs : slots ≤ R.slots) {x y : Int32} (hdg : decode cc pc = .ok (.invokestatic index, 3)) {v : Int32} (hv : (if y < x then y else x) = v)
    (kk : W p l e R s m args below meth c H locs cells slots Q (F0 m (pc + 3) ls (.int v :: rest))) : W p l e R s m args below meth c H locs cells slots Q (F0 m pc ls (.int y :: .int x :: rest)) := by
  subst hv
  exact va_mmin S.1 S.2.1 (S.2.2.1.trans hsz.symm) S.2.2.2.1 hlink hstat hini hcode hframes hlocals hc hs hdg kk
end GM
theorem sub_lt0 {a b : Nat} (ha : a < 2 ^ 30) (hb : b < 2 ^ 30) : nI a - nI b < 0 ↔ a < b := by
  rw [Int32.lt_iff_toInt_lt, pk_sub_toInt ha hb]
  show _ < (0 : Int) ↔ _
  omega
theorem max_nI {a b : Nat} (ha : a < 2 ^ 31) (hb : b < 2 ^ 31) : (if nI a < nI b then nI b else nI a) = nI (max a b) := by
  by_cases h : a < b
  · rw [if_pos (nI_lt h hb), Nat.max_eq_right (Nat.le_of_lt h)]
  · rw [if_neg (nI_nlt (Nat.not_lt.mp h) ha), Nat.max_eq_left (Nat.not_lt.mp h)]
theorem min_nI {a b : Nat} (ha : a < 2 ^ 31) (hb : b < 2 ^ 31) : (if nI b < nI a then nI b else nI a) = nI (min a b) := by
  by_cases h : b < a
  · rw [if_pos (nI_lt h ha), Nat.min_eq_right (Nat.le_of_lt h)]
  · rw [if_neg (nI_nlt (Nat.not_lt.mp h) hb), Nat.min_eq_left (Nat.not_lt.mp h)]
theorem max_dec {w : Nat} (hw : w < 2 ^ 30) : (if nI 0 < nI w - nI 1 then nI w - nI 1 else nI 0) = nI (w - 1) := by
  by_cases h : w = 0
  · subst h; decide
  · rw [pk_sub (by omega)]
    exact (max_nI (by decide) (by omega)).trans (by rw [Nat.zero_max])
/-- how many of the flaws lie in a field -/
abbrev inF (l t r b : Nat) (q : Nat × Nat) : Bool := decide (l ≤ q.1 ∧ q.1 < r ∧ t ≤ q.2 ∧ q.2 < b)
def cnt (fl : List (Nat × Nat)) (l t r b : Nat) : Nat := (fl.filter (inF l t r b)).length
theorem take_s {α : Type} {fl : List α} {i : Nat} (d : α) (hi : i < fl.length) : fl.take (i + 1) = fl.take i ++ [fl.getD i d] := by
  rw [List.take_succ, List.getElem?_eq_getElem hi]
  simp [List.getD, List.getElem?_eq_getElem hi]
theorem cnt_yes {fl : List (Nat × Nat)} {l t r b i x y : Nat} (hi : i < fl.length) (hx : x = (fl.getD i (0, 0)).1) (hy : y = (fl.getD i (0, 0)).2) (h : l ≤ x ∧ x < r ∧ t ≤ y ∧ y < b) : cnt (fl.take i) l t r b + 1 = cnt (fl.take (i + 1)) l t r b := by
  subst hx; subst hy
  unfold cnt
  rw [take_s (0, 0) hi, List.filter_append, List.filter_cons, if_pos (by simpa [inF] using h)]
  simp
theorem cnt_no {fl : List (Nat × Nat)} {l t r b i x y : Nat} (hi : i < fl.length) (hx : x = (fl.getD i (0, 0)).1) (hy : y = (fl.getD i (0, 0)).2) (h : ¬ (l ≤ x ∧ x < r ∧ t ≤ y ∧ y < b)) : cnt (fl.take i) l t r b = cnt (fl.take (i + 1)) l t r b := by
  subst hx; subst hy
  unfold cnt
  rw [take_s (0, 0) hi, List.filter_append, List.filter_cons, if_neg (by simpa [inF] using h)]
  simp
theorem cnt_le (fl : List (Nat × Nat)) (l t r b : Nat) : cnt fl l t r b ≤ fl.length := List.length_filter_le _ _
/-- the flaws that pass to a part -/
abbrev pa1 (l t w h : Nat) (q : Nat × Nat) : Option (Nat × Nat) := if l ≤ q.1 ∧ q.1 - l < w ∧ t ≤ q.2 ∧ q.2 - t < h then some (q.1 - l, q.2 - t) else none
def pass (fl : List (Nat × Nat)) (l t w h : Nat) : List (Nat × Nat) := fl.filterMap (pa1 l t w h)
theorem pass_yes {fl : List (Nat × Nat)} {l t w h i x y : Nat} (hi : i < fl.length) (hx : x = (fl.getD i (0, 0)).1) (hy : y = (fl.getD i (0, 0)).2) (c : l ≤ x ∧ x - l < w ∧ t ≤ y ∧ y - t < h) : pass (fl.take i) l t w h ++ [(x - l, y - t)] = pass (fl.take (i + 1)) l t w h := by
  subst hx; subst hy
  unfold pass
  rw [take_s (0, 0) hi, List.filterMap_append]
  simp only [List.filterMap_cons, List.filterMap_nil, pa1, if_pos c]
theorem pass_no {fl : List (Nat × Nat)} {l t w h i x y : Nat} (hi : i < fl.length) (hx : x = (fl.getD i (0, 0)).1) (hy : y = (fl.getD i (0, 0)).2) (c : ¬ (l ≤ x ∧ x - l < w ∧ t ≤ y ∧ y - t < h)) : pass (fl.take i) l t w h = pass (fl.take (i + 1)) l t w h := by
  subst hx; subst hy
  unfold pass
  rw [take_s (0, 0) hi, List.filterMap_append]
  simp only [List.filterMap_cons, List.filterMap_nil, pa1, if_neg c, List.append_nil]
theorem pass_len (fl : List (Nat × Nat)) (l t w h : Nat) : (pass fl l t w h).length ≤ fl.length := List.length_filterMap_le _ _
theorem pass_in {fl : List (Nat × Nat)} {l t w h : Nat} {q : Nat × Nat} (hq : q ∈ pass fl l t w h) : q.1 < w ∧ q.2 < h := by
  obtain ⟨z, -, hz⟩ := List.mem_filterMap.mp hq
  unfold pa1 at hz
  by_cases c : l ≤ z.1 ∧ z.1 - l < w ∧ t ≤ z.2 ∧ z.2 - t < h
  · rw [if_pos c] at hz
    cases hz
    exact ⟨c.2.1, c.2.2.2⟩
  · rw [if_neg c] at hz
    cases hz
theorem ptsOK.add {f : Nat → Int32} {fl : List (Nat × Nat)} {x y : Nat} (h : ptsOK f fl) (hl : fl.length < 6) (hx : x < 24) (hy : y < 24) : ptsOK (upd f fl.length (nI (x * 24 + y))) (fl ++ [(x, y)]) := by
  refine ⟨by simp; omega, fun q hq => ?_, fun j hj => ?_⟩
  · rcases List.mem_append.mp hq with h1 | h1
    · exact h.2.1 q h1
    · rw [List.mem_singleton.mp h1]; exact ⟨hx, hy⟩
  · rw [List.length_append, List.length_singleton] at hj
    by_cases e : j = fl.length
    · subst e
      rw [pk_us]
      simp
    · rw [pk_un e]
      have h2 : j < fl.length := by omega
      rw [h.2.2 j h2]
      simp [List.getD, List.getElem?_append_left h2]
theorem ptsOK.at {f : Nat → Int32} {fl : List (Nat × Nat)} (h : ptsOK f fl) {i : Nat} (hi : i < fl.length) : ∃ x y, x = (fl.getD i (0, 0)).1 ∧ y = (fl.getD i (0, 0)).2 ∧ f i = nI (x * 24 + y) ∧ x < 24 ∧ y < 24 := by
  have hm : fl.getD i (0, 0) ∈ fl := by simp [List.getD, List.getElem?_eq_getElem hi]
  exact ⟨_, _, rfl, rfl, h.2.2 i hi, h.2.1 _ hm⟩
theorem ptsOK.nil (f : Nat → Int32) : ptsOK f [] := ⟨by simp, fun q h => (by cases h), fun j h => absurd h (Nat.not_lt_zero j)⟩
/-- a manner's number, or NONE -/
def oI : Option Nat → Int32
  | none => -1
  | some n => nI n
def sOkIn (u : SV) (k : KV) (mn : Nat) : Bool := kGoes k mn (sW u) (sH u) (sG u) && decide (cnt (sL u) 0 0 (kw k mn) (kh k mn) ≤ kF k)
def sFits (u : SV) (k : KV) : Option Nat := if sT u = 0 then (if sOkIn u k 0 = true then some 0 else if sOkIn u k 1 = true then some 1 else none) else none
