/-! what the yard does, call by call: (0 or which is thrown, the answer, the yard behind it) -/
abbrev iN (x : Int32) : Nat := x.toInt.toNat
def inB (x : Int32) (a b : Nat) : Bool := decide ((a : Int) ≤ x.toInt ∧ x.toInt ≤ b)
def inR (x : Int32) (n : Nat) : Bool := decide (0 ≤ x.toInt ∧ x.toInt < n)
theorem iN_nI {n : Nat} (h : n < 2 ^ 31) : iN (nI n) = n := by
  show (nI n).toInt.toNat = n
  rw [nI_toInt h]
  rfl
theorem inR_nI {i n : Nat} (hi : i < n) (hn : n ≤ 2 ^ 31) : inR (nI i) n = true := by
  unfold inR
  rw [nI_toInt (by omega)]
  exact decide_eq_true ⟨by omega, by omega⟩
theorem inR_ne {x : Int32} {n : Nat} (h : inR x n = false) (hn : n ≤ 2 ^ 31) : ∀ i, i < n → x ≠ nI i := fun i hi e => by
  rw [e, inR_nI hi hn] at h
  cases h
theorem inR_in {x : Int32} {n : Nat} (h : inR x n = true) : ∃ i, i < n ∧ x = nI i := by
  have h1 := of_decide_eq_true h
  have h2 : ¬ x < 0 := fun z => by
    rw [Int32.lt_iff_toInt_lt, show (0 : Int32).toInt = 0 from by decide] at z
    omega
  obtain ⟨j, hj, rfl⟩ := nI_of h2
  rw [nI_toInt hj] at h1
  exact ⟨j, by omega, rfl⟩
theorem inR_cases (x : Int32) {n : Nat} (hn : n ≤ 2 ^ 31) : (inR x n = false ∧ ∀ i, i < n → x ≠ nI i) ∨ ∃ i, i < n ∧ x = nI i := by
  cases h : inR x n with
  | false => exact Or.inl ⟨rfl, inR_ne h hn⟩
  | true => exact Or.inr (inR_in h)
theorem inB_nI {i a b : Nat} (hi : i < 2 ^ 31) : inB (nI i) a b = decide (a ≤ i ∧ i ≤ b) := by
  unfold inB
  rw [nI_toInt hi]
  congr 1
  apply propext
  omega
theorem inB_in {x : Int32} {a b : Nat} (h : inB x a b = true) : ∃ i, a ≤ i ∧ i ≤ b ∧ i < 2 ^ 31 ∧ x = nI i := by
  have h1 := of_decide_eq_true h
  have h2 : ¬ x < 0 := fun z => by
    rw [Int32.lt_iff_toInt_lt, show (0 : Int32).toInt = 0 from by decide] at z
    omega
  obtain ⟨j, hj, rfl⟩ := nI_of h2
  rw [nI_toInt hj] at h1
  exact ⟨j, by omega, by omega, hj, rfl⟩
theorem lt_nI {x : Int32} {n : Nat} (hn : n < 2 ^ 31) : x < nI n ↔ x.toInt < n := by rw [Int32.lt_iff_toInt_lt, nI_toInt hn]
theorem nI_lt' {x : Int32} {n : Nat} (hn : n < 2 ^ 31) : nI n < x ↔ (n : Int) < x.toInt := by rw [Int32.lt_iff_toInt_lt, nI_toInt hn]
theorem le_nI {x : Int32} {n : Nat} (hn : n < 2 ^ 31) : x ≤ nI n ↔ x.toInt ≤ n := by rw [Int32.le_iff_toInt_le, nI_toInt hn]
theorem nI_le' {x : Int32} {n : Nat} (hn : n < 2 ^ 31) : nI n ≤ x ↔ (n : Int) ≤ x.toInt := by rw [Int32.le_iff_toInt_le, nI_toInt hn]
theorem lt_zI {x : Int32} : x < 0 ↔ x.toInt < 0 := by rw [Int32.lt_iff_toInt_lt, show (0 : Int32).toInt = 0 from by decide]
theorem inB_lo {x : Int32} {a b : Nat} (h : x.toInt < a) : inB x a b = false := decide_eq_false (by omega)
theorem inB_hi {x : Int32} {a b : Nat} (h : (b : Int) < x.toInt) : inB x a b = false := decide_eq_false (by omega)
theorem inB_ok {x : Int32} {a b : Nat} (h : (a : Int) ≤ x.toInt) (h2 : x.toInt ≤ b) : inB x a b = true := decide_eq_true ⟨h, h2⟩
theorem inR_ok {x : Int32} {n : Nat} (h : 0 ≤ x.toInt) (h2 : x.toInt < n) : inR x n = true := decide_eq_true ⟨h, h2⟩
abbrev inP (w h g : Int32) : Bool := inB w 1 24 && inB h 1 24 && inB g 0 1
abbrev oT : Type := Nat × Int32 × YV
abbrev sPut (u : SV) (x y : Nat) : SV := (sW u, sH u, sG u, sF u, sT u, sL u ++ [(x, y)])
abbrev kLet (k : KV) (w f : Nat) : KV := (kL k, kB k, w, f, kP k, kN k, kT k, kD k)
abbrev kOrd (k : KV) (n : Nat) : KV := (kL k, kB k, kW k, kF k, kP k, kN k + n, kT k, kD k)
abbrev kPr (k : KV) (p : Nat) : KV := (kL k, kB k, kW k, kF k, p, kN k, kT k, kD k)
def oSlab (y : YV) (w h g : Int32) : oT := if inP w h g = true then (if ySc y < 40 then (0, nI (ySc y), yAddS y (iN w, iN h, iN g, -1, 0, [])) else (2, 0, y)) else (1, 0, y)
abbrev inPt (u : SV) (x y : Int32) : Bool := inR x (sW u) && inR y (sH u)
def oFlaw (y : YV) (s px py : Int32) : oT := if inR s (ySc y) = true then (if inPt (yS y (iN s)) px py = true then (if sT (yS y (iN s)) = 0 ∧ (sL (yS y (iN s))).length < 6 then (0, nI ((sL (yS y (iN s))).length + 1), ySetS y (iN s) (sPut (yS y (iN s)) (iN px) (iN py))) else (2, 0, y)) else (1, 0, y)) else (1, 0, y)
def oKerf (y : YV) (k : Int32) : oT := if inB k 0 2 = true then (0, nI (yF y), ySetF y (iN k)) else (1, 0, y)
def oCut (y : YV) (s : Int32) (dn : Bool) (x : Int32) : oT := if inR s (ySc y) = true then (if canI (yLen (yS y (iN s)) dn) (yF y) x = true then (if sT (yS y (iN s)) = 0 ∧ ySc y ≤ 38 then (0, nI (ySc y), yCut y (iN s) dn (iN x)) else (3, 0, y)) else (2, 0, y)) else (1, 0, y)
def oToss (y : YV) (s : Int32) : oT := if inR s (ySc y) = true then (if sT (yS y (iN s)) = 0 then (0, nI (sA (yS y (iN s))), ySetS y (iN s) (sState (yS y (iN s)) 3)) else (2, 0, y)) else (1, 0, y)
def sOf (u : SV) : Nat → Int32
  | 0 => nI (sW u)
  | 1 => nI (sH u)
  | 2 => nI (sG u)
  | 3 => nI (sL u).length
  | 4 => sF u
  | _ => nI (sT u)
def oOfSlab (y : YV) (s w : Int32) : oT := if inR s (ySc y) = true then (if inR w 6 = true then (0, sOf (yS y (iN s)) (iN w), y) else (2, 0, y)) else (1, 0, y)
def oFlawsAt (y : YV) (s px py : Int32) : oT := if inR s (ySc y) = true then (if inPt (yS y (iN s)) px py = true then (0, nI (cnt (sL (yS y (iN s))) (iN px) (iN py) (iN px + 1) (iN py + 1)), y) else (1, 0, y)) else (1, 0, y)
/-- the slab that a slab came of, at most n steps -/
def yRoot (y : YV) : Nat → Nat → Nat
  | 0, i => i
  | n + 1, i => if sF (yS y i) = -1 then i else yRoot y n (iN (sF (yS y i)))
def oRoot (y : YV) (s : Int32) : oT := if inR s (ySc y) = true then (0, nI (yRoot y 40 (iN s)), y) else (1, 0, y)
def oKind (y : YV) (a b p : Int32) : oT := if (inB a 1 24 && inB b 1 24 && inB p 1 999) = true then (if yKc y < 6 then (0, nI (yKc y), yAddK y (iN a, iN b, 0, 0, iN p, 0, 0, 0)) else (2, 0, y)) else (1, 0, y)
def oLet (y : YV) (k w f : Int32) : oT := if inR k (yKc y) = true then (if (inB w 0 2 && inB f 0 3) = true then (0, nI (kW (yK y (iN k))), ySetK y (iN k) (kLet (yK y (iN k)) (iN w) (iN f))) else (2, 0, y)) else (1, 0, y)
def oOrder (y : YV) (k n : Int32) : oT := if inR k (yKc y) = true then (if inB n 1 (20 - kN (yK y (iN k))) = true then (0, nI (kN (yK y (iN k)) + iN n), ySetK y (iN k) (kOrd (yK y (iN k)) (iN n))) else (2, 0, y)) else (1, 0, y)
def kOf (k : KV) : Nat → Int32
  | 0 => nI (kL k)
  | 1 => nI (kB k)
  | 2 => nI (kW k)
  | 3 => nI (kF k)
  | 4 => nI (kP k)
  | 5 => nI (kN k)
  | 6 => nI (kT k)
  | _ => nI (kD k)
def oOfKind (y : YV) (k w : Int32) : oT := if inR k (yKc y) = true then (if inR w 8 = true then (0, kOf (yK y (iN k)) (iN w), y) else (2, 0, y)) else (1, 0, y)
def oFits (y : YV) (s k : Int32) : oT := if (inR s (ySc y) && inR k (yKc y)) = true then (0, oI (sFits (yS y (iN s)) (yK y (iN k))), y) else (1, 0, y)
def oTake (y : YV) (s k : Int32) : oT := if (inR s (ySc y) && inR k (yKc y)) = true then (match sFits (yS y (iN s)) (yK y (iN k)) with
    | some mn => if ySc y ≤ 36 then (0, nI (sellP (yK y (iN k))), yTake y (iN s) (iN k) mn) else (2, 0, y)
    | none => (2, 0, y)) else (1, 0, y)
def oPlan (y : YV) (n : Int32) : oT := if inB n 1 20 = true then (0, nI (yPlan (iN n) y).1, (yPlan (iN n) y).2) else (1, 0, y)
def yMany (y : YV) : Nat → Int32
  | 0 => nI (ySc y)
  | 1 => nI (yThere y)
  | 2 => nI (yKc y)
  | 3 => nI (yTaken y)
  | 4 => nI (yPaid y)
  | 5 => yWaste y
  | 6 => nI (yWanted y)
  | _ => nI (yAreaT y)
def oMany (y : YV) (w : Int32) : oT := if inR w 8 = true then (0, yMany y (iN w), y) else (1, 0, y)
abbrev ySt2 (y : YV) (g : Nat) : stT := fun a b => yStone y a b g
def oWorth (y : YV) (w h g : Int32) : oT := if inP w h g = true then (0, nI (wV (ySt2 y (iN g)) (yF y) (iN w) (iN h)), y) else (1, 0, y)
def oBest (y : YV) (w h g : Int32) : oT := if inP w h g = true then (0, cE (qV (ySt2 y (iN g)) (yF y) (iN w) (iN h)).2, y) else (1, 0, y)
def oColumn (y : YV) (w h g k : Int32) : oT := if inR k (yKc y) = true then (if inP w h g = true then (0, nI (nV (ySt2 y (iN g)) (yF y) (iN k) (iN w) (iN h)), y) else (2, 0, y)) else (1, 0, y)
/-- the worth of all slabs that are there -/
def yAllG (y : YV) (g : Nat) : Nat := sumN (fun i => if sT (yS y i) = 0 ∧ sG (yS y i) = g then wV (ySt2 y g) (yF y) (sW (yS y i)) (sH (yS y i)) else 0) (ySc y)
def yAll (y : YV) : Nat := yAllG y 0 + yAllG y 1
def oMore (y : YV) (k p : Int32) : oT := if inR k (yKc y) = true then (if inB p 1 999 = true then (0, nI (yAll (ySetK y (iN k) (kPr (yK y (iN k)) (iN p)))) - nI (yAll y), y) else (2, 0, y)) else (1, 0, y)
def oWasteBy (y : YV) (s k : Int32) : oT := if (inR s (ySc y) && inR k (yKc y)) = true then (match sFits (yS y (iN s)) (yK y (iN k)) with
    | some mn => (0, yWaste (yTake y (iN s) (iN k) mn), y)
    | none => (0, -1, y)) else (1, 0, y)
def yPays (y : YV) (n : Nat) : Int32 := nI (yPaid (yPlan n y).2) - nI (yPaid y)
def oPays (y : YV) (n : Int32) : oT := if inB n 1 20 = true then (0, yPays y (iN n), y) else (1, 0, y)
/-- the long that sums the yard up -/
def dStep (d : Int64) (v : Int32) : Int64 := d * 31 + v.toInt64
def dFold (f : Nat → Int32) (d : Int64) : Nat → Int64
  | 0 => d
  | n + 1 => dStep (dFold f d n) (f n)
def dSlab (y : YV) (d : Int64) (i : Nat) : Int64 := dFold (fun j => oI (sFits (yS y i) (yK y j))) (dFold (sOf (yS y i)) d 6) (yKc y)
def dSlabs (y : YV) (d : Int64) : Nat → Int64
  | 0 => d
  | n + 1 => dSlab y (dSlabs y d n) n
def dKinds (y : YV) (d : Int64) : Nat → Int64
  | 0 => d
  | n + 1 => dFold (kOf (yK y n)) (dKinds y d n) 8
def yDigest (y : YV) : Int64 := dStep (dStep (dStep (dKinds y (dSlabs y (dFold (yMany y) 58105 8) (ySc y)) (yKc y)) (nI (wV (ySt2 y 0) (yF y) 12 9))) (cE (qV (ySt2 y 0) (yF y) 12 9).2)) (yPays y 3)
/-- the yard's cells: its own stock in region 1, its trial in 2, its saw in 3, itself in 4 -/
def YardC (K : gK) (L1 L2 : Nat → Nat → Nat) (M : Nat → Nat) (hy : Nat) (G : gW) (y : YV) : Prop :=
  G (4, 20, 0) = some (hy, .inr (5, [.ref (L1 0 0), .ref (L2 0 0), .ref (M 0)])) ∧ StockG K true 1 L1 G y ∧ (∃ y2, StockG K false 2 L2 G y2) ∧ (∃ vW vC vT vN kf, SawG K 3 M G vW vC vT vN kf) ∧ ySc y ≤ 40
def AgY (G G1 : gW) : Prop := ∀ t : gTag, 5 ≤ t.1 → G1 t = G t
theorem AgY.rf {G : gW} : AgY G G := fun _ _ => rfl
theorem AgY.tr {G G1 G2 : gW} (h : AgY G G1) (h2 : AgY G1 G2) : AgY G G2 := fun t ht => (h2 t ht).trans (h t ht)
theorem Ag.y {r : Nat} {G G1 : gW} (h : Ag r G G1) (hr : r < 5) : AgY G G1 := fun t ht => h t (by omega)
theorem YardC.stock {K : gK} {L1 L2 : Nat → Nat → Nat} {M : Nat → Nat} {hy : Nat} {G G1 : gW} {y y' : YV} (h : YardC K L1 L2 M hy G y) (hs : StockG K true 1 L1 G1 y') (ha : Ag 1 G G1) (hc : ySc y' ≤ 40) : YardC K L1 L2 M hy G1 y' := by
  obtain ⟨h1, h2, ⟨y2, h3⟩, ⟨vW, vC, vT, vN, kf, h4⟩, -⟩ := h
  exact ⟨(ha _ (by decide)).trans h1, hs, ⟨y2, h3.moved (fun t ht => ha t (by omega))⟩, ⟨vW, vC, vT, vN, kf, h4.moved (fun t ht => ha t (by omega))⟩, hc⟩
theorem YardC.trial {K : gK} {L1 L2 : Nat → Nat → Nat} {M : Nat → Nat} {hy : Nat} {G G1 : gW} {y y2 : YV} (h : YardC K L1 L2 M hy G y) (hs : StockG K false 2 L2 G1 y2) (ha : Ag 2 G G1) : YardC K L1 L2 M hy G1 y := by
  obtain ⟨h1, h2, -, ⟨vW, vC, vT, vN, kf, h4⟩, hc⟩ := h
  exact ⟨(ha _ (by decide)).trans h1, h2.moved (fun t ht => ha t (by omega)), ⟨y2, hs⟩, ⟨vW, vC, vT, vN, kf, h4.moved (fun t ht => ha t (by omega))⟩, hc⟩
theorem YardC.saw {K : gK} {L1 L2 : Nat → Nat → Nat} {M : Nat → Nat} {hy : Nat} {G G1 : gW} {y : YV} {vW vC vT vN : Nat → Int32} {kf : Nat} (h : YardC K L1 L2 M hy G y) (hs : SawG K 3 M G1 vW vC vT vN kf) (ha : Ag 3 G G1) : YardC K L1 L2 M hy G1 y := by
  obtain ⟨h1, h2, ⟨y2, h3⟩, -, hc⟩ := h
  exact ⟨(ha _ (by decide)).trans h1, h2.moved (fun t ht => ha t (by omega)), ⟨y2, h3.moved (fun t ht => ha t (by omega))⟩, ⟨vW, vC, vT, vN, kf, hs⟩, hc⟩
theorem YardC.moved {K : gK} {L1 L2 : Nat → Nat → Nat} {M : Nat → Nat} {hy : Nat} {G G1 : gW} {y : YV} (h : YardC K L1 L2 M hy G y) (ha : ∀ t : gTag, t.1 < 5 → G1 t = G t) : YardC K L1 L2 M hy G1 y := by
  obtain ⟨h1, h2, ⟨y2, h3⟩, ⟨vW, vC, vT, vN, kf, h4⟩, hc⟩ := h
  exact ⟨(ha _ (by decide)).trans h1, h2.moved (fun t ht => ha t (by omega)), ⟨y2, h3.moved (fun t ht => ha t (by omega))⟩, ⟨vW, vC, vT, vN, kf, h4.moved (fun t ht => ha t (by omega))⟩, hc⟩
theorem StockG.weak {K : gK} {z : Bool} {r : Nat} {L : Nat → Nat → Nat} {G : gW} {y : YV} (h : StockG K z r L G y) : StockG K false r L G y := by
  obtain ⟨h1, h2, Kd, h4, h5, -⟩ := h
  exact ⟨h1, h2, Kd, h4, h5, fun z => by cases z⟩
abbrev eIA : String := "java/lang/IllegalArgumentException"
abbrev eIS : String := "java/lang/IllegalStateException"
abbrev eIO : String := "java/lang/IndexOutOfBoundsException"
/-- a call's contract: what it returns, what it throws -/
abbrev oPost (K : gK) (L1 L2 : Nat → Nat → Nat) (M : Nat → Nat) (hy : Nat) (G : gW) (o : oT) : Option Value → gW → Prop := fun v G1 => o.1 = 0 ∧ v = some (.int o.2.1) ∧ YardC K L1 L2 M hy G1 o.2.2 ∧ AgY G G1
abbrev oX (K : gK) (L1 L2 : Nat → Nat → Nat) (M : Nat → Nat) (hy : Nat) (G : gW) (o : oT) (ex : Nat → String) : String → gW → Prop := fun E G1 => o.1 ≠ 0 ∧ E = ex o.1 ∧ YardC K L1 L2 M hy G1 o.2.2 ∧ AgY G G1
abbrev ex1 (a : String) : Nat → String := fun _ => a
abbrev ex2 (a b : String) : Nat → String := fun n => if n = 1 then a else b
abbrev ex3 (a b c : String) : Nat → String := fun n => if n = 1 then a else if n = 2 then b else c
theorem inP_nI {w h g : Nat} (hb : (1 ≤ w ∧ w ≤ 24) ∧ (1 ≤ h ∧ h ≤ 24) ∧ g ≤ 1) : inP (nI w) (nI h) (nI g) = true := by
  unfold inP
  rw [inB_nI (by omega), inB_nI (by omega), inB_nI (by omega), decide_eq_true (by omega), decide_eq_true (by omega), decide_eq_true (by omega)]
  rfl
theorem inP_in {w h g : Int32} (hp : inP w h g = true) : ∃ a b c : Nat, ((1 ≤ a ∧ a ≤ 24) ∧ (1 ≤ b ∧ b ≤ 24) ∧ c ≤ 1) ∧ w = nI a ∧ h = nI b ∧ g = nI c := by
  obtain ⟨hp8, hpg⟩ := (Bool.and_eq_true _ _).mp hp
  obtain ⟨hpw, hph⟩ := (Bool.and_eq_true _ _).mp hp8
  obtain ⟨a, a1, a2, -, rfl⟩ := inB_in hpw
  obtain ⟨b, b1, b2, -, rfl⟩ := inB_in hph
  obtain ⟨c, -, c2, -, rfl⟩ := inB_in hpg
  exact ⟨a, b, c, ⟨⟨a1, a2⟩, ⟨b1, b2⟩, c2⟩, rfl, rfl, rfl⟩
theorem sPut_ok {u : SV} (h : sOK u) {a b : Nat} (hl : (sL u).length < 6) (ha : a < sW u) (hb : b < sH u) : sOK (sPut u a b) := by
  obtain ⟨s1, s2, s3, s4, s5, s6, s7, s8⟩ := h
  refine ⟨s1, s2, s3, s4, s5, s6, ?_, ?_⟩
  · show (sL u ++ [(a, b)]).length ≤ 6
    rw [List.length_append, List.length_singleton]
    omega
  · intro q hq
    rcases List.mem_append.mp hq with h1 | h1
    · exact s8 q h1
    · rw [List.mem_singleton.mp h1]; exact ⟨ha, hb⟩
theorem inPt_nI {u : SV} {a b : Nat} (h : sOK u) (ha : a < sW u) (hb : b < sH u) : inPt u (nI a) (nI b) = true := by
  obtain ⟨s1, s2, s3, s4, -⟩ := h
  unfold inPt
  rw [inR_nI ha (by omega), inR_nI hb (by omega)]
  rfl
theorem inPt_in {u : SV} {x y : Int32} (h : inPt u x y = true) : ∃ a b, a < sW u ∧ b < sH u ∧ x = nI a ∧ y = nI b := by
  obtain ⟨h1, h2⟩ := (Bool.and_eq_true _ _).mp h
  obtain ⟨a, a1, rfl⟩ := inR_in h1
  obtain ⟨b, b1, rfl⟩ := inR_in h2
  exact ⟨a, b, a1, b1, rfl, rfl⟩
theorem canI_in {len kf : Nat} {x : Int32} (h : canI len kf x = true) (hl : len ≤ 24) : ∃ n, n ≤ 24 ∧ x = nI n ∧ canC len kf n = true := by
  have h1 := of_decide_eq_true h
  have h2 : ¬ x < 0 := fun z => by
    rw [lt_zI] at z
    omega
  obtain ⟨j, hj, rfl⟩ := nI_of h2
  rw [nI_toInt hj] at h1
  exact ⟨j, by omega, rfl, decide_eq_true (by omega)⟩
theorem inR_out {x : Int32} {n : Nat} (h : inR x n = false) : x.toInt < 0 ∨ (n : Int) ≤ x.toInt := by
  have h1 := of_decide_eq_false h
  omega
/-- each slab came of one ahead of it -/
def yFr (y : YV) : Prop := ∀ i, i < ySc y → sF (yS y i) = -1 ∨ ∃ j, j < i ∧ sF (yS y i) = nI j
