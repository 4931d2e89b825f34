theorem o_slab (l : Launch) (K : gK) (G : gW) (L1 L2 : Nat → Nat → Nat) (M : Nat → Nat) (hy : Nat) (y : YV) (w : Int32) (h : Int32) (g : Int32) (hlS : l.stackTraces = false) (hy0 : YardC K L1 L2 M hy G y) : gM l yX4_slab wsX4_slab 7 132 1 6 K [.ref hy, .int w, .int h, .int g] G (oPost K L1 L2 M hy G (oSlab y w h g)) (oX K L1 L2 M hy G (oSlab y w h g) (ex2 eIA eIS)) := by
  have h44 := hy0.2.1.1.2.2.2.1
  have h6 := hy0.2.1.1.2.2.2.2.1
  cases hp : inP w h g with
  | false => exact c_slabA l K G L1 L2 M hy y w h g hlS hy0 hp
  | true =>
    obtain ⟨a, b, c, hb, rfl, rfl, rfl⟩ := inP_in hp
    by_cases hr : ySc y < 40
    · exact c_slabC l K G L1 L2 M hy y a b c hlS hy0 hb hr
    · exact c_slabB l K G L1 L2 M hy y a b c hlS hy0 hb hr
theorem o_flaw (l : Launch) (K : gK) (G : gW) (L1 L2 : Nat → Nat → Nat) (M : Nat → Nat) (hy : Nat) (y : YV) (x : Int32) (px : Int32) (py : Int32) (hlS : l.stackTraces = false) (hy0 : YardC K L1 L2 M hy G y) : gM l yX4_flaw wsX4_flaw 7 132 1 6 K [.ref hy, .int x, .int px, .int py] G (oPost K L1 L2 M hy G (oFlaw y x px py)) (oX K L1 L2 M hy G (oFlaw y x px py) (ex2 eIO eIS)) := by
  have h44 := hy0.2.1.1.2.2.2.1
  have h6 := hy0.2.1.1.2.2.2.2.1
  rcases inR_cases x (n := ySc y) (by omega) with ⟨hr, hn⟩ | ⟨i, hi, rfl⟩
  · exact c_flawA l K G L1 L2 M hy y x px py hlS hy0 hn hr
  · cases hp : inPt (yS y i) px py with
    | false => exact c_flawB l K G L1 L2 M hy y i px py hlS hy0 hi hp
    | true =>
      obtain ⟨a, b, ha, hb, rfl, rfl⟩ := inPt_in hp
      by_cases hc : sT (yS y i) = 0 ∧ (sL (yS y i)).length < 6
      · exact c_flawD l K G L1 L2 M hy y i a b hlS hy0 hi ⟨ha, hb⟩ hc
      · exact c_flawC l K G L1 L2 M hy y i a b hlS hy0 hi ⟨ha, hb⟩ hc
theorem o_kerf (l : Launch) (K : gK) (G : gW) (L1 L2 : Nat → Nat → Nat) (M : Nat → Nat) (hy : Nat) (y : YV) (x : Int32) (hlS : l.stackTraces = false) (hy0 : YardC K L1 L2 M hy G y) : gM l yX4_kerf wsX4_kerf 6 110 1 6 K [.ref hy, .int x] G (oPost K L1 L2 M hy G (oKerf y x)) (oX K L1 L2 M hy G (oKerf y x) (ex1 eIA)) := by
  have h44 := hy0.2.1.1.2.2.2.1
  have h6 := hy0.2.1.1.2.2.2.2.1
  cases hp : inB x 0 2 with
  | false => exact c_kerfA l K G L1 L2 M hy y x hlS hy0 hp
  | true =>
    obtain ⟨k, -, hk, -, rfl⟩ := inB_in hp
    exact c_kerfB l K G L1 L2 M hy y k hlS hy0 hk
theorem o_cut (l : Launch) (K : gK) (G : gW) (L1 L2 : Nat → Nat → Nat) (M : Nat → Nat) (hy : Nat) (y : YV) (x : Int32) (dn : Bool) (px : Int32) (hlS : l.stackTraces = false) (hy0 : YardC K L1 L2 M hy G y) : gM l yX4_cut wsX4_cut 7 132 1 6 K [.ref hy, .int x, .int (bI dn), .int px] G (oPost K L1 L2 M hy G (oCut y x dn px)) (oX K L1 L2 M hy G (oCut y x dn px) (ex3 eIO eIA eIS)) := by
  have h44 := hy0.2.1.1.2.2.2.1
  have h6 := hy0.2.1.1.2.2.2.2.1
  rcases inR_cases x (n := ySc y) (by omega) with ⟨hr, hn⟩ | ⟨i, hi, rfl⟩
  · exact c_cut1 l K G L1 L2 M hy y x dn px hlS hy0 hn hr
  · obtain ⟨P, -, -, -, s1, s2, s3, s4, -⟩ := hy0.2.1.slab hi
    have hlen : yLen (yS y i) dn ≤ 24 := by unfold yLen; split <;> assumption
    cases hc : canI (yLen (yS y i) dn) (yF y) px with
    | false => exact c_cut2 l K G L1 L2 M hy y i dn px hlS hy0 hi hc
    | true =>
      by_cases hd : sT (yS y i) = 0 ∧ ySc y ≤ 38
      · obtain ⟨n, hn, rfl, hcc⟩ := canI_in hc hlen
        exact c_cut4 l K G L1 L2 M hy y i dn n hlS hy0 hi hn hcc hd
      · exact c_cut3 l K G L1 L2 M hy y i dn px hlS hy0 hi hc hd
theorem o_toss (l : Launch) (K : gK) (G : gW) (L1 L2 : Nat → Nat → Nat) (M : Nat → Nat) (hy : Nat) (y : YV) (x : Int32) (hlS : l.stackTraces = false) (hy0 : YardC K L1 L2 M hy G y) : gM l yX4_toss wsX4_toss 7 132 1 6 K [.ref hy, .int x] G (oPost K L1 L2 M hy G (oToss y x)) (oX K L1 L2 M hy G (oToss y x) (ex2 eIO eIS)) := by
  have h44 := hy0.2.1.1.2.2.2.1
  have h6 := hy0.2.1.1.2.2.2.2.1
  rcases inR_cases x (n := ySc y) (by omega) with ⟨hr, hn⟩ | ⟨i, hi, rfl⟩
  · exact c_tossA l K G L1 L2 M hy y x hlS hy0 hn hr
  · by_cases hc : sT (yS y i) = 0
    · exact c_tossC l K G L1 L2 M hy y i hlS hy0 hi hc
    · exact c_tossB l K G L1 L2 M hy y i hlS hy0 hi hc
theorem o_ofSlab (l : Launch) (K : gK) (G : gW) (L1 L2 : Nat → Nat → Nat) (M : Nat → Nat) (hy : Nat) (y : YV) (x : Int32) (w : Int32) (hlS : l.stackTraces = false) (hy0 : YardC K L1 L2 M hy G y) : gM l yX4_ofSlab wsX4_ofSlab 7 132 1 6 K [.ref hy, .int x, .int w] G (oPost K L1 L2 M hy G (oOfSlab y x w)) (oX K L1 L2 M hy G (oOfSlab y x w) (ex2 eIO eIA)) := by
  have h44 := hy0.2.1.1.2.2.2.1
  have h6 := hy0.2.1.1.2.2.2.2.1
  rcases inR_cases x (n := ySc y) (by omega) with ⟨hr, hn⟩ | ⟨i, hi, rfl⟩
  · exact c_ofSlabA l K G L1 L2 M hy y x w hlS hy0 hn hr
  · rcases inR_cases w (n := 6) (by decide) with ⟨hw, -⟩ | ⟨j, hj, rfl⟩
    · exact c_ofSlabB l K G L1 L2 M hy y i w hlS hy0 hi hw
    · match j, hj with
      | 0, _ => exact c_ofSlab0 l K G L1 L2 M hy y i hlS hy0 hi
      | 1, _ => exact c_ofSlab1 l K G L1 L2 M hy y i hlS hy0 hi
      | 2, _ => exact c_ofSlab2 l K G L1 L2 M hy y i hlS hy0 hi
      | 3, _ => exact c_ofSlab3 l K G L1 L2 M hy y i hlS hy0 hi
      | 4, _ => exact c_ofSlab4 l K G L1 L2 M hy y i hlS hy0 hi
      | 5, _ => exact c_ofSlab5 l K G L1 L2 M hy y i hlS hy0 hi
      | k + 6, hj => exact absurd hj (by omega)
theorem o_ofKind (l : Launch) (K : gK) (G : gW) (L1 L2 : Nat → Nat → Nat) (M : Nat → Nat) (hy : Nat) (y : YV) (x : Int32) (w : Int32) (hlS : l.stackTraces = false) (hy0 : YardC K L1 L2 M hy G y) : gM l yX4_ofKind wsX4_ofKind 7 132 1 6 K [.ref hy, .int x, .int w] G (oPost K L1 L2 M hy G (oOfKind y x w)) (oX K L1 L2 M hy G (oOfKind y x w) (ex2 eIO eIA)) := by
  have h44 := hy0.2.1.1.2.2.2.1
  have h6 := hy0.2.1.1.2.2.2.2.1
  rcases inR_cases x (n := yKc y) (by omega) with ⟨hr, hn⟩ | ⟨i, hi, rfl⟩
  · exact c_ofKindA l K G L1 L2 M hy y x w hlS hy0 hn hr
  · rcases inR_cases w (n := 8) (by decide) with ⟨hw, -⟩ | ⟨j, hj, rfl⟩
    · exact c_ofKindB l K G L1 L2 M hy y i w hlS hy0 hi hw
    · match j, hj with
      | 0, _ => exact c_ofKind0 l K G L1 L2 M hy y i hlS hy0 hi
      | 1, _ => exact c_ofKind1 l K G L1 L2 M hy y i hlS hy0 hi
      | 2, _ => exact c_ofKind2 l K G L1 L2 M hy y i hlS hy0 hi
      | 3, _ => exact c_ofKind3 l K G L1 L2 M hy y i hlS hy0 hi
      | 4, _ => exact c_ofKind4 l K G L1 L2 M hy y i hlS hy0 hi
      | 5, _ => exact c_ofKind5 l K G L1 L2 M hy y i hlS hy0 hi
      | 6, _ => exact c_ofKind6 l K G L1 L2 M hy y i hlS hy0 hi
      | 7, _ => exact c_ofKind7 l K G L1 L2 M hy y i hlS hy0 hi
      | k + 8, hj => exact absurd hj (by omega)
theorem o_many (l : Launch) (K : gK) (G : gW) (L1 L2 : Nat → Nat → Nat) (M : Nat → Nat) (hy : Nat) (y : YV) (w : Int32) (hlS : l.stackTraces = false) (hy0 : YardC K L1 L2 M hy G y) : gM l yX4_many wsX4_many 6 110 1 6 K [.ref hy, .int w] G (oPost K L1 L2 M hy G (oMany y w)) (oX K L1 L2 M hy G (oMany y w) (ex1 eIA)) := by
  have h44 := hy0.2.1.1.2.2.2.1
  have h6 := hy0.2.1.1.2.2.2.2.1
  rcases inR_cases w (n := 8) (by decide) with ⟨hw, -⟩ | ⟨j, hj, rfl⟩
  · exact c_manyA l K G L1 L2 M hy y w hlS hy0 hw
  · match j, hj with
    | 0, _ => exact c_many0 l K G L1 L2 M hy y hlS hy0
    | 1, _ => exact c_many1 l K G L1 L2 M hy y hlS hy0
    | 2, _ => exact c_many2 l K G L1 L2 M hy y hlS hy0
    | 3, _ => exact c_many3 l K G L1 L2 M hy y hlS hy0
    | 4, _ => exact c_many4 l K G L1 L2 M hy y hlS hy0
    | 5, _ => exact c_many5 l K G L1 L2 M hy y hlS hy0
    | 6, _ => exact c_many6 l K G L1 L2 M hy y hlS hy0
    | 7, _ => exact c_many7 l K G L1 L2 M hy y hlS hy0
    | k + 8, hj => exact absurd hj (by omega)
theorem o_flawsAt (l : Launch) (K : gK) (G : gW) (L1 L2 : Nat → Nat → Nat) (M : Nat → Nat) (hy : Nat) (y : YV) (x : Int32) (px : Int32) (py : Int32) (hlS : l.stackTraces = false) (hy0 : YardC K L1 L2 M hy G y) : gM l yX4_flawsAt wsX4_flawsAt 7 132 1 6 K [.ref hy, .int x, .int px, .int py] G (oPost K L1 L2 M hy G (oFlawsAt y x px py)) (oX K L1 L2 M hy G (oFlawsAt y x px py) (ex1 eIO)) := by
  have h44 := hy0.2.1.1.2.2.2.1
  have h6 := hy0.2.1.1.2.2.2.2.1
  rcases inR_cases x (n := ySc y) (by omega) with ⟨hr, hn⟩ | ⟨i, hi, rfl⟩
  · exact c_flawsAtA l K G L1 L2 M hy y x px py hlS hy0 hn hr
  · cases hp : inPt (yS y i) px py with
    | false => exact c_flawsAtB l K G L1 L2 M hy y i px py hlS hy0 hi hp
    | true =>
      obtain ⟨a, b, ha, hb, rfl, rfl⟩ := inPt_in hp
      exact c_flawsAtC l K G L1 L2 M hy y i a b hlS hy0 hi ⟨ha, hb⟩
theorem o_root (l : Launch) (K : gK) (G : gW) (L1 L2 : Nat → Nat → Nat) (M : Nat → Nat) (hy : Nat) (y : YV) (x : Int32) (hlS : l.stackTraces = false) (hy0 : YardC K L1 L2 M hy G y) (hfr : yFr y) : gM l yX4_root wsX4_root 7 132 1 6 K [.ref hy, .int x] G (oPost K L1 L2 M hy G (oRoot y x)) (oX K L1 L2 M hy G (oRoot y x) (ex1 eIO)) := by
  have h44 := hy0.2.1.1.2.2.2.1
  have h6 := hy0.2.1.1.2.2.2.2.1
  rcases inR_cases x (n := ySc y) (by omega) with ⟨hr, hn⟩ | ⟨i, hi, rfl⟩
  · exact c_rootA l K G L1 L2 M hy y x hlS hy0 hn hr
  · exact c_rootB l K G L1 L2 M hy y i hlS hy0 hi hfr
theorem o_kind (l : Launch) (K : gK) (G : gW) (L1 L2 : Nat → Nat → Nat) (M : Nat → Nat) (hy : Nat) (y : YV) (a : Int32) (b : Int32) (q : Int32) (hlS : l.stackTraces = false) (hy0 : YardC K L1 L2 M hy G y) : gM l yX4_kind wsX4_kind 6 110 1 6 K [.ref hy, .int a, .int b, .int q] G (oPost K L1 L2 M hy G (oKind y a b q)) (oX K L1 L2 M hy G (oKind y a b q) (ex2 eIA eIS)) := by
  have h44 := hy0.2.1.1.2.2.2.1
  have h6 := hy0.2.1.1.2.2.2.2.1
  cases hp : (inB a 1 24 && inB b 1 24 && inB q 1 999) with
  | false => exact c_kindA l K G L1 L2 M hy y a b q hlS hy0 hp
  | true =>
    obtain ⟨h1, h2⟩ := (Bool.and_eq_true _ _).mp hp
    obtain ⟨h3, h4⟩ := (Bool.and_eq_true _ _).mp h1
    obtain ⟨a, a1, a2, -, rfl⟩ := inB_in h3
    obtain ⟨b, b1, b2, -, rfl⟩ := inB_in h4
    obtain ⟨q, q1, q2, -, rfl⟩ := inB_in h2
    by_cases hr : yKc y < 6
    · exact c_kindC l K G L1 L2 M hy y a b q hlS hy0 ⟨⟨a1, a2⟩, ⟨b1, b2⟩, q1, q2⟩ hr
    · exact c_kindB l K G L1 L2 M hy y a b q hlS hy0 ⟨⟨a1, a2⟩, ⟨b1, b2⟩, q1, q2⟩ hr
theorem o_let (l : Launch) (K : gK) (G : gW) (L1 L2 : Nat → Nat → Nat) (M : Nat → Nat) (hy : Nat) (y : YV) (x : Int32) (w : Int32) (q : Int32) (hlS : l.stackTraces = false) (hy0 : YardC K L1 L2 M hy G y) : gM l yX4_let wsX4_let 7 132 1 6 K [.ref hy, .int x, .int w, .int q] G (oPost K L1 L2 M hy G (oLet y x w q)) (oX K L1 L2 M hy G (oLet y x w q) (ex2 eIO eIA)) := by
  have h44 := hy0.2.1.1.2.2.2.1
  have h6 := hy0.2.1.1.2.2.2.2.1
  rcases inR_cases x (n := yKc y) (by omega) with ⟨hr, hn⟩ | ⟨i, hi, rfl⟩
  · exact c_letA l K G L1 L2 M hy y x w q hlS hy0 hn hr
  · cases hp : (inB w 0 2 && inB q 0 3) with
    | false => exact c_letB l K G L1 L2 M hy y i w q hlS hy0 hi hp
    | true =>
      obtain ⟨h1, h2⟩ := (Bool.and_eq_true _ _).mp hp
      obtain ⟨w, -, w2, -, rfl⟩ := inB_in h1
      obtain ⟨q, -, q2, -, rfl⟩ := inB_in h2
      exact c_letC l K G L1 L2 M hy y i w q hlS hy0 hi ⟨w2, q2⟩
theorem o_order (l : Launch) (K : gK) (G : gW) (L1 L2 : Nat → Nat → Nat) (M : Nat → Nat) (hy : Nat) (y : YV) (x : Int32) (q : Int32) (hlS : l.stackTraces = false) (hy0 : YardC K L1 L2 M hy G y) : gM l yX4_order wsX4_order 7 132 1 6 K [.ref hy, .int x, .int q] G (oPost K L1 L2 M hy G (oOrder y x q)) (oX K L1 L2 M hy G (oOrder y x q) (ex2 eIO eIA)) := by
  have h44 := hy0.2.1.1.2.2.2.1
  have h6 := hy0.2.1.1.2.2.2.2.1
  rcases inR_cases x (n := yKc y) (by omega) with ⟨hr, hn⟩ | ⟨i, hi, rfl⟩
  · exact c_orderA l K G L1 L2 M hy y x q hlS hy0 hn hr
  · cases hp : inB q 1 (20 - kN (yK y i)) with
    | false => exact c_orderB l K G L1 L2 M hy y i q hlS hy0 hi hp
    | true =>
      obtain ⟨q, q1, q2, -, rfl⟩ := inB_in hp
      exact c_orderC l K G L1 L2 M hy y i q hlS hy0 hi ⟨q1, by omega⟩
theorem o_fits (l : Launch) (K : gK) (G : gW) (L1 L2 : Nat → Nat → Nat) (M : Nat → Nat) (hy : Nat) (y : YV) (x : Int32) (k : Int32) (hlS : l.stackTraces = false) (hy0 : YardC K L1 L2 M hy G y) : gM l yX4_fits wsX4_fits 7 132 1 6 K [.ref hy, .int x, .int k] G (oPost K L1 L2 M hy G (oFits y x k)) (oX K L1 L2 M hy G (oFits y x k) (ex1 eIO)) := by
  have h44 := hy0.2.1.1.2.2.2.1
  have h6 := hy0.2.1.1.2.2.2.2.1
  rcases inR_cases x (n := ySc y) (by omega) with ⟨hr, hn⟩ | ⟨i, hi, rfl⟩
  · exact c_fitsA l K G L1 L2 M hy y x k hlS hy0 hn hr
  · rcases inR_cases k (n := yKc y) (by omega) with ⟨hr, hn⟩ | ⟨j, hj, rfl⟩
    · exact c_fitsB l K G L1 L2 M hy y i k hlS hy0 hi hn hr
    · exact c_fitsC l K G L1 L2 M hy y i j hlS hy0 hi hj
theorem o_take (l : Launch) (K : gK) (G : gW) (L1 L2 : Nat → Nat → Nat) (M : Nat → Nat) (hy : Nat) (y : YV) (x : Int32) (k : Int32) (hlS : l.stackTraces = false) (hy0 : YardC K L1 L2 M hy G y) : gM l yX4_take wsX4_take 7 145 1 6 K [.ref hy, .int x, .int k] G (oPost K L1 L2 M hy G (oTake y x k)) (oX K L1 L2 M hy G (oTake y x k) (ex2 eIO eIS)) := by
  have h44 := hy0.2.1.1.2.2.2.1
  have h6 := hy0.2.1.1.2.2.2.2.1
  rcases inR_cases x (n := ySc y) (by omega) with ⟨hr, hn⟩ | ⟨i, hi, rfl⟩
  · exact c_takeA l K G L1 L2 M hy y x k hlS hy0 hn hr
  · rcases inR_cases k (n := yKc y) (by omega) with ⟨hr, hn⟩ | ⟨j, hj, rfl⟩
    · exact c_takeB l K G L1 L2 M hy y i k hlS hy0 hi hn hr
    · cases hf : sFits (yS y i) (yK y j) with
      | none => exact c_takeC l K G L1 L2 M hy y i j hlS hy0 hi hj hf
      | some mn =>
        by_cases hr : ySc y ≤ 36
        · exact c_takeE l K G L1 L2 M hy y i j mn hlS hy0 hi hj hf hr
        · exact c_takeD l K G L1 L2 M hy y i j mn hlS hy0 hi hj hf hr
theorem o_wasteBy (l : Launch) (K : gK) (G : gW) (L1 L2 : Nat → Nat → Nat) (M : Nat → Nat) (hy : Nat) (y : YV) (x : Int32) (k : Int32) (hlS : l.stackTraces = false) (hy0 : YardC K L1 L2 M hy G y) : gM l yX4_wasteBy wsX4_wasteBy 7 145 1 6 K [.ref hy, .int x, .int k] G (oPost K L1 L2 M hy G (oWasteBy y x k)) (oX K L1 L2 M hy G (oWasteBy y x k) (ex1 eIO)) := by
  have h44 := hy0.2.1.1.2.2.2.1
  have h6 := hy0.2.1.1.2.2.2.2.1
  rcases inR_cases x (n := ySc y) (by omega) with ⟨hr, hn⟩ | ⟨i, hi, rfl⟩
  · exact c_wasteByA l K G L1 L2 M hy y x k hlS hy0 hn hr
  · rcases inR_cases k (n := yKc y) (by omega) with ⟨hr, hn⟩ | ⟨j, hj, rfl⟩
    · exact c_wasteByB l K G L1 L2 M hy y i k hlS hy0 hi hn hr
    · cases hf : sFits (yS y i) (yK y j) with
      | none => exact c_wasteByC l K G L1 L2 M hy y i j hlS hy0 hi hj hf
      | some mn => exact c_wasteByD l K G L1 L2 M hy y i j mn hlS hy0 hi hj hf
theorem o_plan (l : Launch) (K : gK) (G : gW) (L1 L2 : Nat → Nat → Nat) (M : Nat → Nat) (hy : Nat) (y : YV) (x : Int32) (hlS : l.stackTraces = false) (hy0 : YardC K L1 L2 M hy G y) : gM l yX4_plan wsX4_plan 7 169 1 6 K [.ref hy, .int x] G (oPost K L1 L2 M hy G (oPlan y x)) (oX K L1 L2 M hy G (oPlan y x) (ex1 eIA)) := by
  have h44 := hy0.2.1.1.2.2.2.1
  have h6 := hy0.2.1.1.2.2.2.2.1
  cases hp : inB x 1 20 with
  | false => exact c_planA l K G L1 L2 M hy y x hlS hy0 hp
  | true =>
    obtain ⟨n, n1, n2, -, rfl⟩ := inB_in hp
    exact c_planB l K G L1 L2 M hy y n hlS hy0 ⟨n1, n2⟩
theorem o_pays (l : Launch) (K : gK) (G : gW) (L1 L2 : Nat → Nat → Nat) (M : Nat → Nat) (hy : Nat) (y : YV) (x : Int32) (hlS : l.stackTraces = false) (hy0 : YardC K L1 L2 M hy G y) : gM l yX4_planPays wsX4_planPays 7 169 1 6 K [.ref hy, .int x] G (oPost K L1 L2 M hy G (oPays y x)) (oX K L1 L2 M hy G (oPays y x) (ex1 eIA)) := by
  have h44 := hy0.2.1.1.2.2.2.1
  have h6 := hy0.2.1.1.2.2.2.2.1
  cases hp : inB x 1 20 with
  | false => exact c_paysA l K G L1 L2 M hy y x hlS hy0 hp
  | true =>
    obtain ⟨n, n1, n2, -, rfl⟩ := inB_in hp
    exact c_paysB l K G L1 L2 M hy y n hlS hy0 ⟨n1, n2⟩
theorem o_worth (l : Launch) (K : gK) (G : gW) (L1 L2 : Nat → Nat → Nat) (M : Nat → Nat) (hy : Nat) (y : YV) (w : Int32) (h : Int32) (g : Int32) (hlS : l.stackTraces = false) (hy0 : YardC K L1 L2 M hy G y) : gM l yX4_worth wsX4_worth 7 144 1 6 K [.ref hy, .int w, .int h, .int g] G (oPost K L1 L2 M hy G (oWorth y w h g)) (oX K L1 L2 M hy G (oWorth y w h g) (ex1 eIA)) := by
  have h44 := hy0.2.1.1.2.2.2.1
  have h6 := hy0.2.1.1.2.2.2.2.1
  cases hp : inP w h g with
  | false => exact c_worthA l K G L1 L2 M hy y w h g hlS hy0 hp
  | true =>
    obtain ⟨a, b, c, hb, rfl, rfl, rfl⟩ := inP_in hp
    exact c_worthB l K G L1 L2 M hy y a b c hlS hy0 hb
theorem o_best (l : Launch) (K : gK) (G : gW) (L1 L2 : Nat → Nat → Nat) (M : Nat → Nat) (hy : Nat) (y : YV) (w : Int32) (h : Int32) (g : Int32) (hlS : l.stackTraces = false) (hy0 : YardC K L1 L2 M hy G y) : gM l yX4_bestCut wsX4_bestCut 7 144 1 6 K [.ref hy, .int w, .int h, .int g] G (oPost K L1 L2 M hy G (oBest y w h g)) (oX K L1 L2 M hy G (oBest y w h g) (ex1 eIA)) := by
  have h44 := hy0.2.1.1.2.2.2.1
  have h6 := hy0.2.1.1.2.2.2.2.1
  cases hp : inP w h g with
  | false => exact c_bestA l K G L1 L2 M hy y w h g hlS hy0 hp
  | true =>
    obtain ⟨a, b, c, hb, rfl, rfl, rfl⟩ := inP_in hp
    exact c_bestB l K G L1 L2 M hy y a b c hlS hy0 hb
theorem o_column (l : Launch) (K : gK) (G : gW) (L1 L2 : Nat → Nat → Nat) (M : Nat → Nat) (hy : Nat) (y : YV) (w : Int32) (h : Int32) (g : Int32) (x : Int32) (hlS : l.stackTraces = false) (hy0 : YardC K L1 L2 M hy G y) : gM l yX4_column wsX4_column 7 144 1 6 K [.ref hy, .int w, .int h, .int g, .int x] G (oPost K L1 L2 M hy G (oColumn y w h g x)) (oX K L1 L2 M hy G (oColumn y w h g x) (ex2 eIO eIA)) := by
  have h44 := hy0.2.1.1.2.2.2.1
  have h6 := hy0.2.1.1.2.2.2.2.1
  rcases inR_cases x (n := yKc y) (by omega) with ⟨hr, hn⟩ | ⟨i, hi, rfl⟩
  · exact c_columnA l K G L1 L2 M hy y w h g x hlS hy0 hn hr
  · cases hp : inP w h g with
    | false => exact c_columnB l K G L1 L2 M hy y w h g i hlS hy0 hi hp
    | true =>
      obtain ⟨a, b, c, hb, rfl, rfl, rfl⟩ := inP_in hp
      exact c_columnC l K G L1 L2 M hy y a b c i hlS hy0 hi hb
theorem o_more (l : Launch) (K : gK) (G : gW) (L1 L2 : Nat → Nat → Nat) (M : Nat → Nat) (hy : Nat) (y : YV) (x : Int32) (q : Int32) (hlS : l.stackTraces = false) (hy0 : YardC K L1 L2 M hy G y) : gM l yX4_worthMore wsX4_worthMore 7 169 1 6 K [.ref hy, .int x, .int q] G (oPost K L1 L2 M hy G (oMore y x q)) (oX K L1 L2 M hy G (oMore y x q) (ex2 eIO eIA)) := by
  have h44 := hy0.2.1.1.2.2.2.1
  have h6 := hy0.2.1.1.2.2.2.2.1
  rcases inR_cases x (n := yKc y) (by omega) with ⟨hr, hn⟩ | ⟨i, hi, rfl⟩
  · exact c_moreA l K G L1 L2 M hy y x q hlS hy0 hn hr
  · cases hp : inB q 1 999 with
    | false => exact c_moreB l K G L1 L2 M hy y i q hlS hy0 hi hp
    | true =>
      obtain ⟨q, q1, q2, -, rfl⟩ := inB_in hp
      exact c_moreC l K G L1 L2 M hy y i q hlS hy0 hi ⟨q1, q2⟩
