/-! the model's calls, each over all its cases -/
theorem p_slab (l : Launch) (K : gK) (G : gW) (L : Nat → Nat → Nat) (h0 th : Nat) (y : YV) (N : Nat) (w : Int32) (h : Int32) (g : Int32) (hM : MdC K L h0 th G y N) : gM l yX8_slab wsX8_slab 8 171 3 69 K [.ref h0, .int w, .int h, .int g] G (mPost K h0 G (oSlab y w h g)) gNo := by
  have h44 := hM.2.1.1.2.2.1
  have h6 := hM.2.1.1.2.2.2
  cases hp : inP w h g with
  | false => exact m_slabA l K G L h0 th y N w h g hM hp
  | true =>
    obtain ⟨a, b, c, hb, rfl, rfl, rfl⟩ := inP_in hp
    by_cases hr : ySc y < 40
    · exact m_slabC l K G L h0 th y N a b c hM hb hr
    · exact m_slabB l K G L h0 th y N a b c hM hb hr
theorem p_flaw (l : Launch) (K : gK) (G : gW) (L : Nat → Nat → Nat) (h0 th : Nat) (y : YV) (N : Nat) (x : Int32) (px : Int32) (py : Int32) (hM : MdC K L h0 th G y N) : gM l yX8_flaw wsX8_flaw 8 171 2 12 K [.ref h0, .int x, .int px, .int py] G (mPost K h0 G (oFlaw y x px py)) gNo := by
  have h44 := hM.2.1.1.2.2.1
  have h6 := hM.2.1.1.2.2.2
  rcases inR_cases x (n := ySc y) (by omega) with ⟨hr, hn⟩ | ⟨i, hi, rfl⟩
  · exact m_flawA l K G L h0 th y N x px py hM hn hr
  · cases hp : inPt (yS y i) px py with
    | false => exact m_flawB l K G L h0 th y N i px py hM hi hp
    | true =>
      obtain ⟨a, b, ha, hb, rfl, rfl⟩ := inPt_in hp
      by_cases hc : sT (yS y i) = 0 ∧ (sL (yS y i)).length < 6
      · exact m_flawD l K G L h0 th y N i a b hM hi ⟨ha, hb⟩ hc
      · exact m_flawC l K G L h0 th y N i a b hM hi ⟨ha, hb⟩ hc
theorem p_kerf (l : Launch) (K : gK) (G : gW) (L : Nat → Nat → Nat) (h0 th : Nat) (y : YV) (N : Nat) (x : Int32) (hM : MdC K L h0 th G y N) : gM l yX8_kerf wsX8_kerf 4 84 0 0 K [.ref h0, .int x] G (mPost K h0 G (oKerf y x)) gNo := by
  have h44 := hM.2.1.1.2.2.1
  have h6 := hM.2.1.1.2.2.2
  cases hp : inB x 0 2 with
  | false => exact m_kerfA l K G L h0 th y N x hM hp
  | true =>
    obtain ⟨k, -, hk, -, rfl⟩ := inB_in hp
    exact m_kerfB l K G L h0 th y N k hM hk
theorem p_cut (l : Launch) (K : gK) (G : gW) (L : Nat → Nat → Nat) (h0 th : Nat) (y : YV) (N : Nat) (x : Int32) (dn : Bool) (px : Int32) (hM : MdC K L h0 th G y N) : gM l yX8_cut wsX8_cut 9 201 24 270 K [.ref h0, .int x, .int (bI dn), .int px] G (mPost K h0 G (oCut y x dn px)) gNo := by
  have h44 := hM.2.1.1.2.2.1
  have h6 := hM.2.1.1.2.2.2
  rcases inR_cases x (n := ySc y) (by omega) with ⟨hr, hn⟩ | ⟨i, hi, rfl⟩
  · exact m_cut1 l K G L h0 th y N x dn px hM hn hr
  · obtain ⟨-, -, s1, s2, s3, s4, -⟩ := hM.2.1.2.2.2.1 i hi
    have hlen : yLen (yS y i) dn ≤ 24 := by unfold yLen; split <;> assumption
    cases hc : canI (yLen (yS y i) dn) (yF y) px with
    | false => exact m_cut2 l K G L h0 th y N i dn px hM hi hc
    | true =>
      by_cases hd : sT (yS y i) = 0 ∧ ySc y ≤ 38
      · obtain ⟨n, hn, rfl, hcc⟩ := canI_in hc hlen
        exact m_cut4 l K G L h0 th y N i dn n hM hi hn hcc hd
      · exact m_cut3 l K G L h0 th y N i dn px hM hi hc hd
theorem p_toss (l : Launch) (K : gK) (G : gW) (L : Nat → Nat → Nat) (h0 th : Nat) (y : YV) (N : Nat) (x : Int32) (hM : MdC K L h0 th G y N) : gM l yX8_toss wsX8_toss 6 125 0 0 K [.ref h0, .int x] G (mPost K h0 G (oToss y x)) gNo := by
  have h44 := hM.2.1.1.2.2.1
  have h6 := hM.2.1.1.2.2.2
  rcases inR_cases x (n := ySc y) (by omega) with ⟨hr, hn⟩ | ⟨i, hi, rfl⟩
  · exact m_tossA l K G L h0 th y N x hM hn hr
  · by_cases hc : sT (yS y i) = 0
    · exact m_tossC l K G L h0 th y N i hM hi hc
    · exact m_tossB l K G L h0 th y N i hM hi hc
theorem p_ofSlab (l : Launch) (K : gK) (G : gW) (L : Nat → Nat → Nat) (h0 th : Nat) (y : YV) (N : Nat) (x : Int32) (w : Int32) (hM : MdC K L h0 th G y N) : gM l yX8_ofSlab wsX8_ofSlab 6 125 1 6 K [.ref h0, .int x, .int w] G (mPost K h0 G (oOfSlab y x w)) gNo := by
  have h44 := hM.2.1.1.2.2.1
  have h6 := hM.2.1.1.2.2.2
  rcases inR_cases x (n := ySc y) (by omega) with ⟨hr, hn⟩ | ⟨i, hi, rfl⟩
  · exact m_ofSlabA l K G L h0 th y N x w hM hn hr
  · rcases inR_cases w (n := 6) (by decide) with ⟨hw, -⟩ | ⟨j, hj, rfl⟩
    · exact m_ofSlabB l K G L h0 th y N i w hM hi hw
    · exact m_ofSlabC l K G L h0 th y N i j hM hi hj
theorem p_ofKind (l : Launch) (K : gK) (G : gW) (L : Nat → Nat → Nat) (h0 th : Nat) (y : YV) (N : Nat) (x : Int32) (w : Int32) (hM : MdC K L h0 th G y N) : gM l yX8_ofKind wsX8_ofKind 5 105 1 8 K [.ref h0, .int x, .int w] G (mPost K h0 G (oOfKind y x w)) gNo := by
  have h44 := hM.2.1.1.2.2.1
  have h6 := hM.2.1.1.2.2.2
  rcases inR_cases x (n := yKc y) (by omega) with ⟨hr, hn⟩ | ⟨i, hi, rfl⟩
  · exact m_ofKindA l K G L h0 th y N x w hM hn hr
  · rcases inR_cases w (n := 8) (by decide) with ⟨hw, -⟩ | ⟨j, hj, rfl⟩
    · exact m_ofKindB l K G L h0 th y N i w hM hi hw
    · exact m_ofKindC l K G L h0 th y N i j hM hi hj
theorem p_many (l : Launch) (K : gK) (G : gW) (L : Nat → Nat → Nat) (h0 th : Nat) (y : YV) (N : Nat) (w : Int32) (hM : MdC K L h0 th G y N) : gM l yX8_many wsX8_many 8 172 1 8 K [.ref h0, .int w] G (mPost K h0 G (oMany y w)) gNo := by
  have h44 := hM.2.1.1.2.2.1
  have h6 := hM.2.1.1.2.2.2
  rcases inR_cases w (n := 8) (by decide) with ⟨hw, -⟩ | ⟨j, hj, rfl⟩
  · exact m_manyA l K G L h0 th y N w hM hw
  · exact m_manyC l K G L h0 th y N j hM hj
theorem p_flawsAt (l : Launch) (K : gK) (G : gW) (L : Nat → Nat → Nat) (h0 th : Nat) (y : YV) (N : Nat) (x : Int32) (px : Int32) (py : Int32) (hM : MdC K L h0 th G y N) : gM l yX8_flawsAt wsX8_flawsAt 7 148 0 0 K [.ref h0, .int x, .int px, .int py] G (mPost K h0 G (oFlawsAt y x px py)) gNo := by
  have h44 := hM.2.1.1.2.2.1
  have h6 := hM.2.1.1.2.2.2
  rcases inR_cases x (n := ySc y) (by omega) with ⟨hr, hn⟩ | ⟨i, hi, rfl⟩
  · exact m_flawsAtA l K G L h0 th y N x px py hM hn hr
  · cases hp : inPt (yS y i) px py with
    | false => exact m_flawsAtB l K G L h0 th y N i px py hM hi hp
    | true =>
      obtain ⟨a, b, ha, hb, rfl, rfl⟩ := inPt_in hp
      exact m_flawsAtC l K G L h0 th y N i a b hM hi ⟨ha, hb⟩
theorem p_root (l : Launch) (K : gK) (G : gW) (L : Nat → Nat → Nat) (h0 th : Nat) (y : YV) (N : Nat) (x : Int32) (hM : MdC K L h0 th G y N) (hfr : yFr y) : gM l yX8_root wsX8_root 6 125 0 0 K [.ref h0, .int x] G (mPost K h0 G (oRoot y x)) gNo := by
  have h44 := hM.2.1.1.2.2.1
  have h6 := hM.2.1.1.2.2.2
  rcases inR_cases x (n := ySc y) (by omega) with ⟨hr, hn⟩ | ⟨i, hi, rfl⟩
  · exact m_rootA l K G L h0 th y N x hM hn hr
  · exact m_rootB l K G L h0 th y N i hM hi hfr
theorem p_kind (l : Launch) (K : gK) (G : gW) (L : Nat → Nat → Nat) (h0 th : Nat) (y : YV) (N : Nat) (a : Int32) (b : Int32) (q : Int32) (hM : MdC K L h0 th G y N) : gM l yX8_kind wsX8_kind 8 171 2 18 K [.ref h0, .int a, .int b, .int q] G (mPost K h0 G (oKind y a b q)) gNo := by
  have h44 := hM.2.1.1.2.2.1
  have h6 := hM.2.1.1.2.2.2
  cases hp : (inB a 1 24 && inB b 1 24 && inB q 1 999) with
  | false => exact m_kindA l K G L h0 th y N a b q hM hp
  | true =>
    obtain ⟨h1, h2⟩ := (Bool.and_eq_true _ _).mp hp
    obtain ⟨h3, h4⟩ := (Bool.and_eq_true _ _).mp h1
    obtain ⟨a, a1, a2, -, rfl⟩ := inB_in h3
    obtain ⟨b, b1, b2, -, rfl⟩ := inB_in h4
    obtain ⟨q, q1, q2, -, rfl⟩ := inB_in h2
    by_cases hr : yKc y < 6
    · exact m_kindC l K G L h0 th y N a b q hM ⟨⟨a1, a2⟩, ⟨b1, b2⟩, q1, q2⟩ hr
    · exact m_kindB l K G L h0 th y N a b q hM ⟨⟨a1, a2⟩, ⟨b1, b2⟩, q1, q2⟩ hr
theorem p_let (l : Launch) (K : gK) (G : gW) (L : Nat → Nat → Nat) (h0 th : Nat) (y : YV) (N : Nat) (x : Int32) (w : Int32) (q : Int32) (hM : MdC K L h0 th G y N) : gM l yX8_let wsX8_let 5 105 0 0 K [.ref h0, .int x, .int w, .int q] G (mPost K h0 G (oLet y x w q)) gNo := by
  have h44 := hM.2.1.1.2.2.1
  have h6 := hM.2.1.1.2.2.2
  rcases inR_cases x (n := yKc y) (by omega) with ⟨hr, hn⟩ | ⟨i, hi, rfl⟩
  · exact m_letA l K G L h0 th y N x w q hM hn hr
  · cases hp : (inB w 0 2 && inB q 0 3) with
    | false => exact m_letB l K G L h0 th y N i w q hM hi hp
    | true =>
      obtain ⟨h1, h2⟩ := (Bool.and_eq_true _ _).mp hp
      obtain ⟨w, -, w2, -, rfl⟩ := inB_in h1
      obtain ⟨q, -, q2, -, rfl⟩ := inB_in h2
      exact m_letC l K G L h0 th y N i w q hM hi ⟨w2, q2⟩
theorem p_order (l : Launch) (K : gK) (G : gW) (L : Nat → Nat → Nat) (h0 th : Nat) (y : YV) (N : Nat) (x : Int32) (q : Int32) (hM : MdC K L h0 th G y N) : gM l yX8_order wsX8_order 5 105 0 0 K [.ref h0, .int x, .int q] G (mPost K h0 G (oOrder y x q)) gNo := by
  have h44 := hM.2.1.1.2.2.1
  have h6 := hM.2.1.1.2.2.2
  rcases inR_cases x (n := yKc y) (by omega) with ⟨hr, hn⟩ | ⟨i, hi, rfl⟩
  · exact m_orderA l K G L h0 th y N x q hM hn hr
  · cases hp : inB q 1 (20 - kN (yK y i)) with
    | false => exact m_orderB l K G L h0 th y N i q hM hi hp
    | true =>
      obtain ⟨q, q1, q2, -, rfl⟩ := inB_in hp
      exact m_orderC l K G L h0 th y N i q hM hi ⟨q1, by omega⟩
theorem p_fits (l : Launch) (K : gK) (G : gW) (L : Nat → Nat → Nat) (h0 th : Nat) (y : YV) (N : Nat) (x : Int32) (k : Int32) (hM : MdC K L h0 th G y N) : gM l yX8_fits wsX8_fits 7 150 0 0 K [.ref h0, .int x, .int k] G (mPost K h0 G (oFits y x k)) gNo := by
  have h44 := hM.2.1.1.2.2.1
  have h6 := hM.2.1.1.2.2.2
  rcases inR_cases x (n := ySc y) (by omega) with ⟨hr, hn⟩ | ⟨i, hi, rfl⟩
  · exact m_fitsA l K G L h0 th y N x k hM hn hr
  · rcases inR_cases k (n := yKc y) (by omega) with ⟨hr, hn⟩ | ⟨j, hj, rfl⟩
    · exact m_fitsB l K G L h0 th y N i k hM hi hn hr
    · exact m_fitsC l K G L h0 th y N i j hM hi hj
theorem p_take (l : Launch) (K : gK) (G : gW) (L : Nat → Nat → Nat) (h0 th : Nat) (y : YV) (N : Nat) (x : Int32) (k : Int32) (hM : MdC K L h0 th G y N) : gM l yX8_take wsX8_take 10 228 48 540 K [.ref h0, .int x, .int k] G (mPost K h0 G (oTake y x k)) gNo := by
  have h44 := hM.2.1.1.2.2.1
  have h6 := hM.2.1.1.2.2.2
  rcases inR_cases x (n := ySc y) (by omega) with ⟨hr, hn⟩ | ⟨i, hi, rfl⟩
  · exact m_takeA l K G L h0 th y N x k hM hn hr
  · rcases inR_cases k (n := yKc y) (by omega) with ⟨hr, hn⟩ | ⟨j, hj, rfl⟩
    · exact m_takeB l K G L h0 th y N i k hM hi hn hr
    · cases hf : sFits (yS y i) (yK y j) with
      | none => exact m_takeC l K G L h0 th y N i j hM hi hj hf
      | some mn =>
        by_cases hr : ySc y ≤ 36
        · exact m_takeE l K G L h0 th y N i j mn hM hi hj hf hr
        · exact m_takeD l K G L h0 th y N i j mn hM hi hj hf hr
theorem p_wasteBy (l : Launch) (K : gK) (G : gW) (L : Nat → Nat → Nat) (h0 th : Nat) (y : YV) (N : Nat) (x : Int32) (k : Int32) (hM : MdC K L h0 th G y N) : gM l yX8_wasteBy wsX8_wasteBy 10 228 283 4573 K [.ref h0, .int x, .int k] G (mPost K h0 G (oWasteBy y x k)) gNo := by
  have h44 := hM.2.1.1.2.2.1
  have h6 := hM.2.1.1.2.2.2
  rcases inR_cases x (n := ySc y) (by omega) with ⟨hr, hn⟩ | ⟨i, hi, rfl⟩
  · exact m_wasteByA l K G L h0 th y N x k hM hn hr
  · rcases inR_cases k (n := yKc y) (by omega) with ⟨hr, hn⟩ | ⟨j, hj, rfl⟩
    · exact m_wasteByB l K G L h0 th y N i k hM hi hn hr
    · cases hf : sFits (yS y i) (yK y j) with
      | none => exact m_wasteByC l K G L h0 th y N i j hM hi hj hf
      | some mn => exact m_wasteByD l K G L h0 th y N i j mn hM hi hj hf
theorem p_plan (l : Launch) (K : gK) (G : gW) (L : Nat → Nat → Nat) (h0 th : Nat) (y : YV) (N : Nat) (x : Int32) (hM : MdC K L h0 th G y N) : gM l yX8_plan wsX8_plan 12 274 480 5400 K [.ref h0, .int x] G (mPost K h0 G (oPlan y x)) gNo := by
  have h44 := hM.2.1.1.2.2.1
  have h6 := hM.2.1.1.2.2.2
  cases hp : inB x 1 20 with
  | false => exact m_planA l K G L h0 th y N x hM hp
  | true =>
    obtain ⟨n, n1, n2, -, rfl⟩ := inB_in hp
    exact m_planB l K G L h0 th y N n hM ⟨n1, n2⟩
theorem p_pays (l : Launch) (K : gK) (G : gW) (L : Nat → Nat → Nat) (h0 th : Nat) (y : YV) (N : Nat) (x : Int32) (hM : MdC K L h0 th G y N) : gM l yX8_planPays wsX8_planPays 13 296 715 9433 K [.ref h0, .int x] G (mPost K h0 G (oPays y x)) gNo := by
  have h44 := hM.2.1.1.2.2.1
  have h6 := hM.2.1.1.2.2.2
  cases hp : inB x 1 20 with
  | false => exact m_paysA l K G L h0 th y N x hM hp
  | true =>
    obtain ⟨n, n1, n2, -, rfl⟩ := inB_in hp
    exact m_paysB l K G L h0 th y N n hM ⟨n1, n2⟩
theorem p_worth (l : Launch) (K : gK) (G : gW) (L : Nat → Nat → Nat) (h0 th : Nat) (y : YV) (N : Nat) (w : Int32) (h : Int32) (g : Int32) (hM : MdC K L h0 th G y N) : gM l yX8_worth wsX8_worth 7 160 26 650 K [.ref h0, .int w, .int h, .int g] G (mPost K h0 G (oWorth y w h g)) gNo := by
  have h44 := hM.2.1.1.2.2.1
  have h6 := hM.2.1.1.2.2.2
  cases hp : inP w h g with
  | false => exact m_worthA l K G L h0 th y N w h g hM hp
  | true =>
    obtain ⟨a, b, c, hb, rfl, rfl, rfl⟩ := inP_in hp
    exact m_worthB l K G L h0 th y N a b c hM hb
theorem p_best (l : Launch) (K : gK) (G : gW) (L : Nat → Nat → Nat) (h0 th : Nat) (y : YV) (N : Nat) (w : Int32) (h : Int32) (g : Int32) (hM : MdC K L h0 th G y N) : gM l yX8_bestCut wsX8_bestCut 7 160 26 650 K [.ref h0, .int w, .int h, .int g] G (mPost K h0 G (oBest y w h g)) gNo := by
  have h44 := hM.2.1.1.2.2.1
  have h6 := hM.2.1.1.2.2.2
  cases hp : inP w h g with
  | false => exact m_bestA l K G L h0 th y N w h g hM hp
  | true =>
    obtain ⟨a, b, c, hb, rfl, rfl, rfl⟩ := inP_in hp
    exact m_bestB l K G L h0 th y N a b c hM hb
theorem p_column (l : Launch) (K : gK) (G : gW) (L : Nat → Nat → Nat) (h0 th : Nat) (y : YV) (N : Nat) (w : Int32) (h : Int32) (g : Int32) (x : Int32) (hM : MdC K L h0 th G y N) : gM l yX8_column wsX8_column 59 1623 26 650 K [.ref h0, .int w, .int h, .int g, .int x] G (mPost K h0 G (oColumn y w h g x)) gNo := by
  have h44 := hM.2.1.1.2.2.1
  have h6 := hM.2.1.1.2.2.2
  rcases inR_cases x (n := yKc y) (by omega) with ⟨hr, hn⟩ | ⟨i, hi, rfl⟩
  · exact m_columnA l K G L h0 th y N w h g x hM hn hr
  · cases hp : inP w h g with
    | false => exact m_columnB l K G L h0 th y N w h g i hM hi hp
    | true =>
      obtain ⟨a, b, c, hb, rfl, rfl, rfl⟩ := inP_in hp
      exact m_columnC l K G L h0 th y N a b c i hM hi hb
theorem p_more (l : Launch) (K : gK) (G : gW) (L : Nat → Nat → Nat) (h0 th : Nat) (y : YV) (N : Nat) (x : Int32) (q : Int32) (hM : MdC K L h0 th G y N) : gM l yX8_worthMore wsX8_worthMore 9 193 341 6637 K [.ref h0, .int x, .int q] G (mPost K h0 G (oMore y x q)) gNo := by
  have h44 := hM.2.1.1.2.2.1
  have h6 := hM.2.1.1.2.2.2
  rcases inR_cases x (n := yKc y) (by omega) with ⟨hr, hn⟩ | ⟨i, hi, rfl⟩
  · exact m_moreA l K G L h0 th y N x q hM hn hr
  · cases hp : inB q 1 999 with
    | false => exact m_moreB l K G L h0 th y N i q hM hi hp
    | true =>
      obtain ⟨q, q1, q2, -, rfl⟩ := inB_in hp
      exact m_moreC l K G L h0 th y N i q hM hi ⟨q1, q2⟩
