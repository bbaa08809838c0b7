section PZ
theorem pv_ret {σ : zz_S} (hI : iv_ σ) {i n c : Int} (hi : 1 ≤ i ∧ i ≤ σ 4 0) (hn : 0 ≤ n ∧ n ≤ 9) (hc : 0 ≤ c ∧ c ≤ σ 28 0) : iv_ (s_ret σ i n c) := by
  have h1 : iv_ (up_a σ 16 i n) := pv_16 hI hi hn
  exact pv_17 h1 hi hc
/-- an item that isn't on a tray goes out by hand -/
theorem pv_man {σ : zz_S} (hI : iv_ σ) {i : Int} (hi : 1 ≤ i ∧ i ≤ σ 4 0) (h : σ 13 i = 3 ∨ σ 13 i = 5) : iv_ (up_a σ 13 i 2) := by
  obtain ⟨hw, j11, j12, j13, j14, j15, j16, j17, j18, j19, j20, j21, j22, j23, j24⟩ := hI
  have e13 : ∀ t, up_a σ 13 i 2 13 t = if t = i then 2 else σ 13 t := fun _ => rfl
  refine ⟨hw, j11, j12, ?_, ?_, j15, ?_, j17, j18, j19, j20, j21, j22, j23, j24⟩
  · intro x h1 h2
    obtain ⟨a1, a2, a3, a4, a5, a6, a7, a8, a9, a10, a11, a12, a13, a14⟩ := j13 x h1 h2
    have b := e13 x
    by_cases q : x = i
    · rw [if_pos q] at b
      rw [q] at a13
      refine ⟨a1, by omega, a3, a4, a5, a6, a7, a8, a9, a10, a11, a12, ?_, by omega⟩
      rw [b]
      show (2 : Int) = 1 ↔ σ 18 x ≠ -1
      rw [q]
      omega
    · rw [if_neg q] at b
      refine ⟨a1, by omega, a3, a4, a5, a6, a7, a8, a9, a10, a11, a12, ?_, ?_⟩
      · rw [b]; exact a13
      · rw [b]; exact a14
  · intro j h1 h2
    obtain ⟨a1, a2, a3, a4, a5, a6⟩ := j14 j h1 h2
    refine ⟨a1, a2, ?_, a4, a5, a6⟩
    have b := e13 (σ 23 j)
    show 2 ≤ up_a σ 13 i 2 13 (σ 23 j)
    rw [b]
    split
    · exact Int.le_refl _
    · exact a3
  · intro x h1
    obtain ⟨a1, a2⟩ := j16 x h1
    have b := e13 x
    have h1 : σ 4 0 < x := h1
    rw [if_neg (show x ≠ i by omega)] at b
    exact ⟨by rw [b]; exact a1, a2⟩
/-- a new item -/
theorem pv_item {σ : zz_S} (hI : iv_ σ) {x : Int} (hx : 1 ≤ x ∧ x ≤ 100) (h4 : σ 4 0 < 60) : iv_ (s_item σ x) := by
  obtain ⟨⟨j1, j2, j3, j4, j5, j6, j7, j8, j9, j10⟩, j11, j12, j13, j14, j15, j16, j17, j18, j19, j20, j21, j22, j23, j24⟩ := hI
  have e12 : ∀ t, s_item σ x 12 t = if t = σ 4 0 + 1 then x else σ 12 t := fun _ => rfl
  have nw := j16 (σ 4 0 + 1) (by omega)
  refine ⟨⟨j1, j2, j3, j4, (show 0 ≤ σ 4 0 + 1 ∧ σ 4 0 + 1 ≤ 60 by omega), j6, j7, j8, j9, j10⟩, ?_, j12, ?_, ?_, ?_, ?_, j17, j18, j19, ?_, j21, ?_, ?_, j24⟩
  · intro t
    have a := j11 t
    exact ⟨a.1, (show σ 10 t ≤ σ 4 0 + 1 by omega), a.2.2⟩
  · intro i h1 h2
    have h2 : i ≤ σ 4 0 + 1 := h2
    have b := e12 i
    by_cases q : i = σ 4 0 + 1
    · rw [if_pos q] at b
      rw [← q] at nw
      exact ⟨by omega, (show 0 ≤ σ 13 i ∧ σ 13 i ≤ 5 by omega), (show 0 ≤ σ 14 i ∧ σ 14 i ≤ σ 28 0 by omega), (show 0 ≤ σ 15 i ∧ σ 15 i ≤ 10 by omega), (show 0 ≤ σ 16 i ∧ σ 16 i ≤ 9 by omega), (show 0 ≤ σ 17 i ∧ σ 17 i ≤ σ 28 0 by omega), (show -1 ≤ σ 18 i ∧ σ 18 i < σ 0 0 by omega), Or.inl nw.2.2.2.2.2.2.1, Or.inl nw.2.2.2.2.2.2.2.1, (show -2 ≤ σ 21 i ∧ σ 21 i ≤ 6 by omega), (show 0 ≤ σ 22 i ∧ σ 22 i ≤ 100000000 by omega), (fun h => absurd nw.2.2.2.2.2.1 h), (show σ 13 i = 1 ↔ σ 18 i ≠ -1 by omega), (show σ 13 i ≤ 1 → σ 15 i ≤ σ 1 0 by omega)⟩
    · rw [if_neg q] at b
      obtain ⟨a1, a2⟩ := j13 i h1 (by omega)
      exact ⟨by omega, a2⟩
  · intro j h1 h2
    obtain ⟨a1, a2, a3⟩ := j14 j h1 h2
    exact ⟨a1, (show σ 23 j ≤ σ 4 0 + 1 by omega), a3⟩
  · intro j h1 h2
    obtain ⟨a1, a2, a3⟩ := j15 j h1 h2
    exact ⟨a1, (show σ 27 j ≤ σ 4 0 + 1 by omega), a3⟩
  · intro i h
    have h : σ 4 0 + 1 < i := h
    exact j16 i (by omega)
  · intro i h1 h2
    have h2 : i ≤ σ 4 0 + 1 := h2
    by_cases q : i = σ 4 0 + 1
    · rw [← q] at nw
      have n19 := nw.2.2.2.2.2.2.1
      constructor
      · intro h
        have h : σ 19 i = 1 := h
        omega
      · rintro ⟨k, k1, k2, k3⟩
        have k3 : σ 27 k = i := k3
        have := j23 k
        omega
    · exact j20 i h1 (by omega)
  · intro j
    have a := j22 j
    exact ⟨a.1, (show σ 23 j ≤ σ 4 0 + 1 by omega)⟩
  · intro j
    have a := j23 j
    exact ⟨a.1, (show σ 27 j ≤ σ 4 0 + 1 by omega)⟩
/-- a NEW item comes onto an empty tray -/
theorem pv_ind {σ : zz_S} (hI : iv_ σ) {i t c : Int} (hi : 1 ≤ i ∧ i ≤ σ 4 0) (h13 : σ 13 i = 0) (ht : 0 ≤ t ∧ t < σ 0 0) (h10 : σ 10 t = 0) (hc : 0 ≤ c ∧ c ≤ σ 28 0) : iv_ (sp_pu (up_a σ 14 i c) i t) := by
  have hq : iv_ (up_a σ 14 i c) := pv_14 hI hi hc
  obtain ⟨τ, hτ⟩ : ∃ τ, τ = up_a σ 14 i c := ⟨_, rfl⟩
  have k13 : τ 13 i = 0 := by rw [hτ]; exact h13
  have k10 : τ 10 t = 0 := by rw [hτ]; exact h10
  have k0 : τ 0 0 = σ 0 0 := by rw [hτ]; rfl
  have k4 : τ 4 0 = σ 4 0 := by rw [hτ]; rfl
  rw [← hτ] at hq ⊢
  clear hτ
  obtain ⟨hw, j11, j12, j13, j14, j15, j16, j17, j18, j19, j20, j21, j22, j23, j24⟩ := hq
  have ai := j13 i hi.1 (by omega)
  have a18 : τ 18 i = -1 := by
    have := ai.2.2.2.2.2.2.2.2.2.2.2.2.1
    omega
  have e10 : ∀ z, sp_pu τ i t 10 z = if z = t then i else τ 10 z := fun _ => rfl
  have e13 : ∀ z, sp_pu τ i t 13 z = if z = i then 1 else τ 13 z := fun _ => rfl
  have e18 : ∀ z, sp_pu τ i t 18 z = if z = i then t else τ 18 z := fun _ => rfl
  have hno : ∀ z, τ 10 z ≠ i := fun z q => by
    have a := j11 z
    have b := a.2.2 (by omega)
    rw [q, a18] at b
    have d := j24 z (by omega)
    omega
  refine ⟨hw, ?_, j12, ?_, ?_, ?_, ?_, j17, j18, j19, j20, j21, j22, j23, ?_⟩
  · intro z
    have a := j11 z
    have b := e10 z
    by_cases q : z = t
    · rw [if_pos q] at b
      rw [b]
      have c9 := e18 i
      rw [if_pos rfl] at c9
      exact ⟨by omega, (show i ≤ τ 4 0 by omega), fun _ => by rw [c9, q]⟩
    · rw [if_neg q] at b
      rw [b]
      refine ⟨a.1, a.2.1, fun h => ?_⟩
      have c9 := e18 (τ 10 z)
      rw [if_neg (hno z)] at c9
      rw [c9]
      exact a.2.2 h
  · intro x h1 h2
    have h2 : x ≤ τ 4 0 := h2
    obtain ⟨a1, a2, a3, a4, a5, a6, a7, a8, a9, a10, a11, a12, a13, a14⟩ := j13 x h1 h2
    have b13 := e13 x
    have b18 := e18 x
    by_cases q : x = i
    · rw [if_pos q] at b13 b18
      have k14 : τ 15 x ≤ τ 1 0 := a14 (by rw [q]; omega)
      refine ⟨a1, by omega, a3, a4, a5, a6, ?_, a8, a9, a10, a11, ?_, ?_, ?_⟩
      · rw [b18]; exact ⟨by omega, (show t < τ 0 0 by omega)⟩
      · intro _
        rw [b18, e10, if_pos rfl, q]
      · rw [b13, b18]
        constructor
        · intro _; omega
        · intro _; rfl
      · intro _; exact k14
    · rw [if_neg q] at b13 b18
      refine ⟨a1, by rw [b13]; exact a2, a3, a4, a5, a6, by rw [b18]; exact a7, a8, a9, a10, a11, ?_, by rw [b13, b18]; exact a13, by rw [b13]; exact a14⟩
      intro h
      rw [b18] at h ⊢
      have d := a12 h
      rw [e10, if_neg (fun z => by rw [z, k10] at d; omega)]
      exact d
  · intro j h1 h2
    obtain ⟨a1, a2, a3, a4, a5, a6⟩ := j14 j h1 h2
    refine ⟨a1, a2, ?_, a4, a5, a6⟩
    have b := e13 (τ 23 j)
    show 2 ≤ sp_pu τ i t 13 (τ 23 j)
    rw [b, if_neg (fun z => by rw [z] at a3; omega)]
    exact a3
  · intro j h1 h2
    obtain ⟨a1, a2, a3⟩ := j15 j h1 h2
    refine ⟨a1, a2, ?_⟩
    show sp_pu τ i t 18 (τ 27 j) ≠ -1
    rw [e18]
    split
    · omega
    · exact a3
  · intro x h
    have h : τ 4 0 < x := h
    obtain ⟨a1, a2, a3, a4, a5, a6, a7⟩ := j16 x h
    have b13 := e13 x
    have b18 := e18 x
    rw [if_neg (show x ≠ i by omega)] at b13 b18
    exact ⟨by rw [b13]; exact a1, a2, a3, a4, a5, by rw [b18]; exact a6, a7⟩
  · intro z h
    rw [e10, if_neg (show z ≠ t by omega)]
    exact j24 z h
end PZ
