/-! what holds of a state goes on holding -/
section PU
/-- an item leaves its tray -/
theorem pv_g {lo lo' r : Int} {σ τ : zz_S} (hI : ir_ lo σ) {i st lt : Int} (hi : 1 ≤ i ∧ i ≤ σ 4 0) (ht : σ 18 i ≠ -1) (hr : 0 ≤ r ∧ r ≤ 10) (hs : 2 ≤ st ∧ st ≤ 5) (hl : -2 ≤ lt ∧ lt ≤ 6)
    (hlo : (lo' = lo ∧ σ 19 i = 0) ∨ (lo' = lo + 1 ∧ 0 ≤ lo ∧ lo < σ 7 0 ∧ σ 27 lo = i)) (hlo0 : 0 ≤ lo)
    (e5 : τ 5 0 = σ 5 0 + 1) (e10 : ∀ t, τ 10 t = if t = σ 18 i then 0 else σ 10 t) (e13 : ∀ t, τ 13 t = if t = i then st else σ 13 t) (e15 : ∀ t, τ 15 t = if t = i then r else σ 15 t) (e18 : ∀ t, τ 18 t = if t = i then -1 else σ 18 t) (e19 : ∀ t, τ 19 t = if t = i then 0 else σ 19 t)
    (e21 : ∀ t, τ 21 t = if t = i then lt else σ 21 t) (e22 : ∀ t, τ 22 t = if t = i then σ 2 0 else σ 22 t) (e23 : ∀ t, τ 23 t = if t = σ 5 0 then i else σ 23 t) (e24 : ∀ t, τ 24 t = if t = σ 5 0 then lt else σ 24 t) (e25 : ∀ t, τ 25 t = if t = σ 5 0 then σ 2 0 else σ 25 t) (e26 : ∀ t, τ 26 t = if t = σ 5 0 then r else σ 26 t)
    (f0 : ∀ t, τ 0 t = σ 0 t) (f1 : ∀ t, τ 1 t = σ 1 t) (f2 : ∀ t, τ 2 t = σ 2 t) (f3 : ∀ t, τ 3 t = σ 3 t) (f4 : ∀ t, τ 4 t = σ 4 t) (f6 : ∀ t, τ 6 t = σ 6 t) (f7 : ∀ t, τ 7 t = σ 7 t) (f8 : ∀ t, τ 8 t = σ 8 t) (f28 : ∀ t, τ 28 t = σ 28 t) (f11 : ∀ t, τ 11 t = σ 11 t) (f12 : ∀ t, τ 12 t = σ 12 t) (f14 : ∀ t, τ 14 t = σ 14 t) (f16 : ∀ t, τ 16 t = σ 16 t) (f17 : ∀ t, τ 17 t = σ 17 t) (f20 : ∀ t, τ 20 t = σ 20 t) (f27 : ∀ t, τ 27 t = σ 27 t) : ir_ lo' τ := by
  have h60 := lf_lt hI hi ht
  obtain ⟨⟨j1, j2, j3, j4, j5, j6, j7, j8, j9, j10⟩, j11, j12, j13, j14, j15, j16, j17, j18, j19, j20, j21, j22, j23, j24⟩ := hI
  have g0 := f0 0
  have g1 := f1 0
  have g2 := f2 0
  have g3 := f3 0
  have g4 := f4 0
  have g6 := f6 0
  have g7 := f7 0
  have g8 := f8 0
  have g28 := f28 0
  have ai := j13 i hi.1 hi.2
  have a10 := ai.2.2.2.2.2.2.2.2.2.2.2.1 ht
  have a13 := ai.2.2.2.2.2.2.2.2.2.2.2.2.1
  have hst : σ 13 i = 1 := a13.mpr ht
  have hnl : ∀ j, 0 ≤ j → j < σ 5 0 → σ 23 j ≠ i := fun j h1 h2 q => by
    have h3 := (j14 j h1 h2).2.2.1
    rw [q] at h3; omega
  have hnd : ∀ j, lo' ≤ j → j < σ 7 0 → σ 27 j ≠ i := fun j h1 h2 q => by
    rcases hlo with ⟨h3, h4⟩ | ⟨h3, h4, h5, h6⟩
    · have h7 := (j20 i hi.1 hi.2).mpr ⟨j, by omega, h2, q⟩
      omega
    · have h7 := j19 j lo (by omega) h2 h4 h5 (by rw [q, h6])
      omega
  refine ⟨⟨by omega, by omega, by omega, by omega, by omega, by omega, by omega, by omega, by omega, by omega⟩, ?_, ?_, ?_, ?_, ?_, ?_, ?_, ?_, ?_, ?_, ?_, ?_, ?_, ?_⟩
  · intro t
    have a := j11 t
    have b := e10 t
    by_cases q : t = σ 18 i
    · rw [if_pos q] at b
      exact ⟨by omega, by omega, fun h => absurd b h⟩
    · rw [if_neg q] at b
      refine ⟨by omega, by omega, fun h => ?_⟩
      rw [b] at h ⊢
      have hne : σ 10 t ≠ i := fun z => q (by have h2 := a.2.2 h; rw [z] at h2; exact h2.symm)
      have c := e18 (σ 10 t)
      rw [if_neg hne] at c
      rw [c]
      exact a.2.2 h
  · intro c
    rw [f11]
    exact j12 c
  · intro x h1 h2
    have a := j13 x h1 (by omega)
    have b12 := f12 x
    have b13 := e13 x
    have b14 := f14 x
    have b15 := e15 x
    have b16 := f16 x
    have b17 := f17 x
    have b18 := e18 x
    have b19 := e19 x
    have b20 := f20 x
    have b21 := e21 x
    have b22 := e22 x
    by_cases q : x = i
    · rw [if_pos q] at b13 b15 b18 b19 b21 b22
      exact ⟨by omega, by omega, by omega, by omega, by omega, by omega, by omega, by omega, by omega, by omega, by omega, fun h => absurd b18 h, by omega, by omega⟩
    · rw [if_neg q] at b13 b15 b18 b19 b21 b22
      refine ⟨by omega, by omega, by omega, by omega, by omega, by omega, by omega, by omega, by omega, by omega, by omega, fun h => ?_, by omega, fun h => by have := a.2.2.2.2.2.2.2.2.2.2.2.2.2 (by omega); omega⟩
      have c := a.2.2.2.2.2.2.2.2.2.2.2.1 (by omega)
      have d := e10 (σ 18 x)
      rw [if_neg (fun z => q (by rw [← c, z, a10]))] at d
      rw [b18, d]
      exact c
  · intro j h1 h2
    have b23 := e23 j
    have b24 := e24 j
    have b25 := e25 j
    have b26 := e26 j
    by_cases q : j = σ 5 0
    · rw [if_pos q] at b23 b24 b25 b26
      rw [b23]
      have c13 := e13 i
      have c15 := e15 i
      have c21 := e21 i
      have c22 := e22 i
      rw [if_pos rfl] at c13 c15 c21 c22
      exact ⟨by omega, by omega, by omega, by omega, by omega, by omega⟩
    · rw [if_neg q] at b23 b24 b25 b26
      have a := j14 j h1 (by omega)
      have hne := hnl j h1 (by omega)
      rw [b23]
      have c13 := e13 (σ 23 j)
      have c15 := e15 (σ 23 j)
      have c21 := e21 (σ 23 j)
      have c22 := e22 (σ 23 j)
      rw [if_neg hne] at c13 c15 c21 c22
      exact ⟨by omega, by omega, by omega, by omega, by omega, by omega⟩
  · intro j h1 h2
    have hne := hnd j h1 (by omega)
    have a := j15 j (by omega) (by omega)
    rw [f27]
    have c := e18 (σ 27 j)
    rw [if_neg hne] at c
    exact ⟨by omega, by omega, by omega⟩
  · intro x h
    have a := j16 x (by omega)
    have hne : x ≠ i := by omega
    have b13 := e13 x
    have b15 := e15 x
    have b18 := e18 x
    have b19 := e19 x
    have b21 := e21 x
    have b22 := e22 x
    rw [if_neg hne] at b13 b15 b18 b19 b21 b22
    have b14 := f14 x
    have b16 := f16 x
    have b17 := f17 x
    have b20 := f20 x
    exact ⟨by omega, by omega, by omega, by omega, by omega, by omega, by omega, by omega, by omega, by omega⟩
  · rw [g8, g2, g0]; exact j17
  · intro j k h1 h2 h3 h4 h5
    have bj := e23 j
    have bk := e23 k
    by_cases q1 : j = σ 5 0
    · by_cases q2 : k = σ 5 0
      · omega
      · rw [if_pos q1] at bj
        rw [if_neg q2] at bk
        exact absurd (show σ 23 k = i by omega) (hnl k h3 (by omega))
    · by_cases q2 : k = σ 5 0
      · rw [if_neg q1] at bj
        rw [if_pos q2] at bk
        exact absurd (show σ 23 j = i by omega) (hnl j h1 (by omega))
      · rw [if_neg q1] at bj
        rw [if_neg q2] at bk
        exact j18 j k h1 (by omega) h3 (by omega) (by omega)
  · intro j k h1 h2 h3 h4 h5
    have bj := f27 j
    have bk := f27 k
    exact j19 j k h1 (by omega) h3 (by omega) (by omega)
  · intro x h1 h2
    have b19 := e19 x
    have a := j20 x h1 (by omega)
    constructor
    · intro h
      by_cases q : x = i
      · rw [if_pos q] at b19; omega
      · rw [if_neg q] at b19
        obtain ⟨k, k1, k2, k3⟩ := a.mp (by omega)
        refine ⟨k, ?_, by omega, by rw [f27]; exact k3⟩
        rcases hlo with ⟨h3, h4⟩ | ⟨h3, h4, h5, h6⟩
        · omega
        · have : k ≠ lo := fun z => q (by rw [← k3, z, h6])
          omega
    · rintro ⟨k, k1, k2, k3⟩
      rw [f27] at k3
      have hne := hnd k k1 (by omega)
      rw [if_neg (fun z => hne (by rw [k3, z]))] at b19
      rw [b19]
      have hk1 : lo ≤ k := by rcases hlo with ⟨h3, -⟩ | ⟨h3, -, -, -⟩ <;> (clear a b19 k3 hne; omega)
      have hk2 : k < σ 7 0 := by rw [← g7]; exact k2
      exact a.mpr ⟨k, hk1, hk2, k3⟩
  · intro h
    have := j21 (by omega)
    omega
  · intro j
    have b := e23 j
    have a := j22 j
    by_cases q : j = σ 5 0
    · rw [if_pos q] at b; omega
    · rw [if_neg q] at b; omega
  · intro j
    have b := f27 j
    have a := j23 j
    omega
  · intro t h
    have b := e10 t
    have a := j24 t h
    by_cases q : t = σ 18 i
    · rw [if_pos q] at b; exact b
    · rw [if_neg q] at b; omega
theorem pv_if (g : Int → Int) (i t : Int) : g t = if t = i then g i else g t := by
  by_cases q : t = i
  · rw [if_pos q, q]
  · rw [if_neg q]
theorem pv_i0 {g : Int → Int} {i : Int} (h : g i = 0) (t : Int) : g t = if t = i then 0 else g t := by
  by_cases q : t = i
  · rw [if_pos q, q, h]
  · rw [if_neg q]
theorem pv_lv {σ : zz_S} (hI : iv_ σ) {i st lt : Int} (hi : 1 ≤ i ∧ i ≤ σ 4 0) (ht : σ 18 i ≠ -1) (hd : σ 19 i = 0) (hs : 2 ≤ st ∧ st ≤ 5) (hl : -2 ≤ lt ∧ lt ≤ 6) : iv_ (sp_lv σ i st lt) :=
  pv_g (r := σ 15 i) (i := i) (st := st) (lt := lt) hI hi ht (by have := (hI.2.2.2.1 i hi.1 hi.2).2.2.2.1; omega) hs hl (Or.inl ⟨rfl, hd⟩) (Int.le_refl _) rfl (fun _ => rfl) (fun _ => rfl) (pv_if (σ 15) i) (fun _ => rfl) (pv_i0 (g := σ 19) hd) (fun _ => rfl) (fun _ => rfl) (fun _ => rfl) (fun _ => rfl) (fun _ => rfl) (fun _ => rfl) (fun _ => rfl) (fun _ => rfl) (fun _ => rfl) (fun _ => rfl) (fun _ => rfl) (fun _ => rfl) (fun _ => rfl) (fun _ => rfl) (fun _ => rfl) (fun _ => rfl) (fun _ => rfl) (fun _ => rfl) (fun _ => rfl) (fun _ => rfl) (fun _ => rfl) (fun _ => rfl)
theorem pv_lr {σ : zz_S} (hI : iv_ σ) {i r st lt : Int} (hi : 1 ≤ i ∧ i ≤ σ 4 0) (ht : σ 18 i ≠ -1) (hd : σ 19 i = 0) (hr : 0 ≤ r ∧ r ≤ 10) (hs : 2 ≤ st ∧ st ≤ 5) (hl : -2 ≤ lt ∧ lt ≤ 6) : iv_ (sp_lv (up_a σ 15 i r) i st lt) :=
  pv_g (σ := σ) (r := r) (i := i) (st := st) (lt := lt) hI hi ht hr hs hl (Or.inl ⟨rfl, hd⟩) (Int.le_refl _) rfl (fun _ => rfl) (fun _ => rfl) (fun _ => rfl) (fun _ => rfl) (pv_i0 (g := σ 19) hd) (fun _ => rfl) (fun _ => rfl) (fun _ => rfl) (fun _ => rfl) (fun _ => rfl) (fun t => by show (if t = σ 5 0 then up_i (σ 15) i r i else σ 26 t) = _; rw [up_i_s]) (fun _ => rfl) (fun _ => rfl) (fun _ => rfl) (fun _ => rfl) (fun _ => rfl) (fun _ => rfl) (fun _ => rfl) (fun _ => rfl) (fun _ => rfl) (fun _ => rfl) (fun _ => rfl) (fun _ => rfl) (fun _ => rfl) (fun _ => rfl) (fun _ => rfl) (fun _ => rfl)
theorem pv_le {lo : Int} {σ : zz_S} (hI : ir_ lo σ) (hlo : 0 ≤ lo ∧ lo < σ 7 0) (hi : 1 ≤ σ 27 lo ∧ σ 27 lo ≤ σ 4 0) (ht : σ 18 (σ 27 lo) ≠ -1) : ir_ (lo + 1) (sp_lv (up_a σ 19 (σ 27 lo) 0) (σ 27 lo) 5 (-2)) :=
  pv_g (σ := σ) (r := σ 15 (σ 27 lo)) (i := σ 27 lo) (st := 5) (lt := -2) hI hi ht (by have := (hI.2.2.2.1 _ hi.1 hi.2).2.2.2.1; omega) (by omega) (by omega) (Or.inr ⟨rfl, hlo.1, hlo.2, rfl⟩) hlo.1 rfl (fun _ => rfl) (fun _ => rfl) (pv_if (σ 15) _) (fun _ => rfl) (fun _ => rfl) (fun _ => rfl) (fun _ => rfl) (fun _ => rfl) (fun _ => rfl) (fun _ => rfl) (fun _ => rfl) (fun _ => rfl) (fun _ => rfl) (fun _ => rfl) (fun _ => rfl) (fun _ => rfl) (fun _ => rfl) (fun _ => rfl) (fun _ => rfl) (fun _ => rfl) (fun _ => rfl) (fun _ => rfl) (fun _ => rfl) (fun _ => rfl) (fun _ => rfl) (fun _ => rfl) (fun _ => rfl)
end PU
