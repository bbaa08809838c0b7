section QA
theorem pv_ie {σ : zz_S} (hI : iv_ σ) : ∀ k : Nat, (k : Int) ≤ σ 7 0 → ir_ (k : Int) (it_ed σ k) := by
  intro k
  induction k with
  | zero => exact fun _ => hI
  | succ k ih =>
    intro h
    have h1 := pv_ed (lo := (k : Int)) (ih (by omega)) ⟨by omega, by rw [(kp_ie σ k).1]; omega⟩
    rw [(kp_ie σ k).2] at h1
    have e : ((k + 1 : Nat) : Int) = (k : Int) + 1 := by omega
    rw [e]
    exact h1
theorem pv_rtk {σ : zz_S} (hI : iv_ σ) : iv_ (s_rtk σ) := by
  have h8 := hI.1.2.2.2.2.2.2.2.1
  have h := pv_ie hI (σ 7 0).toNat (by omega)
  have h7 : it_ed σ (σ 7 0).toNat 7 0 = σ 7 0 := by rw [(kp_ie σ _).1]
  rw [show (((σ 7 0).toNat : Nat) : Int) = σ 7 0 by omega] at h
  unfold s_rtk
  obtain ⟨τ, hτ⟩ : ∃ τ, τ = it_ed σ (σ 7 0).toNat := ⟨_, rfl⟩
  rw [← hτ] at h h7 ⊢
  obtain ⟨⟨j1, j2, j3, j4, j5, j6, j7, j8, j9, j10⟩, j11, j12, j13, j14, j15, j16, j17, j18, j19, j20, j21, j22, j23, j24⟩ := h
  refine ⟨⟨j1, j2, j3, j4, j5, j6, Or.inl rfl, (show (0 : Int) ≤ 0 ∧ (0 : Int) ≤ 40 by omega), j9, j10⟩, j11, j12, j13, j14, ?_, j16, j17, j18, ?_, ?_, fun _ => rfl, j22, j23, j24⟩
  · intro j h1 h2
    have h2 : j < 0 := h2
    omega
  · intro j k h1 h2
    have h2 : j < 0 := h2
    omega
  · intro i h1 h2
    have a := j20 i h1 h2
    constructor
    · intro q
      obtain ⟨k, k1, k2, -⟩ := a.mp q
      omega
    · rintro ⟨k, k1, k2, -⟩
      have k2 : k < 0 := k2
      omega
/-- one more is doubted -/
theorem pv_db {σ : zz_S} (hI : iv_ σ) (h6 : σ 6 0 = 1) {i : Int} (hi : 1 ≤ i ∧ i ≤ σ 4 0) (ht : σ 18 i ≠ -1) (h7 : σ 7 0 < 40) (hn : ∀ k, 0 ≤ k → k < σ 7 0 → σ 27 k ≠ i) : iv_ (sp_db σ i) := by
  obtain ⟨⟨j1, j2, j3, j4, j5, j6, j7, j8, j9, j10⟩, j11, j12, j13, j14, j15, j16, j17, j18, j19, j20, j21, j22, j23, j24⟩ := hI
  unfold sp_db
  rw [if_neg (by omega)]
  obtain ⟨τ, hτ⟩ : ∃ τ, τ = up_s (up_a (up_a (up_a σ 19 i 1) 20 i 0) 27 (σ 7 0) i) 7 (σ 7 0 + 1) := ⟨_, rfl⟩
  have e19 : ∀ z, τ 19 z = if z = i then 1 else σ 19 z := fun _ => by rw [hτ]; rfl
  have e20 : ∀ z, τ 20 z = if z = i then 0 else σ 20 z := fun _ => by rw [hτ]; rfl
  have e27 : ∀ z, τ 27 z = if z = σ 7 0 then i else σ 27 z := fun _ => by rw [hτ]; rfl
  have h70 : τ 7 0 = σ 7 0 + 1 := by rw [hτ]; rfl
  have f4 : τ 4 0 = σ 4 0 := by rw [hτ]; rfl
  have f18 : τ 18 = σ 18 := by rw [hτ]; rfl
  have g15 : ∀ j, 0 ≤ j → j < τ 7 0 → 1 ≤ τ 27 j ∧ τ 27 j ≤ σ 4 0 ∧ σ 18 (τ 27 j) ≠ -1 := by
    intro j h1 h2
    have b := e27 j
    by_cases q : j = σ 7 0
    · rw [if_pos q] at b; rw [b]; exact ⟨hi.1, hi.2, ht⟩
    · rw [if_neg q] at b; rw [b]; exact j15 j h1 (by omega)
  have g13 : ∀ x, 1 ≤ x → x ≤ σ 4 0 → (τ 19 x = 0 ∨ τ 19 x = 1) ∧ (τ 20 x = 0 ∨ τ 20 x = 1) := by
    intro x h1 h2
    have a := j13 x h1 h2
    have b := e19 x
    have d := e20 x
    by_cases q : x = i
    · rw [if_pos q] at b d; omega
    · rw [if_neg q] at b d; omega
  have g16 : ∀ x, σ 4 0 < x → τ 19 x = 0 ∧ τ 20 x = 0 := by
    intro x h
    have a := j16 x h
    have b := e19 x
    have d := e20 x
    rw [if_neg (show x ≠ i by omega)] at b d
    omega
  have g19 : ∀ j k, 0 ≤ j → j < τ 7 0 → 0 ≤ k → k < τ 7 0 → τ 27 j = τ 27 k → j = k := by
    intro j k h1 h2 h3 h4 h5
    have bj := e27 j
    have bk := e27 k
    by_cases q1 : j = σ 7 0
    · by_cases q2 : k = σ 7 0
      · omega
      · rw [if_pos q1] at bj
        rw [if_neg q2] at bk
        exact absurd (show σ 27 k = i by omega) (hn k h3 (by omega))
    · by_cases q2 : k = σ 7 0
      · rw [if_neg q1] at bj
        rw [if_pos q2] at bk
        exact absurd (show σ 27 j = i by omega) (hn j h1 (by omega))
      · rw [if_neg q1] at bj
        rw [if_neg q2] at bk
        exact j19 j k h1 (by omega) h3 (by omega) (by omega)
  have g20 : ∀ x, 1 ≤ x → x ≤ σ 4 0 → (τ 19 x = 1 ↔ ∃ k, 0 ≤ k ∧ k < τ 7 0 ∧ τ 27 k = x) := by
    intro x h1 h2
    have a := j20 x h1 h2
    have b := e19 x
    by_cases q : x = i
    · rw [if_pos q] at b
      refine ⟨fun _ => ⟨σ 7 0, j8.1, by rw [h70]; exact Int.lt_succ _, by rw [e27, if_pos rfl, q]⟩, fun _ => b⟩
    · rw [if_neg q] at b
      rw [b, a]
      constructor
      · rintro ⟨k, k1, k2, k3⟩
        exact ⟨k, k1, by rw [h70]; exact Int.lt_trans k2 (Int.lt_succ _), by rw [e27, if_neg (Int.ne_of_lt k2)]; exact k3⟩
      · rintro ⟨k, k1, k2, k3⟩
        have d := e27 k
        by_cases z : k = σ 7 0
        · rw [if_pos z] at d
          exact absurd (k3.symm.trans d) q
        · rw [if_neg z] at d
          rw [h70] at k2
          have k4 : k < σ 7 0 := by clear a; omega
          exact ⟨k, k1, k4, d.symm.trans k3⟩
  have g23 : ∀ j, 0 ≤ τ 27 j ∧ τ 27 j ≤ σ 4 0 := by
    intro j
    have a := j23 j
    have b := e27 j
    by_cases q : j = σ 7 0
    · rw [if_pos q] at b; omega
    · rw [if_neg q] at b; omega
  have g8 : 0 ≤ τ 7 0 ∧ τ 7 0 ≤ 40 := by omega
  subst hτ
  refine ⟨⟨j1, j2, j3, j4, j5, j6, j7, g8, j9, j10⟩, j11, j12, ?_, j14, g15, ?_, j17, j18, g19, g20, ?_, j22, g23, j24⟩
  · intro x h1 h2
    obtain ⟨a1, a2, a3, a4, a5, a6, a7, a8, a9, a10⟩ := j13 x h1 h2
    exact ⟨a1, a2, a3, a4, a5, a6, a7, (g13 x h1 h2).1, (g13 x h1 h2).2, a10⟩
  · intro x h
    obtain ⟨a1, a2, a3, a4, a5, a6, a7, a8, a9⟩ := j16 x h
    exact ⟨a1, a2, a3, a4, a5, a6, (g16 x h).1, (g16 x h).2, a9⟩
  · intro h
    have h : σ 6 0 = 0 := h
    omega
end QA
