section PY
theorem sp_in_e {σ τ : zz_S} (h : τ 0 0 = σ 0 0) (x : Int) : sp_in τ x = sp_in σ x := by unfold sp_in; rw [h]
theorem sp_tr_e {σ τ : zz_S} (h : τ 0 0 = σ 0 0) (h8 : τ 8 0 = σ 8 0) (x : Int) : sp_tr τ x = sp_tr σ x := by unfold sp_tr; rw [h8, sp_in_e h]
/-- doubts leave all but the doubts as it is -/
theorem kp_da (σ : zz_S) (x : Int) (F : Nat) (h : F ≠ 7 ∧ F ≠ 19 ∧ F ≠ 20 ∧ F ≠ 27) : sp_da σ x F = σ F := by
  unfold sp_da sp_db
  split
  · rfl
  · rw [up_s_n h.1, up_a_n h.2.2.2, up_a_n h.2.2.1, up_a_n h.2.1]
theorem kp_d7 (σ : zz_S) (x : Int) : sp_da σ x 7 0 = σ 7 0 ∨ sp_da σ x 7 0 = σ 7 0 + 1 := by
  unfold sp_da sp_db
  split
  · exact Or.inl rfl
  · exact Or.inr rfl
theorem kp_id (σ : zz_S) (a : Int) (F : Nat) (h : F ≠ 7 ∧ F ≠ 19 ∧ F ≠ 20 ∧ F ≠ 27) : ∀ k : Nat, it_da σ a k F = σ F := by
  intro k
  induction k with
  | zero => rfl
  | succ k ih => exact (kp_da _ _ F h).trans ih
theorem kp_i7 (σ : zz_S) (a : Int) : ∀ k : Nat, σ 7 0 ≤ it_da σ a k 7 0 ∧ it_da σ a k 7 0 ≤ σ 7 0 + k := by
  intro k
  induction k with
  | zero => exact ⟨Int.le_refl _, by show σ 7 0 ≤ _; omega⟩
  | succ k ih =>
    have h : it_da σ a (k + 1) = sp_da (it_da σ a k) (sp_in σ (a + k)) := rfl
    rw [h]
    have h2 := kp_d7 (it_da σ a k) (sp_in σ (a + k))
    omega
theorem it_da_n {σ τ : zz_S} {a j : Int} (h : τ = it_da σ a j.toNat) (hj : 0 ≤ j) : sp_da τ (sp_in σ (a + j)) = it_da σ a (j + 1).toNat := by
  have h1 : (j + 1).toNat = j.toNat + 1 := by omega
  have h2 : ((j.toNat : Nat) : Int) = j := by omega
  rw [h1, h]
  show _ = sp_da (it_da σ a j.toNat) (sp_in σ (a + (j.toNat : Nat)))
  rw [h2]
theorem iw_da {σ τ : zz_S} {a : Int} {k : Nat} (hw : iw_ σ) (h : τ = it_da (up_s σ 6 1) a k) (h7 : σ 7 0 + k ≤ 40) : iw_ τ ∧ τ 0 0 = σ 0 0 ∧ τ 4 0 = σ 4 0 ∧ τ 8 0 = σ 8 0 ∧ τ 10 = σ 10 ∧ 0 ≤ τ 7 0 ∧ τ 7 0 ≤ σ 7 0 + k := by
  have g : ∀ F, F ≠ 7 ∧ F ≠ 19 ∧ F ≠ 20 ∧ F ≠ 27 → τ F = (up_s σ 6 1) F := fun F hF => by rw [h]; exact kp_id _ a F hF k
  have e0 : τ 0 = σ 0 := g 0 (by decide)
  have e1 : τ 1 = σ 1 := g 1 (by decide)
  have e2 : τ 2 = σ 2 := g 2 (by decide)
  have e3 : τ 3 = σ 3 := g 3 (by decide)
  have e4 : τ 4 = σ 4 := g 4 (by decide)
  have e5 : τ 5 = σ 5 := g 5 (by decide)
  have e6 : τ 6 0 = 1 := by rw [g 6 (by decide)]; rfl
  have e8 : τ 8 = σ 8 := g 8 (by decide)
  have e10 : τ 10 = σ 10 := g 10 (by decide)
  have e28 : τ 28 = σ 28 := g 28 (by decide)
  have e7 := kp_i7 (up_s σ 6 1) a k
  have e7' : σ 7 0 ≤ τ 7 0 ∧ τ 7 0 ≤ σ 7 0 + k := by rw [h]; exact e7
  have e0 := congrFun e0 0
  have e1 := congrFun e1 0
  have e2 := congrFun e2 0
  have e3 := congrFun e3 0
  have e4 := congrFun e4 0
  have e5 := congrFun e5 0
  have e8 := congrFun e8 0
  have e28 := congrFun e28 0
  obtain ⟨j1, j2, j3, j4, j5, j6, j7, j8, j9, j10⟩ := hw
  exact ⟨⟨by omega, by omega, by omega, by omega, by omega, by omega, by omega, by omega, by omega, by omega⟩, e0, e4, e8, e10, by omega, by omega⟩
/-- a doubted item that was found is doubted no more -/
theorem pv_19 {lo : Int} {σ : zz_S} (hI : ir_ lo σ) (hlo : 0 ≤ lo ∧ lo < σ 7 0) : ir_ (lo + 1) (up_a σ 19 (σ 27 lo) 0) := by
  obtain ⟨hw, j11, j12, j13, j14, j15, j16, j17, j18, j19, j20, j21, j22, j23, j24⟩ := hI
  have e19 : ∀ t, up_a σ 19 (σ 27 lo) 0 19 t = if t = σ 27 lo then 0 else σ 19 t := fun _ => rfl
  refine ⟨hw, j11, j12, ?_, j14, fun j h1 h2 => j15 j (by omega) h2, ?_, j17, j18, j19, ?_, j21, j22, j23, j24⟩
  · intro x h1 h2
    have a := j13 x h1 h2
    have b := e19 x
    obtain ⟨a1, a2, a3, a4, a5, a6, a7, a8, a9⟩ := a
    refine ⟨a1, a2, a3, a4, a5, a6, a7, ?_, a9⟩
    rw [b]
    split
    · exact Or.inl rfl
    · exact a8
  · intro x h
    have a := j16 x h
    have b := e19 x
    obtain ⟨a1, a2, a3, a4, a5, a6, a7, a8⟩ := a
    refine ⟨a1, a2, a3, a4, a5, a6, ?_, a8⟩
    rw [b]
    split
    · rfl
    · exact a7
  · intro x h1 h2
    have a := j20 x h1 h2
    have b := e19 x
    rw [b]
    constructor
    · intro h
      by_cases q : x = σ 27 lo
      · rw [if_pos q] at h; omega
      · rw [if_neg q] at h
        obtain ⟨k, k1, k2, k3⟩ := a.mp h
        have : k ≠ lo := fun z => q (by rw [← k3, z])
        exact ⟨k, by omega, k2, k3⟩
    · rintro ⟨k, k1, k2, k3⟩
      have k3 : σ 27 k = x := k3
      have k2 : k < σ 7 0 := k2
      have q : x ≠ σ 27 lo := fun z => by
        have := j19 k lo (by omega) k2 hlo.1 hlo.2 (by rw [k3, z])
        omega
      rw [if_neg q]
      exact a.mpr ⟨k, by omega, k2, k3⟩
theorem pv_ed {lo : Int} {σ : zz_S} (hI : ir_ lo σ) (hlo : 0 ≤ lo ∧ lo < σ 7 0) : ir_ (lo + 1) (sp_ed σ (σ 27 lo)) := by
  have a := hI.2.2.2.2.2.1 lo (Int.le_refl _) hlo.2
  unfold sp_ed
  split
  · exact pv_le hI hlo ⟨a.1, a.2.1⟩ a.2.2
  · exact pv_19 hI hlo
theorem kp_ed (σ : zz_S) (i : Int) : sp_ed σ i 7 = σ 7 ∧ sp_ed σ i 27 = σ 27 := by
  unfold sp_ed; split <;> exact ⟨rfl, rfl⟩
theorem kp_ie (σ : zz_S) : ∀ k : Nat, it_ed σ k 7 = σ 7 ∧ it_ed σ k 27 = σ 27 := by
  intro k
  induction k with
  | zero => exact ⟨rfl, rfl⟩
  | succ k ih => exact ⟨(kp_ed _ _).1.trans ih.1, (kp_ed _ _).2.trans ih.2⟩
theorem it_ed_n {σ τ : zz_S} {j : Int} (h : τ = it_ed σ j.toNat) (hj : 0 ≤ j) : sp_ed τ (σ 27 j) = it_ed σ (j + 1).toNat := by
  have h1 : (j + 1).toNat = j.toNat + 1 := by omega
  have h2 : ((j.toNat : Nat) : Int) = j := by omega
  rw [h1, h]
  show _ = sp_ed (it_ed σ j.toNat) (σ 27 (j.toNat : Nat))
  rw [h2]
end PY
