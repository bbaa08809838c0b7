section RL
/-- b says whether x is among the first j doubted ones -/
def th_p (σ : zz_S) (x j b : Int) : Prop := b = 1 ↔ ∃ k, 0 ≤ k ∧ k < j ∧ σ 27 k = x
theorem th_0 (σ : zz_S) (x : Int) : th_p σ x 0 0 := ⟨fun h => by omega, fun ⟨k, h1, h2, _⟩ => by omega⟩
theorem th_s {σ : zz_S} {x j b : Int} (hb : b = 0 ∨ b = 1) (h : th_p σ x j b) (hj : 0 ≤ j) {b' : Int} (h' : (b' = 1 ∧ (b = 1 ∨ σ 27 j = x)) ∨ (b' = 0 ∧ b = 0 ∧ σ 27 j ≠ x)) : th_p σ x (j + 1) b' := th_n hb h hj h'
theorem th_e {σ : zz_S} {x j b : Int} (h : th_p σ x j b) (h2 : σ 19 x = 1 ↔ ∃ k, 0 ≤ k ∧ k < σ 7 0 ∧ σ 27 k = x) (hj : j = σ 7 0) : b = 1 ↔ σ 19 x = 1 := by
  rw [h2, ← hj]; exact h
end RL
