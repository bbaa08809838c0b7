/-! the reference's cells: k is the code that its last call has left -/
section RK
def rk_ (cy gr : Nat → Nat) (k : Int) (σ : zz_S) : va_W := [
  (gr 0, .inr (3, [.int (zz_i k), .int (zz_i (σ 0 0)), .int (zz_i (σ 1 0)), .int (zz_i (σ 2 0)), .int (zz_i (σ 3 0)), .ref (gr 1), .ref (gr 2), .int (zz_i (σ 4 0)), .ref (gr 3), .ref (gr 4), .ref (gr 5), .ref (gr 6), .ref (gr 7), .ref (gr 8), .int (zz_i (σ 5 0)), .ref (gr 9), .ref (gr 10), .ref (gr 11), .ref (gr 12), .int (zz_i (σ 6 0)), .int (zz_i (σ 7 0)), .ref (gr 13), .ref (gr 14)])),
  (gr 1, .inl (cy 0, 40, .inl (fun j : Nat => zz_i (σ 10 j)))),
  (gr 2, .inl (cy 1, 7, .inl (fun j : Nat => zz_i (σ 11 j)))),
  (gr 3, .inl (cy 0, 61, .inl (fun j : Nat => zz_i (σ 12 j)))),
  (gr 4, .inl (cy 0, 61, .inl (fun j : Nat => zz_i (σ 13 j)))),
  (gr 5, .inl (cy 0, 61, .inl (fun j : Nat => zz_i (σ 14 j)))),
  (gr 6, .inl (cy 0, 61, .inl (fun j : Nat => zz_i (σ 15 j)))),
  (gr 7, .inl (cy 0, 61, .inl (fun j : Nat => zz_i (σ 16 j)))),
  (gr 8, .inl (cy 0, 61, .inl (fun j : Nat => zz_i (σ 17 j)))),
  (gr 9, .inl (cy 0, 60, .inl (fun j : Nat => zz_i (σ 23 j)))),
  (gr 10, .inl (cy 0, 60, .inl (fun j : Nat => zz_i (σ 24 j)))),
  (gr 11, .inl (cy 0, 60, .inl (fun j : Nat => zz_i (σ 25 j)))),
  (gr 12, .inl (cy 0, 60, .inl (fun j : Nat => zz_i (σ 26 j)))),
  (gr 13, .inl (cy 0, 40, .inl (fun j : Nat => zz_i (σ 27 j)))),
  (gr 14, .inl (cy 1, 61, .inl (fun j : Nat => zz_i (σ 20 j))))]
def sp_bt (v lo hi : Int) : Int := if lo ≤ v ∧ v ≤ hi then 1 else 0
theorem sp_bt_b (v lo hi : Int) : (sp_bt v lo hi = 1 ∧ lo ≤ v ∧ v ≤ hi) ∨ (sp_bt v lo hi = 0 ∧ (v < lo ∨ hi < v)) := by
  unfold sp_bt; split <;> omega
/-- what the reference answers, what it leaves, where a call throws the code k -/
def an_ (k v : Int) : Int := if k = 0 then v else 0
def nx_ (k : Int) (σ σ' : zz_S) : zz_S := if k = 0 then σ' else σ
theorem em_2 {y n : Int} (h : 0 ≤ y ∧ y < 2 * n) : y % n = if y < n then y else y - n := by
  by_cases q : y < n
  · rw [if_pos q]; exact Int.emod_eq_of_lt h.1 q
  · rw [if_neg q]
    have h2 : y = (y - n) + n * 1 := by omega
    have h1 : y % n = (y - n) % n := by
      calc y % n = ((y - n) + n * 1) % n := by rw [← h2]
        _ = (y - n) % n := Int.add_mul_emod_self_left _ _ _
    rw [h1]
    exact Int.emod_eq_of_lt (by omega) (by omega)
theorem tr_md {σ : zz_S} (hw : iw_ σ) (h17 : σ 8 0 = σ 2 0 % σ 0 0) {x : Int} (hx : 0 ≤ x ∧ x < σ 0 0) : sp_tr σ x = (x + σ 0 0 - σ 2 0 % σ 0 0) % σ 0 0 := by
  have a := sp_in_b σ (x - σ 8 0)
  have b := sp_tr_b σ x
  have j9 := hw.2.2.2.2.2.2.2.2.1
  rw [← h17, em_2 (by omega)]
  split <;> omega
theorem to_n {σ : zz_S} {x j : Int} (h : ∀ t, 0 ≤ t → t < j → σ 10 t ≠ x) (hj : σ 10 j ≠ x) : ∀ t, 0 ≤ t → t < j + 1 → σ 10 t ≠ x := by
  intro t h1 h2
  by_cases q : t = j
  · rw [q]; exact hj
  · exact h t h1 (by omega)
theorem to_e {lo : Int} {σ : zz_S} (hI : ir_ lo σ) {x j : Int} (hx : 1 ≤ x ∧ x ≤ σ 4 0) (h : ∀ t, 0 ≤ t → t < j → σ 10 t ≠ x) (hj : σ 0 0 ≤ j) : σ 18 x = -1 := by
  have hit := hI.2.2.2.1 x hx.1 hx.2
  by_cases q : σ 18 x = -1
  · exact q
  · exact absurd (hit.2.2.2.2.2.2.2.2.2.2.2.1 q) (h _ (by omega) (by omega))
theorem to_f {lo : Int} {σ : zz_S} (hI : ir_ lo σ) {x j : Int} (hx : 1 ≤ x) (h : σ 10 j = x) : σ 18 x = j := by
  have a := (hI.2.1 j).2.2 (by omega)
  rw [h] at a; exact a
theorem pw_on {lo : Int} {σ : zz_S} (hI : ir_ lo σ) {t : Int} (h0 : 0 ≤ t) (h : σ 10 t ≠ 0) : (1 ≤ σ 10 t ∧ σ 10 t ≤ σ 4 0) ∧ σ 18 (σ 10 t) = t ∧ σ 18 (σ 10 t) ≠ -1 := by
  have a := hI.2.1 t
  have b := a.2.2 h
  exact ⟨by omega, b, by omega⟩
/-- the reference's own ways to a place in the loop -/
theorem md_in {σ : zz_S} {x y : Int} (hx : 0 ≤ x ∧ x < σ 0 0) (hy : 0 ≤ y ∧ y < σ 0 0) : (y - x + σ 0 0) % σ 0 0 = sp_in σ (y - x) := by
  have a := sp_in_b σ (y - x)
  rw [em_2 (by omega)]
  split <;> omega
theorem md_ad {σ : zz_S} {z : Int} (hz : 0 ≤ z ∧ z < 2 * σ 0 0) : z % σ 0 0 = sp_in σ z := by
  have a := sp_in_b σ z
  rw [em_2 hz]
  split <;> omega
theorem md_po {σ : zz_S} (hw : iw_ σ) (h17 : σ 8 0 = σ 2 0 % σ 0 0) {t : Int} (ht : 0 ≤ t ∧ t < σ 0 0) : (t + σ 2 0) % σ 0 0 = sp_in σ (t + σ 8 0) := by
  have j9 := hw.2.2.2.2.2.2.2.2.1
  have h3 : t + σ 2 0 = (t + σ 8 0) + σ 0 0 * (σ 2 0 / σ 0 0) := by have := Int.emod_add_mul_ediv (σ 2 0) (σ 0 0); omega
  rw [h3, Int.add_mul_emod_self_left]
  exact md_ad (by omega)
theorem rk_7 {cy gr : Nat → Nat} {k : Int} {σ : zz_S} (h : σ 7 0 = 0) : rk_ cy gr k (up_s σ 7 0) = rk_ cy gr k σ := by
  unfold rk_; rw [h]; rfl
theorem th_n {σ : zz_S} {x j b : Int} (hb : b = 0 ∨ b = 1) (h : b = 1 ↔ ∃ k, 0 ≤ k ∧ k < j ∧ σ 27 k = x) (hj : 0 ≤ j) {b' : Int} (h' : (b' = 1 ∧ (b = 1 ∨ σ 27 j = x)) ∨ (b' = 0 ∧ b = 0 ∧ σ 27 j ≠ x)) : b' = 1 ↔ ∃ k, 0 ≤ k ∧ k < j + 1 ∧ σ 27 k = x := by
  constructor
  · intro q
    rcases h' with ⟨-, h1 | h1⟩ | ⟨h1, -, -⟩
    · obtain ⟨k, a, c, d⟩ := h.mp h1
      exact ⟨k, a, by omega, d⟩
    · exact ⟨j, hj, by omega, h1⟩
    · omega
  · rintro ⟨k, a, c, d⟩
    rcases h' with ⟨h1, -⟩ | ⟨-, h1, h2⟩
    · exact h1
    · by_cases q : k = j
      · rw [q] at d; exact absurd d h2
      · have := h.mpr ⟨k, a, by omega, d⟩
        omega
theorem cnt_0 {σ : zz_S} {x a j : Int} (h : (x = 2 ∧ a = sm_ (f_et σ) j.toNat) ∨ (x ≠ 2 ∧ a = 0 ∧ j = 0)) (hj : x = 2 → j = σ 0 0) : (x = 5 ∧ a = sm_ (f_ou σ) (1 - 1 : Int).toNat) ∨ (x = 2 ∧ a = sm_ (f_et σ) (σ 0 0).toNat ∧ (1 : Int) = 1) ∨ (x ≠ 2 ∧ x ≠ 5 ∧ (1 : Int) = 1) := by
  rcases h with ⟨h1, h2⟩ | ⟨h1, h2, h3⟩
  · exact Or.inr (Or.inl ⟨h1, by rw [h2, hj h1], rfl⟩)
  · by_cases q : x = 5
    · exact Or.inl ⟨q, h2⟩
    · exact Or.inr (Or.inr ⟨h1, q, rfl⟩)
end RK
