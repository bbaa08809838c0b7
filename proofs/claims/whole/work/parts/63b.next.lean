/-! what a call leaves is a state again; which codes it throws -/
section NX
theorem kr_item (σ : zz_S) (x : Int) : k_item σ x = 0 ∨ k_item σ x = 1 ∨ k_item σ x = 2 := by
  unfold k_item; split
  · omega
  · split <;> omega
theorem kr_ind (σ : zz_S) (i a c : Int) : k_ind σ i a c = 0 ∨ k_ind σ i a c = 1 ∨ k_ind σ i a c = 2 := by
  unfold k_ind; split
  · exact Or.inr (Or.inl rfl)
  · split
    · exact Or.inr (Or.inr rfl)
    · exact Or.inl rfl
theorem kr_len (σ : zz_S) (x : Int) : k_len σ x = 0 ∨ k_len σ x = 1 := by unfold k_len; split <;> omega
theorem kr_ret (σ : zz_S) (i n c : Int) : k_ret σ i n c = 0 ∨ k_ret σ i n c = 1 ∨ k_ret σ i n c = 2 := by
  unfold k_ret; split
  · exact Or.inr (Or.inl rfl)
  · split
    · exact Or.inr (Or.inr rfl)
    · exact Or.inl rfl
theorem kr_stp (σ : zz_S) (n : Int) : k_stp σ n = 0 ∨ k_stp σ n = 1 ∨ k_stp σ n = 2 := by
  unfold k_stp; split
  · exact Or.inr (Or.inl rfl)
  · split
    · exact Or.inr (Or.inr rfl)
    · exact Or.inl rfl
theorem kr_out (σ : zz_S) (i w : Int) : k_out σ i w = 0 ∨ k_out σ i w = 1 := by
  unfold k_out; split
  · exact Or.inr rfl
  · exact Or.inl rfl
theorem kr_chu (σ : zz_S) (c : Int) : k_chu σ c = 0 ∨ k_chu σ c = 1 := by
  unfold k_chu; split
  · exact Or.inr rfl
  · exact Or.inl rfl
theorem kr_jam (σ : zz_S) (a b : Int) : k_jam σ a b = 0 ∨ k_jam σ a b = 1 ∨ k_jam σ a b = 2 := by
  unfold k_jam; split
  · exact Or.inr (Or.inl rfl)
  · split
    · exact Or.inr (Or.inr rfl)
    · exact Or.inl rfl
theorem kr_fou (σ : zz_S) (i : Int) : k_fou σ i = 0 ∨ k_fou σ i = 1 ∨ k_fou σ i = 2 := by
  unfold k_fou; split
  · exact Or.inr (Or.inl rfl)
  · split
    · exact Or.inr (Or.inr rfl)
    · exact Or.inl rfl
theorem kr_rtk (σ : zz_S) : k_rtk σ = 0 ∨ k_rtk σ = 1 := by
  unfold k_rtk; split
  · exact Or.inr rfl
  · exact Or.inl rfl
theorem kr_man (σ : zz_S) (i c : Int) : k_man σ i c = 0 ∨ k_man σ i c = 1 ∨ k_man σ i c = 2 := by
  unfold k_man; split
  · exact Or.inr (Or.inl rfl)
  · split
    · exact Or.inr (Or.inr rfl)
    · exact Or.inl rfl
theorem kr_tra (σ : zz_S) (t : Int) : k_tra σ t = 0 ∨ k_tra σ t = 1 := by
  unfold k_tra; split
  · exact Or.inr rfl
  · exact Or.inl rfl
theorem kr_tol (σ : zz_S) (i w : Int) : k_tol σ i w = 0 ∨ k_tol σ i w = 1 := by
  unfold k_tol; split
  · exact Or.inr rfl
  · exact Or.inl rfl
theorem nv_k {k : Int} {σ σ' : zz_S} (hI : iv_ σ) (h : k = 0 → iv_ σ' ∧ σ' 2 0 ≤ σ 2 0 + 100) : iv_ (nx_ k σ σ') ∧ nx_ k σ σ' 2 0 ≤ σ 2 0 + 100 := by
  by_cases hk : k = 0
  · rw [show nx_ k σ σ' = σ' from if_pos hk]; exact h hk
  · rw [show nx_ k σ σ' = σ from if_neg hk]; exact ⟨hI, by omega⟩
theorem nv_item {σ : zz_S} (hI : iv_ σ) (x : Int) : iv_ (nx_ (k_item σ x) σ (s_item σ x)) ∧ nx_ (k_item σ x) σ (s_item σ x) 2 0 ≤ σ 2 0 + 100 := nv_k hI (fun h => by
  unfold k_item at h
  split at h
  · omega
  · rename_i h1
    split at h
    · omega
    · rename_i h2
      exact ⟨pv_item hI (by omega) (by omega), show σ 2 0 ≤ σ 2 0 + 100 by omega⟩)
theorem nv_ind {σ : zz_S} (hI : iv_ σ) (x a y : Int) : iv_ (nx_ (k_ind σ x a y) σ (s_ind σ x a y)) ∧ nx_ (k_ind σ x a y) σ (s_ind σ x a y) 2 0 ≤ σ 2 0 + 100 := nv_k hI (fun h => by
  unfold k_ind at h
  by_cases h1 : x < 1 ∨ σ 4 0 < x ∨ a < 0 ∨ 1 < a ∨ y < 0 ∨ σ 28 0 < y
  · rw [if_pos h1] at h; omega
  · rw [if_neg h1] at h
    by_cases h2 : σ 6 0 ≠ 0 ∨ σ 13 x ≠ 0 ∨ σ 3 0 < σ 12 x ∨ σ 10 (sp_tr σ a) ≠ 0
    · rw [if_pos h2] at h; omega
    · have q := sp_in_b σ (a - σ 8 0)
      have q2 := sp_tr_b σ a
      have w1 := hI.1.1
      have w9 := hI.1.2.2.2.2.2.2.2.2.1
      exact ⟨pv_ind hI (by omega) (by omega) (by omega) (by omega) (by omega), show σ 2 0 ≤ σ 2 0 + 100 by omega⟩)
theorem nv_len {σ : zz_S} (hI : iv_ σ) (x : Int) : iv_ (nx_ (k_len σ x) σ (s_len σ x)) ∧ nx_ (k_len σ x) σ (s_len σ x) 2 0 ≤ σ 2 0 + 100 := nv_k hI (fun h => by
  unfold k_len at h
  split at h
  · omega
  · exact ⟨pv_3 hI (by omega), show σ 2 0 ≤ σ 2 0 + 100 by omega⟩)
theorem nv_ret {σ : zz_S} (hI : iv_ σ) (x n y : Int) : iv_ (nx_ (k_ret σ x n y) σ (s_ret σ x n y)) ∧ nx_ (k_ret σ x n y) σ (s_ret σ x n y) 2 0 ≤ σ 2 0 + 100 := nv_k hI (fun h => by
  unfold k_ret at h
  by_cases h1 : x < 1 ∨ σ 4 0 < x ∨ n < 0 ∨ 9 < n ∨ y < 0 ∨ σ 28 0 < y
  · rw [if_pos h1] at h; omega
  · exact ⟨pv_ret hI (by omega) (by omega) (by omega), show σ 2 0 ≤ σ 2 0 + 100 by omega⟩)
theorem nv_stp {σ : zz_S} (hI : iv_ σ) (x : Int) (hs : σ 2 0 ≤ 99999900) : iv_ (nx_ (k_stp σ x) σ (s_stp σ x)) ∧ nx_ (k_stp σ x) σ (s_stp σ x) 2 0 ≤ σ 2 0 + 100 := nv_k hI (fun h => by
  unfold k_stp at h
  split at h
  · omega
  · split at h
    · omega
    · rename_i h1 h2
      obtain ⟨a, -, -, -, b⟩ := pv_im hI (by omega) x.toNat (by omega)
      exact ⟨a, show it_ms σ x.toNat 2 0 ≤ σ 2 0 + 100 by omega⟩)
theorem nv_chu {σ : zz_S} (hI : iv_ σ) (x f : Int) (hf : f = 0 ∨ f = 1) : iv_ (nx_ (k_chu σ x) σ (up_a σ 11 x f)) ∧ nx_ (k_chu σ x) σ (up_a σ 11 x f) 2 0 ≤ σ 2 0 + 100 := nv_k hI (fun _ => ⟨pv_11 hI hf, show σ 2 0 ≤ σ 2 0 + 100 by omega⟩)
theorem sp_db_2 (σ : zz_S) (i : Int) : sp_db σ i 2 = σ 2 := by unfold sp_db; split <;> rfl
theorem it_da_2 (σ : zz_S) (a : Int) : ∀ k : Nat, it_da σ a k 2 = σ 2
  | 0 => rfl
  | k + 1 => (sp_db_2 _ _).trans (it_da_2 σ a k)
theorem sp_ed_2 (σ : zz_S) (i : Int) : sp_ed σ i 2 = σ 2 := by unfold sp_ed; split <;> rfl
theorem it_ed_2 (σ : zz_S) : ∀ k : Nat, it_ed σ k 2 = σ 2
  | 0 => rfl
  | k + 1 => (sp_ed_2 _ _).trans (it_ed_2 σ k)
theorem nv_jam {σ : zz_S} (hI : iv_ σ) (x y : Int) : iv_ (nx_ (k_jam σ x y) σ (s_jam σ x y)) ∧ nx_ (k_jam σ x y) σ (s_jam σ x y) 2 0 ≤ σ 2 0 + 100 := nv_k hI (fun h => by
  unfold k_jam at h
  by_cases h1 : x < 0 ∨ σ 0 0 ≤ x ∨ y < 0 ∨ σ 0 0 ≤ y
  · rw [if_pos h1] at h; omega
  · rw [if_neg h1] at h
    split at h
    · omega
    · refine ⟨pv_jam hI (by omega) (by omega) (by omega), ?_⟩
      have e : s_jam σ x y 2 = σ 2 := it_da_2 (up_s σ 6 1) x _
      rw [e]; omega)
theorem nv_fou {σ : zz_S} (hI : iv_ σ) (x f : Int) (hf : f = 0 ∨ f = 1) : iv_ (nx_ (k_fou σ x) σ (up_a σ 20 x f)) ∧ nx_ (k_fou σ x) σ (up_a σ 20 x f) 2 0 ≤ σ 2 0 + 100 := nv_k hI (fun h => by
  unfold k_fou at h
  split at h
  · omega
  · exact ⟨pv_20 hI (by omega) hf, show σ 2 0 ≤ σ 2 0 + 100 by omega⟩)
theorem nv_rtk {σ : zz_S} (hI : iv_ σ) : iv_ (nx_ (k_rtk σ) σ (s_rtk σ)) ∧ nx_ (k_rtk σ) σ (s_rtk σ) 2 0 ≤ σ 2 0 + 100 := nv_k hI (fun _ => by
  refine ⟨pv_rtk hI, ?_⟩
  have e : s_rtk σ 2 = σ 2 := it_ed_2 σ _
  rw [e]; omega)
theorem nv_man {σ : zz_S} (hI : iv_ σ) (x y : Int) : iv_ (nx_ (k_man σ x y) σ (s_man σ x y)) ∧ nx_ (k_man σ x y) σ (s_man σ x y) 2 0 ≤ σ 2 0 + 100 := nv_k hI (fun h => by
  unfold k_man at h
  by_cases h1 : x < 1 ∨ σ 4 0 < x ∨ y < 1 ∨ σ 28 0 < y
  · rw [if_pos h1] at h; omega
  · rw [if_neg h1] at h
    by_cases h2 : σ 13 x ≠ 3 ∧ σ 13 x ≠ 5
    · rw [if_pos h2] at h; omega
    · unfold s_man
      split
      · exact ⟨pv_man hI (by omega) (by omega), show σ 2 0 ≤ σ 2 0 + 100 by omega⟩
      · exact ⟨hI, by omega⟩)
theorem nv_id {σ : zz_S} (hI : iv_ σ) (k : Int) : iv_ (nx_ k σ σ) ∧ nx_ k σ σ 2 0 ≤ σ 2 0 + 100 := nv_k hI (fun _ => ⟨hI, by omega⟩)
theorem v_man_b (σ : zz_S) (y : Int) : v_man σ y = 0 ∨ v_man σ y = 1 := by unfold v_man; split <;> omega
end NX
