section PX
theorem kp_pc0 (σ : zz_S) (c : Int) : sp_pc σ c 0 = σ 0 := by
  unfold sp_pc sp_pd; split
  · rfl
  · split
    · rfl
    · split <;> rfl
theorem kp_pc1 (σ : zz_S) (c : Int) : sp_pc σ c 1 = σ 1 := by
  unfold sp_pc sp_pd; split
  · rfl
  · split
    · rfl
    · split <;> rfl
theorem kp_pc2 (σ : zz_S) (c : Int) : sp_pc σ c 2 = σ 2 := by
  unfold sp_pc sp_pd; split
  · rfl
  · split
    · rfl
    · split <;> rfl
theorem kp_pc3 (σ : zz_S) (c : Int) : sp_pc σ c 3 = σ 3 := by
  unfold sp_pc sp_pd; split
  · rfl
  · split
    · rfl
    · split <;> rfl
theorem kp_pc4 (σ : zz_S) (c : Int) : sp_pc σ c 4 = σ 4 := by
  unfold sp_pc sp_pd; split
  · rfl
  · split
    · rfl
    · split <;> rfl
theorem kp_pc6 (σ : zz_S) (c : Int) : sp_pc σ c 6 = σ 6 := by
  unfold sp_pc sp_pd; split
  · rfl
  · split
    · rfl
    · split <;> rfl
theorem kp_pc7 (σ : zz_S) (c : Int) : sp_pc σ c 7 = σ 7 := by
  unfold sp_pc sp_pd; split
  · rfl
  · split
    · rfl
    · split <;> rfl
theorem kp_pc8 (σ : zz_S) (c : Int) : sp_pc σ c 8 = σ 8 := by
  unfold sp_pc sp_pd; split
  · rfl
  · split
    · rfl
    · split <;> rfl
theorem kp_pc28 (σ : zz_S) (c : Int) : sp_pc σ c 28 = σ 28 := by
  unfold sp_pc sp_pd; split
  · rfl
  · split
    · rfl
    · split <;> rfl
theorem kp_pc11 (σ : zz_S) (c : Int) : sp_pc σ c 11 = σ 11 := by
  unfold sp_pc sp_pd; split
  · rfl
  · split
    · rfl
    · split <;> rfl
theorem kp_pc12 (σ : zz_S) (c : Int) : sp_pc σ c 12 = σ 12 := by
  unfold sp_pc sp_pd; split
  · rfl
  · split
    · rfl
    · split <;> rfl
theorem kp_pc14 (σ : zz_S) (c : Int) : sp_pc σ c 14 = σ 14 := by
  unfold sp_pc sp_pd; split
  · rfl
  · split
    · rfl
    · split <;> rfl
theorem kp_pc16 (σ : zz_S) (c : Int) : sp_pc σ c 16 = σ 16 := by
  unfold sp_pc sp_pd; split
  · rfl
  · split
    · rfl
    · split <;> rfl
theorem kp_pc17 (σ : zz_S) (c : Int) : sp_pc σ c 17 = σ 17 := by
  unfold sp_pc sp_pd; split
  · rfl
  · split
    · rfl
    · split <;> rfl
theorem kp_pc19 (σ : zz_S) (c : Int) : sp_pc σ c 19 = σ 19 := by
  unfold sp_pc sp_pd; split
  · rfl
  · split
    · rfl
    · split <;> rfl
theorem kp_pc20 (σ : zz_S) (c : Int) : sp_pc σ c 20 = σ 20 := by
  unfold sp_pc sp_pd; split
  · rfl
  · split
    · rfl
    · split <;> rfl
theorem kp_pc27 (σ : zz_S) (c : Int) : sp_pc σ c 27 = σ 27 := by
  unfold sp_pc sp_pd; split
  · rfl
  · split
    · rfl
    · split <;> rfl
theorem kp_ra0 (σ : zz_S) : sp_ra σ 0 = σ 0 := by
  unfold sp_ra sp_rd; split
  · rfl
  · split
    · rfl
    · split <;> rfl
theorem kp_ra1 (σ : zz_S) : sp_ra σ 1 = σ 1 := by
  unfold sp_ra sp_rd; split
  · rfl
  · split
    · rfl
    · split <;> rfl
theorem kp_ra2 (σ : zz_S) : sp_ra σ 2 = σ 2 := by
  unfold sp_ra sp_rd; split
  · rfl
  · split
    · rfl
    · split <;> rfl
theorem kp_ra3 (σ : zz_S) : sp_ra σ 3 = σ 3 := by
  unfold sp_ra sp_rd; split
  · rfl
  · split
    · rfl
    · split <;> rfl
theorem kp_ra4 (σ : zz_S) : sp_ra σ 4 = σ 4 := by
  unfold sp_ra sp_rd; split
  · rfl
  · split
    · rfl
    · split <;> rfl
theorem kp_ra6 (σ : zz_S) : sp_ra σ 6 = σ 6 := by
  unfold sp_ra sp_rd; split
  · rfl
  · split
    · rfl
    · split <;> rfl
theorem kp_ra7 (σ : zz_S) : sp_ra σ 7 = σ 7 := by
  unfold sp_ra sp_rd; split
  · rfl
  · split
    · rfl
    · split <;> rfl
theorem kp_ra8 (σ : zz_S) : sp_ra σ 8 = σ 8 := by
  unfold sp_ra sp_rd; split
  · rfl
  · split
    · rfl
    · split <;> rfl
theorem kp_ra28 (σ : zz_S) : sp_ra σ 28 = σ 28 := by
  unfold sp_ra sp_rd; split
  · rfl
  · split
    · rfl
    · split <;> rfl
theorem kp_ra11 (σ : zz_S) : sp_ra σ 11 = σ 11 := by
  unfold sp_ra sp_rd; split
  · rfl
  · split
    · rfl
    · split <;> rfl
theorem kp_ra12 (σ : zz_S) : sp_ra σ 12 = σ 12 := by
  unfold sp_ra sp_rd; split
  · rfl
  · split
    · rfl
    · split <;> rfl
theorem kp_ra15 (σ : zz_S) : sp_ra σ 15 = σ 15 := by
  unfold sp_ra sp_rd; split
  · rfl
  · split
    · rfl
    · split <;> rfl
theorem kp_ra17 (σ : zz_S) : sp_ra σ 17 = σ 17 := by
  unfold sp_ra sp_rd; split
  · rfl
  · split
    · rfl
    · split <;> rfl
theorem kp_ra19 (σ : zz_S) : sp_ra σ 19 = σ 19 := by
  unfold sp_ra sp_rd; split
  · rfl
  · split
    · rfl
    · split <;> rfl
theorem kp_ra20 (σ : zz_S) : sp_ra σ 20 = σ 20 := by
  unfold sp_ra sp_rd; split
  · rfl
  · split
    · rfl
    · split <;> rfl
theorem kp_ra27 (σ : zz_S) : sp_ra σ 27 = σ 27 := by
  unfold sp_ra sp_rd; split
  · rfl
  · split
    · rfl
    · split <;> rfl
theorem pv_nd {σ : zz_S} (hI : iv_ σ) (h6 : σ 6 0 = 0) {i : Int} (hi : 1 ≤ i ∧ i ≤ σ 4 0) : σ 19 i = 0 := by
  obtain ⟨-, -, -, j13, -, -, -, -, -, -, j20, j21, -, -⟩ := hI
  have a := (j13 i hi.1 hi.2).2.2.2.2.2.2.2.1
  have b := j21 h6
  rcases a with a | a
  · exact a
  · obtain ⟨k, h1, h2, -⟩ := (j20 i hi.1 hi.2).mp a
    omega
theorem pv_on {σ : zz_S} (hI : iv_ σ) {t : Int} (h0 : 0 ≤ t) (h : σ 10 t ≠ 0) : (1 ≤ σ 10 t ∧ σ 10 t ≤ σ 4 0) ∧ σ 18 (σ 10 t) = t ∧ σ 18 (σ 10 t) ≠ -1 := by
  have a := hI.2.1 t
  have b := a.2.2 h
  exact ⟨by omega, b, by omega⟩
theorem tr_in {σ : zz_S} (hw : iw_ σ) {x : Int} (h : 0 ≤ x ∧ x < σ 0 0) : 0 ≤ sp_tr σ x ∧ sp_tr σ x < σ 0 0 := by
  have a := sp_in_b σ (x - σ 8 0)
  have b := sp_tr_b σ x
  have c := hw.2.2.2.2.2.2.2.2.1
  omega
theorem pv_pc {σ : zz_S} (hI : iv_ σ) (h6 : σ 6 0 = 0) {c : Int} (hc : 1 ≤ c ∧ c ≤ σ 28 0) : iv_ (sp_pc σ c) := by
  have hw := hI.1
  have j10 := hw.2.2.2.2.2.2.2.2.2
  have ht := tr_in hw (x := c * 2) (by omega)
  unfold sp_pc sp_pd
  split
  · exact hI
  · rename_i h
    have ho := pv_on hI ht.1 (t := sp_tr σ (c * 2)) (by omega)
    have hn := pv_nd hI h6 ho.1
    have hit := hI.2.2.2.1 _ ho.1.1 ho.1.2
    have hr := hit.2.2.2.1
    have h13 := hit.2.2.2.2.2.2.2.2.2.2.2.2.1.mpr ho.2.2
    have hm := hit.2.2.2.2.2.2.2.2.2.2.2.2.2 (by omega)
    have h1 := hw.2.1
    split
    · exact pv_lv hI ho.1 ho.2.2 hn (by omega) (by omega)
    · split
      · exact pv_lr hI ho.1 ho.2.2 hn (by omega) (by omega) (by omega)
      · exact pv_15 hI ho.1 ho.2.2 (by omega)
theorem pv_ra {σ : zz_S} (hI : iv_ σ) (h6 : σ 6 0 = 0) : iv_ (sp_ra σ) := by
  have hw := hI.1
  have ht := tr_in hw (x := 0) (by have := hw.1; omega)
  unfold sp_ra sp_rd
  split
  · exact hI
  · rename_i h
    have ho := pv_on hI ht.1 (t := sp_tr σ 0) (by omega)
    have hn := pv_nd hI h6 ho.1
    have hit := hI.2.2.2.1 _ ho.1.1 ho.1.2
    have h16 := hit.2.2.2.2.1
    have h17 := hit.2.2.2.2.2.1
    split
    · exact pv_lv hI ho.1 ho.2.2 hn (by omega) (by omega)
    · have hq : iv_ (up_a σ 16 (σ 10 (sp_tr σ 0)) (σ 16 (σ 10 (sp_tr σ 0)) - 1)) := pv_16 hI ho.1 (by omega)
      split
      · exact pv_14 hq ho.1 (show 0 ≤ σ 17 (σ 10 (sp_tr σ 0)) ∧ σ 17 (σ 10 (sp_tr σ 0)) ≤ σ 28 0 by omega)
      · exact hq
theorem em_1 {a r n : Int} (hn : 0 < n) (h : r = a % n) : (a + 1) % n = if r + 1 = n then 0 else r + 1 := by
  have h1 := Int.emod_nonneg a (show n ≠ 0 by omega)
  have h2 := Int.emod_lt_of_pos a hn
  have h3 : a + 1 = (r + 1) + n * (a / n) := by have := Int.emod_add_mul_ediv a n; omega
  rw [h3, Int.add_mul_emod_self_left]
  by_cases q : r + 1 = n
  · rw [if_pos q, q, Int.emod_self]
  · rw [if_neg q]
    exact Int.emod_eq_of_lt (by omega) (by omega)
theorem pv_s1 {σ : zz_S} (hI : iv_ σ) (hs : σ 2 0 < 100000000) : iv_ (sp_s1 σ) := by
  obtain ⟨⟨j1, j2, j3, j4, j5, j6, j7, j8, j9, j10⟩, j11, j12, j13, j14, j15, j16, j17, j18, j19, j20, j21, j22, j23, j24⟩ := hI
  have e8 : sp_s1 σ 8 0 = sp_in σ (σ 8 0 + 1) := rfl
  have b := sp_in_b σ (σ 8 0 + 1)
  refine ⟨⟨j1, j2, (show 0 ≤ σ 2 0 + 1 ∧ σ 2 0 + 1 ≤ 100000000 by omega), j4, j5, j6, j7, j8, (show 0 ≤ sp_in σ (σ 8 0 + 1) ∧ sp_in σ (σ 8 0 + 1) < σ 0 0 by omega), j10⟩, j11, j12, j13, j14, j15, j16, ?_, j18, j19, j20, j21, j22, j23, j24⟩
  show sp_in σ (σ 8 0 + 1) = (σ 2 0 + 1) % σ 0 0
  rw [em_1 (show 0 < σ 0 0 by omega) j17]
  split <;> omega
theorem kp_it (σ : zz_S) : ∀ k : Nat, it_pc σ k 0 = σ 0 ∧ it_pc σ k 28 = σ 28 ∧ it_pc σ k 6 = σ 6 ∧ it_pc σ k 2 = σ 2 := by
  intro k
  induction k with
  | zero => exact ⟨rfl, rfl, rfl, rfl⟩
  | succ k ih =>
    obtain ⟨a, b, c, d⟩ := ih
    exact ⟨(kp_pc0 _ _).trans a, (kp_pc28 _ _).trans b, (kp_pc6 _ _).trans c, (kp_pc2 _ _).trans d⟩
theorem it_pc_n {σ τ : zz_S} {j : Int} (h : τ = it_pc σ (j - 1).toNat) (hj : 1 ≤ j) : sp_pc τ j = it_pc σ (j + 1 - 1).toNat := by
  have h1 : (j + 1 - 1).toNat = (j - 1).toNat + 1 := by omega
  have h2 : (((j - 1).toNat : Nat) : Int) + 1 = j := by omega
  rw [h1, h]
  show _ = sp_pc (it_pc σ (j - 1).toNat) ((((j - 1).toNat : Nat) : Int) + 1)
  rw [h2]
theorem pv_it {σ : zz_S} (hI : iv_ σ) (h6 : σ 6 0 = 0) : ∀ k : Nat, (k : Int) ≤ σ 28 0 → iv_ (it_pc σ k) := by
  intro k
  induction k with
  | zero => exact fun _ => hI
  | succ k ih =>
    intro h
    have a := kp_it σ k
    exact pv_pc (ih (by omega)) (by rw [a.2.2.1]; exact h6) (by rw [a.2.1]; omega)
theorem pv_ms {σ : zz_S} (hI : iv_ σ) (h6 : σ 6 0 = 0) (hs : σ 2 0 < 100000000) : iv_ (sp_ms σ) ∧ sp_ms σ 0 = σ 0 ∧ sp_ms σ 28 = σ 28 ∧ sp_ms σ 6 = σ 6 ∧ sp_ms σ 2 0 = σ 2 0 + 1 := by
  have h28 := hI.1.2.2.2.2.2.2.2.2.2
  have a := kp_it (sp_s1 σ) (σ 28 0).toNat
  have b := pv_it (pv_s1 hI hs) h6 (σ 28 0).toNat (show (((σ 28 0).toNat : Nat) : Int) ≤ σ 28 0 by have := hI.1.1; omega)
  refine ⟨pv_ra b (by rw [a.2.2.1]; exact h6), (kp_ra0 _).trans a.1, (kp_ra28 _).trans a.2.1, (kp_ra6 _).trans a.2.2.1, ?_⟩
  have c : sp_ms σ 2 = sp_s1 σ 2 := (kp_ra2 _).trans a.2.2.2
  rw [c]; rfl
theorem pv_im {σ : zz_S} (hI : iv_ σ) (h6 : σ 6 0 = 0) : ∀ k : Nat, σ 2 0 + k ≤ 100000000 → iv_ (it_ms σ k) ∧ it_ms σ k 0 = σ 0 ∧ it_ms σ k 28 = σ 28 ∧ it_ms σ k 6 = σ 6 ∧ it_ms σ k 2 0 = σ 2 0 + k := by
  intro k
  induction k with
  | zero => exact fun _ => ⟨hI, rfl, rfl, rfl, by show σ 2 0 = _; omega⟩
  | succ k ih =>
    intro h
    obtain ⟨a, b, c, d, e⟩ := ih (by omega)
    obtain ⟨a1, b1, c1, d1, e1⟩ := pv_ms a (by rw [d]; exact h6) (by omega)
    exact ⟨a1, b1.trans b, c1.trans c, d1.trans d, by show sp_ms (it_ms σ k) 2 0 = _; omega⟩
theorem it_ms_n {σ τ : zz_S} {j : Int} (h : τ = it_ms σ j.toNat) (hj : 0 ≤ j) : sp_ms τ = it_ms σ (j + 1).toNat := by
  have h1 : (j + 1).toNat = j.toNat + 1 := by omega
  rw [h1, h]
  rfl
end PX
