section QB
theorem jm_inj {σ : zz_S} (hw : iw_ σ) {a q k : Int} (ha : 0 ≤ a ∧ a < σ 0 0) (hq : 0 ≤ q ∧ q < k) (hk : k < σ 0 0) : sp_tr σ (sp_in σ (a + q)) ≠ sp_tr σ (sp_in σ (a + k)) := by
  have j9 := hw.2.2.2.2.2.2.2.2.1
  have b1 := sp_in_b σ (a + q)
  have b2 := sp_in_b σ (a + k)
  have b3 := sp_tr_b σ (sp_in σ (a + q))
  have b4 := sp_tr_b σ (sp_in σ (a + k))
  have b5 := sp_in_b σ (sp_in σ (a + q) - σ 8 0)
  have b6 := sp_in_b σ (sp_in σ (a + k) - σ 8 0)
  omega
/-- where the doubted ones stand -/
def jm_p (σ τ : zz_S) (a k : Int) : Prop := ∀ m, 0 ≤ m → m < τ 7 0 → ∃ q, 0 ≤ q ∧ q < k ∧ σ 18 (τ 27 m) = sp_tr σ (sp_in σ (a + q))
theorem jm_s {σ τ : zz_S} (hI : iv_ σ) (hT : iv_ τ) (h6 : τ 6 0 = 1) {a k : Int} (ha : 0 ≤ a ∧ a < σ 0 0) (hk : 0 ≤ k ∧ k < σ 0 0) (hj : jm_p σ τ a k) (h7 : τ 7 0 ≤ k) (e0 : τ 0 0 = σ 0 0) (e4 : τ 4 0 = σ 4 0) (e8 : τ 8 0 = σ 8 0) (e10 : τ 10 = σ 10) (e18 : τ 18 = σ 18) : iv_ (sp_da τ (sp_in σ (a + k))) ∧ jm_p σ (sp_da τ (sp_in σ (a + k))) a (k + 1) := by
  have hw := hI.1
  have hn := hw.1
  have b1 := sp_in_b σ (a + k)
  have ht := tr_in hw (x := sp_in σ (a + k)) (by omega)
  unfold sp_da
  rw [sp_tr_e e0 e8, e10]
  by_cases q : σ 10 (sp_tr σ (sp_in σ (a + k))) = 0
  · unfold sp_db
    rw [if_pos q]
    refine ⟨hT, fun m h1 h2 => ?_⟩
    obtain ⟨r, r1, r2, r3⟩ := hj m h1 h2
    exact ⟨r, r1, by omega, r3⟩
  · have ho := pv_on hI ht.1 q
    have hno : ∀ m, 0 ≤ m → m < τ 7 0 → τ 27 m ≠ σ 10 (sp_tr σ (sp_in σ (a + k))) := fun m h1 h2 z => by
      obtain ⟨r, r1, r2, r3⟩ := hj m h1 h2
      rw [z, ho.2.1] at r3
      exact jm_inj hw ha ⟨r1, r2⟩ hk.2 r3.symm
    refine ⟨pv_db hT h6 (by rw [e4]; exact ho.1) (by rw [e18]; exact ho.2.2) (by omega) hno, ?_⟩
    unfold sp_db
    rw [if_neg q]
    intro m h1 h2
    have h2 : m < τ 7 0 + 1 := h2
    show ∃ r, 0 ≤ r ∧ r < k + 1 ∧ σ 18 (if m = τ 7 0 then σ 10 (sp_tr σ (sp_in σ (a + k))) else τ 27 m) = sp_tr σ (sp_in σ (a + r))
    by_cases z : m = τ 7 0
    · rw [if_pos z]
      exact ⟨k, hk.1, by omega, ho.2.1⟩
    · rw [if_neg z]
      obtain ⟨r, r1, r2, r3⟩ := hj m h1 (by omega)
      exact ⟨r, r1, by omega, r3⟩
theorem pv_6 {σ : zz_S} (hI : iv_ σ) : iv_ (up_s σ 6 1) := by
  obtain ⟨⟨j1, j2, j3, j4, j5, j6, j7, j8, j9, j10⟩, j11, j12, j13, j14, j15, j16, j17, j18, j19, j20, j21, j22, j23, j24⟩ := hI
  exact ⟨⟨j1, j2, j3, j4, j5, j6, Or.inr rfl, j8, j9, j10⟩, j11, j12, j13, j14, j15, j16, j17, j18, j19, j20, fun h => absurd (show (1 : Int) = 0 from h) (by decide), j22, j23, j24⟩
theorem pv_id {σ : zz_S} (hI : iv_ σ) (h6 : σ 6 0 = 0) {a : Int} (ha : 0 ≤ a ∧ a < σ 0 0) : ∀ k : Nat, (k : Int) ≤ σ 0 0 → iv_ (it_da (up_s σ 6 1) a k) ∧ jm_p σ (it_da (up_s σ 6 1) a k) a k := by
  have h70 := hI.2.2.2.2.2.2.2.2.2.2.2.1 h6
  intro k
  induction k with
  | zero =>
    intro _
    refine ⟨pv_6 hI, fun m h1 h2 => ?_⟩
    have h2 : m < σ 7 0 := h2
    omega
  | succ k ih =>
    intro h
    obtain ⟨a1, a2⟩ := ih (by omega)
    have g : ∀ F, F ≠ 7 ∧ F ≠ 19 ∧ F ≠ 20 ∧ F ≠ 27 → it_da (up_s σ 6 1) a k F = (up_s σ 6 1) F := fun F hF => kp_id _ a F hF k
    have e7 := kp_i7 (up_s σ 6 1) a k
    have e70 : (up_s σ 6 1) 7 0 = 0 := h70
    have r := jm_s (k := (k : Int)) hI a1 (by rw [g 6 (by decide)]; rfl) ha (by omega) a2 (by omega) (by rw [g 0 (by decide)]; rfl) (by rw [g 4 (by decide)]; rfl) (by rw [g 8 (by decide)]; rfl) (g 10 (by decide)) (g 18 (by decide))
    have e : ((k + 1 : Nat) : Int) = (k : Int) + 1 := by omega
    rw [e]
    exact r
theorem pv_jam {σ : zz_S} (hI : iv_ σ) (h6 : σ 6 0 = 0) {a b : Int} (ha : 0 ≤ a ∧ a < σ 0 0) (hb : 0 ≤ b ∧ b < σ 0 0) : iv_ (s_jam σ a b) := by
  have b1 := sp_in_b σ (b - a)
  exact (pv_id hI h6 ha (sp_in σ (b - a) + 1).toNat (by omega)).1
end QB
