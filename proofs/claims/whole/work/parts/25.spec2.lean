section SQ
theorem pg_ : ∀ (m k : Nat) (f : Nat → Nat), (∀ j, j < k → f j < m) → (∀ a b, a < k → b < k → f a = f b → a = b) → k ≤ m := by
  intro m
  induction m with
  | zero =>
    intro k f h _
    cases k with
    | zero => exact Nat.le_refl _
    | succ k => exact absurd (h 0 (Nat.succ_pos k)) (Nat.not_lt_zero _)
  | succ m ih =>
    intro k f h inj
    by_cases hex : ∃ a, a < k ∧ f a = m
    · obtain ⟨a, ha, hfa⟩ := hex
      have hk := ih (k - 1) (fun j => f (if j = a then k - 1 else j)) (fun j hj => by
        show f (if j = a then k - 1 else j) < m
        by_cases q : j = a
        · rw [if_pos q]
          have h1 := h (k - 1) (by omega)
          have h2 : f (k - 1) ≠ m := fun z => by have := inj (k - 1) a (by omega) ha (by omega); omega
          omega
        · rw [if_neg q]
          have h1 := h j (by omega)
          have h2 : f j ≠ m := fun z => q (inj j a (by omega) ha (by omega))
          omega) (fun x y hx hy e => by
        have e : f (if x = a then k - 1 else x) = f (if y = a then k - 1 else y) := e
        have e2 := inj (if x = a then k - 1 else x) (if y = a then k - 1 else y) (by split <;> omega) (by split <;> omega) e
        by_cases q1 : x = a
        · by_cases q2 : y = a
          · omega
          · rw [if_pos q1, if_neg q2] at e2; omega
        · by_cases q2 : y = a
          · rw [if_neg q1, if_pos q2] at e2; omega
          · rw [if_neg q1, if_neg q2] at e2; exact e2)
      omega
    · have hk := ih k f (fun j hj => by have h1 := h j hj; have h2 : f j ≠ m := fun q => hex ⟨j, hj, q⟩; omega) inj
      omega
/-- as long as an item is on a tray, not all have left -/
theorem lf_lt {lo : Int} {σ : zz_S} (hI : ir_ lo σ) {i : Int} (hi : 1 ≤ i ∧ i ≤ σ 4 0) (ht : σ 18 i ≠ -1) : σ 5 0 < 60 := by
  obtain ⟨⟨j1, j2, j3, j4, j5, j6, j7, j8, j9, j10⟩, j11, j12, j13, j14, j15, j16, j17, j18, j19, j20, j21, j22, j23, j24⟩ := hI
  have hn : ∀ j, 0 ≤ j → j < σ 5 0 → σ 23 j ≠ i := fun j h1 h2 q => by
    have h3 := (j14 j h1 h2).2.2.1
    have h4 := (j13 i hi.1 hi.2).2.2.2.2.2.2.2.2.2.2.2.2.1
    rw [q] at h3
    omega
  have hk := pg_ (σ 4 0 - 1).toNat (σ 5 0).toNat (fun j => ((if σ 23 j = σ 4 0 then i else σ 23 j) - 1).toNat) (fun j hj => by
    show ((if σ 23 j = σ 4 0 then i else σ 23 j) - 1).toNat < _
    have h1 := j14 j (by omega) (by omega)
    have h2 := hn j (by omega) (by omega)
    split <;> omega) (fun a b ha hb e => by
    have e : ((if σ 23 a = σ 4 0 then i else σ 23 a) - 1).toNat = ((if σ 23 b = σ 4 0 then i else σ 23 b) - 1).toNat := e
    have h1 := j14 a (by omega) (by omega)
    have h2 := hn a (by omega) (by omega)
    have h3 := j14 b (by omega) (by omega)
    have h4 := hn b (by omega) (by omega)
    have h5 := j18 a b (by omega) (by omega) (by omega) (by omega)
    have h6 : σ 23 a = σ 23 b := by
      by_cases q1 : σ 23 a = σ 4 0
      · by_cases q2 : σ 23 b = σ 4 0
        · omega
        · rw [if_pos q1, if_neg q2] at e; omega
      · by_cases q2 : σ 23 b = σ 4 0
        · rw [if_neg q1, if_pos q2] at e; omega
        · rw [if_neg q1, if_neg q2] at e; omega
    have h7 := h5 h6
    omega)
  omega
/-- a tray comes to a chute -/
def sp_pd (σ : zz_S) (c i : Int) : zz_S := if i = 0 ∨ σ 14 i ≠ c then σ else if σ 11 c = 0 then sp_lv σ i 2 c else if σ 1 0 < σ 15 i + 1 then sp_lv (up_a σ 15 i (σ 15 i + 1)) i 4 (-1) else up_a σ 15 i (σ 15 i + 1)
def sp_pc (σ : zz_S) (c : Int) : zz_S := sp_pd σ c (σ 10 (sp_tr σ (c * 2)))
/-- a tray comes to position 0 -/
def sp_rd (σ : zz_S) (i : Int) : zz_S := if i = 0 ∨ σ 14 i ≠ 0 then σ else if σ 16 i = 0 then sp_lv σ i 3 0 else if σ 16 i - 1 = 0 then up_a (up_a σ 16 i (σ 16 i - 1)) 14 i (σ 17 i) else up_a σ 16 i (σ 16 i - 1)
def sp_ra (σ : zz_S) : zz_S := sp_rd σ (σ 10 (sp_tr σ 0))
/-- doubts -/
def sp_db (σ : zz_S) (i : Int) : zz_S := if i = 0 then σ else up_s (up_a (up_a (up_a σ 19 i 1) 20 i 0) 27 (σ 7 0) i) 7 (σ 7 0 + 1)
def sp_da (σ : zz_S) (x : Int) : zz_S := sp_db σ (σ 10 (sp_tr σ x))
def sp_ed (σ : zz_S) (i : Int) : zz_S := if σ 20 i = 0 then sp_lv (up_a σ 19 i 0) i 5 (-2) else up_a σ 19 i 0
/-- counted: trays that are empty, items that are out, doubted ones that are not found, items on trays that are longer -/
def f_et (σ : zz_S) (t : Int) : Int := if σ 10 t = 0 then 1 else 0
def f_ou (σ : zz_S) (k : Int) : Int := if σ 13 (k + 1) = 2 then 1 else 0
def f_nf (σ : zz_S) (k : Int) : Int := if σ 20 (σ 27 k) = 0 then 1 else 0
def f_lg (σ : zz_S) (x t : Int) : Int := if σ 10 t ≠ 0 ∧ x < σ 12 (σ 10 t) then 1 else 0
theorem f_et_b (σ : zz_S) (t : Int) : (f_et σ t = 1 ∧ σ 10 t = 0) ∨ (f_et σ t = 0 ∧ σ 10 t ≠ 0) := by unfold f_et; split <;> omega
theorem f_ou_b (σ : zz_S) (t : Int) : (f_ou σ t = 1 ∧ σ 13 (t + 1) = 2) ∨ (f_ou σ t = 0 ∧ σ 13 (t + 1) ≠ 2) := by unfold f_ou; split <;> omega
theorem f_nf_b (σ : zz_S) (t : Int) : (f_nf σ t = 1 ∧ σ 20 (σ 27 t) = 0) ∨ (f_nf σ t = 0 ∧ σ 20 (σ 27 t) ≠ 0) := by unfold f_nf; split <;> omega
theorem f_lg_b (σ : zz_S) (x t : Int) : (f_lg σ x t = 1 ∧ σ 10 t ≠ 0 ∧ x < σ 12 (σ 10 t)) ∨ (f_lg σ x t = 0 ∧ (σ 10 t = 0 ∨ σ 12 (σ 10 t) ≤ x)) := by unfold f_lg; split <;> omega
theorem f_et_r (σ : zz_S) (t : Int) : 0 ≤ f_et σ t ∧ f_et σ t ≤ 1 := by have := f_et_b σ t; omega
theorem f_ou_r (σ : zz_S) (t : Int) : 0 ≤ f_ou σ t ∧ f_ou σ t ≤ 1 := by have := f_ou_b σ t; omega
theorem f_nf_r (σ : zz_S) (t : Int) : 0 ≤ f_nf σ t ∧ f_nf σ t ≤ 1 := by have := f_nf_b σ t; omega
theorem f_lg_r (σ : zz_S) (x t : Int) : 0 ≤ f_lg σ x t ∧ f_lg σ x t ≤ 1 := by have := f_lg_b σ x t; omega
end SQ
