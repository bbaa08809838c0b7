/-! what a state of a sorter is. Rows (places): 0 trays, 1 rounds told, 2 steps, 3 trays' length, 4 items, 5 left, 6 jammed, 7 doubted ones, 8 position of tray 0, 9 what the reference has thrown, 28 chutes (single numbers); 10 item on tray t, 11 chute c full; of item i: 12 length, 13 state, 14 code, 15 rounds, 16 retries, 17 code behind them, 18 tray, 19 doubted, 20 found, 21 left to, 22 left at; of the j-th that left: 23 item, 24 to, 25 at, 26 rounds; 27 the j-th doubted -/
section SP
abbrev iv_it (σ : zz_S) (i : Int) : Prop := (1 ≤ σ 12 i ∧ σ 12 i ≤ 100) ∧ (0 ≤ σ 13 i ∧ σ 13 i ≤ 5) ∧ (0 ≤ σ 14 i ∧ σ 14 i ≤ σ 28 0) ∧ (0 ≤ σ 15 i ∧ σ 15 i ≤ 10) ∧ (0 ≤ σ 16 i ∧ σ 16 i ≤ 9) ∧ (0 ≤ σ 17 i ∧ σ 17 i ≤ σ 28 0) ∧ (-1 ≤ σ 18 i ∧ σ 18 i < σ 0 0) ∧ (σ 19 i = 0 ∨ σ 19 i = 1) ∧ (σ 20 i = 0 ∨ σ 20 i = 1) ∧ (-2 ≤ σ 21 i ∧ σ 21 i ≤ 6) ∧ (0 ≤ σ 22 i ∧ σ 22 i ≤ 100000000) ∧ (σ 18 i ≠ -1 → σ 10 (σ 18 i) = i) ∧ (σ 13 i = 1 ↔ σ 18 i ≠ -1) ∧ (σ 13 i ≤ 1 → σ 15 i ≤ σ 1 0)
/-- a new item's numbers -/
abbrev iv_nw (σ : zz_S) (i : Int) : Prop := σ 13 i = 0 ∧ σ 14 i = 0 ∧ σ 15 i = 0 ∧ σ 16 i = 0 ∧ σ 17 i = 0 ∧ σ 18 i = -1 ∧ σ 19 i = 0 ∧ σ 20 i = 0 ∧ σ 21 i = 0 ∧ σ 22 i = 0
/-- the single numbers' bounds -/
abbrev iw_ (σ : zz_S) : Prop :=
  (2 ≤ σ 0 0 ∧ σ 0 0 ≤ 40) ∧ (0 ≤ σ 1 0 ∧ σ 1 0 ≤ 9) ∧ (0 ≤ σ 2 0 ∧ σ 2 0 ≤ 100000000) ∧ (1 ≤ σ 3 0 ∧ σ 3 0 ≤ 100) ∧ (0 ≤ σ 4 0 ∧ σ 4 0 ≤ 60) ∧ (0 ≤ σ 5 0 ∧ σ 5 0 ≤ 60) ∧ (σ 6 0 = 0 ∨ σ 6 0 = 1) ∧ (0 ≤ σ 7 0 ∧ σ 7 0 ≤ 40) ∧ (0 ≤ σ 8 0 ∧ σ 8 0 < σ 0 0) ∧ ((12 < σ 0 0 ∧ σ 28 0 = 6) ∨ (σ 0 0 ≤ 12 ∧ (2 * σ 28 0 + 1 = σ 0 0 ∨ 2 * σ 28 0 + 2 = σ 0 0)))
/-- all that holds of a state; of the doubted ones from the lo-th on -/
abbrev ir_ (lo : Int) (σ : zz_S) : Prop := iw_ σ ∧
  (∀ t, 0 ≤ σ 10 t ∧ σ 10 t ≤ σ 4 0 ∧ (σ 10 t ≠ 0 → σ 18 (σ 10 t) = t)) ∧ (∀ c, σ 11 c = 0 ∨ σ 11 c = 1) ∧ (∀ i, 1 ≤ i → i ≤ σ 4 0 → iv_it σ i) ∧
  (∀ j, 0 ≤ j → j < σ 5 0 → 1 ≤ σ 23 j ∧ σ 23 j ≤ σ 4 0 ∧ 2 ≤ σ 13 (σ 23 j) ∧ σ 24 j = σ 21 (σ 23 j) ∧ σ 25 j = σ 22 (σ 23 j) ∧ σ 26 j = σ 15 (σ 23 j)) ∧
  (∀ j, lo ≤ j → j < σ 7 0 → 1 ≤ σ 27 j ∧ σ 27 j ≤ σ 4 0 ∧ σ 18 (σ 27 j) ≠ -1) ∧
  (∀ i, σ 4 0 < i → iv_nw σ i) ∧ (σ 8 0 = σ 2 0 % σ 0 0) ∧
  (∀ j k, 0 ≤ j → j < σ 5 0 → 0 ≤ k → k < σ 5 0 → σ 23 j = σ 23 k → j = k) ∧ (∀ j k, 0 ≤ j → j < σ 7 0 → 0 ≤ k → k < σ 7 0 → σ 27 j = σ 27 k → j = k) ∧
  (∀ i, 1 ≤ i → i ≤ σ 4 0 → (σ 19 i = 1 ↔ ∃ k, lo ≤ k ∧ k < σ 7 0 ∧ σ 27 k = i)) ∧ (σ 6 0 = 0 → σ 7 0 = 0) ∧ (∀ j, 0 ≤ σ 23 j ∧ σ 23 j ≤ σ 4 0) ∧ (∀ j, 0 ≤ σ 27 j ∧ σ 27 j ≤ σ 4 0) ∧ (∀ t, t < 0 → σ 10 t = 0)
abbrev iv_ (σ : zz_S) : Prop := ir_ 0 σ
def sp_fl (σ : zz_S) (F : Nat) (n : Int) : Int := if n ≤ σ F 0 then 1 else 0
/-- a sum or a difference of two places, brought into the loop -/
def sp_in (σ : zz_S) (x : Int) : Int := if x < 0 then x + σ 0 0 else if x < σ 0 0 then x else x - σ 0 0
/-- the tray at a position -/
def sp_tr (σ : zz_S) (x : Int) : Int := sp_in σ (x - σ 8 0)
def sp_il (σ : zz_S) (x : Int) : Int := if 0 ≤ x ∧ x < σ 0 0 then 1 else 0
def sp_ch (σ : zz_S) (x : Int) : Int := if 1 ≤ x ∧ x ≤ σ 28 0 then 1 else 0
def sp_fu (σ : zz_S) (x : Int) : Int := if 1 ≤ x ∧ x ≤ σ 28 0 then σ 11 x else 0
def sp_po (σ : zz_S) (i : Int) : Int := if σ 18 i = -1 then -1 else sp_in σ (σ 18 i + σ 8 0)
/-- an item comes onto a tray; an item leaves its tray -/
def sp_pu (σ : zz_S) (i t : Int) : zz_S := up_a (up_a (up_a σ 10 t i) 18 i t) 13 i 1
def sp_lv (σ : zz_S) (i st lt : Int) : zz_S := up_s (up_a (up_a (up_a (up_a (up_a (up_a (up_a (up_a (up_a σ 10 (σ 18 i) 0) 18 i (-1)) 13 i st) 21 i lt) 22 i (σ 2 0)) 23 (σ 5 0) i) 24 (σ 5 0) lt) 25 (σ 5 0) (σ 2 0)) 26 (σ 5 0) (σ 15 i)) 5 (σ 5 0 + 1)
def sp_ai (σ : zz_S) (x : Int) : Int := if 0 ≤ x ∧ x < σ 4 0 then x + 1 else 0
def sp_al (σ : zz_S) (x : Int) : Int := if 0 ≤ x ∧ x < σ 5 0 then σ 23 x else 0
def sp_ad (σ : zz_S) (x : Int) : Int := if 0 ≤ x ∧ x < σ 7 0 then σ 27 x else 0
theorem sp_fl_b (σ : zz_S) (F : Nat) (n : Int) : (sp_fl σ F n = 1 ∧ n ≤ σ F 0) ∨ (sp_fl σ F n = 0 ∧ σ F 0 < n) := by
  unfold sp_fl; split <;> omega
theorem sp_in_b (σ : zz_S) (x : Int) : (x < 0 ∧ sp_in σ x = x + σ 0 0) ∨ (0 ≤ x ∧ x < σ 0 0 ∧ sp_in σ x = x) ∨ (0 ≤ x ∧ σ 0 0 ≤ x ∧ sp_in σ x = x - σ 0 0) := by
  unfold sp_in; split
  · omega
  · split <;> omega
theorem sp_il_b (σ : zz_S) (x : Int) : (sp_il σ x = 1 ∧ 0 ≤ x ∧ x < σ 0 0) ∨ (sp_il σ x = 0 ∧ (x < 0 ∨ σ 0 0 ≤ x)) := by
  unfold sp_il; split <;> omega
theorem sp_ch_b (σ : zz_S) (x : Int) : (sp_ch σ x = 1 ∧ 1 ≤ x ∧ x ≤ σ 28 0) ∨ (sp_ch σ x = 0 ∧ (x < 1 ∨ σ 28 0 < x)) := by
  unfold sp_ch; split <;> omega
theorem sp_fu_b (σ : zz_S) (x : Int) : (sp_fu σ x = σ 11 x ∧ 1 ≤ x ∧ x ≤ σ 28 0) ∨ (sp_fu σ x = 0 ∧ (x < 1 ∨ σ 28 0 < x)) := by
  unfold sp_fu; split <;> omega
theorem sp_tr_b (σ : zz_S) (x : Int) : sp_tr σ x = sp_in σ (x - σ 8 0) := rfl
theorem sp_po_b (σ : zz_S) (i : Int) : (σ 18 i = -1 ∧ sp_po σ i = -1) ∨ (σ 18 i ≠ -1 ∧ sp_po σ i = sp_in σ (σ 18 i + σ 8 0)) := by
  unfold sp_po; split <;> omega
theorem sp_ai_b (σ : zz_S) (x : Int) : (0 ≤ x ∧ x < σ 4 0 ∧ sp_ai σ x = x + 1) ∨ ((x < 0 ∨ σ 4 0 ≤ x) ∧ sp_ai σ x = 0) := by
  unfold sp_ai; split <;> omega
theorem sp_al_b (σ : zz_S) (x : Int) : (0 ≤ x ∧ x < σ 5 0 ∧ sp_al σ x = σ 23 x) ∨ ((x < 0 ∨ σ 5 0 ≤ x) ∧ sp_al σ x = 0) := by
  unfold sp_al; split <;> omega
theorem sp_ad_b (σ : zz_S) (x : Int) : (0 ≤ x ∧ x < σ 7 0 ∧ sp_ad σ x = σ 27 x) ∨ ((x < 0 ∨ σ 7 0 ≤ x) ∧ sp_ad σ x = 0) := by
  unfold sp_ad; split <;> omega
end SP
