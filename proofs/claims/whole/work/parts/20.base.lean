/-! numbers: every int of the walk is written zz_i a, a an integer; rows of the kit turned to that form -/
section ZZ
def zz_i (a : Int) : Int32 := Int32.ofInt a
theorem zz_self (x : Int32) : zz_i x.toInt = x := Int32.ofInt_toInt x
theorem zz_bd (x : Int32) : -2147483648 ≤ x.toInt ∧ x.toInt < 2147483648 := ⟨by have := Int32.le_toInt x; omega, by have := Int32.toInt_lt x; omega⟩
theorem zz_toInt {a : Int} (h : -2147483648 ≤ a ∧ a < 2147483648) : (zz_i a).toInt = a := Int32.toInt_ofInt_of_le (by omega) (by omega)
theorem zz_lt {a b : Int} (ha : -2147483648 ≤ a ∧ a < 2147483648) (hb : -2147483648 ≤ b ∧ b < 2147483648) : zz_i a < zz_i b ↔ a < b := by
  rw [Int32.lt_iff_toInt_lt, zz_toInt ha, zz_toInt hb]
theorem zz_le {a b : Int} (ha : -2147483648 ≤ a ∧ a < 2147483648) (hb : -2147483648 ≤ b ∧ b < 2147483648) : zz_i a ≤ zz_i b ↔ a ≤ b := by
  rw [Int32.le_iff_toInt_le, zz_toInt ha, zz_toInt hb]
theorem zz_eq {a b : Int} (ha : -2147483648 ≤ a ∧ a < 2147483648) (hb : -2147483648 ≤ b ∧ b < 2147483648) : zz_i a = zz_i b ↔ a = b := by
  rw [← Int32.toInt_inj, zz_toInt ha, zz_toInt hb]
theorem zz_add (a b : Int) : zz_i a + zz_i b = zz_i (a + b) := (Int32.ofInt_add a b).symm
theorem zz_sub (a b : Int) : zz_i a - zz_i b = zz_i (a - b) := (Int32.ofInt_sub a b).symm
theorem zz_mul (a b : Int) : zz_i a * zz_i b = zz_i (a * b) := (Int32.ofInt_mul a b).symm
theorem zz_0 : zz_i 0 = 0 := rfl
theorem zz_nat {a : Int} (h : 0 ≤ a ∧ a < 2147483648) : (zz_i a).toNatClampNeg = a.toNat := Int32.toNatClampNeg_ofInt_of_le (by omega) (by omega)
theorem zz_in {a : Int} {n : Nat} (h : 0 ≤ a ∧ a < n) (hn : n < 2147483648) : vp_in (zz_i a) n := by
  rw [vp_in_iff, zz_toInt (by omega)]; exact h
theorem zz_div {a b : Int} (ha : 0 ≤ a ∧ a < 2147483648) (hb : 0 < b ∧ b < 2147483648) : zz_i a / zz_i b = zz_i (a / b) := by
  have h1 : (zz_i a / zz_i b).toInt = a.tdiv b := by
    rw [Int32.toInt_div_of_ne_left _ _ (fun h => by have h2 := congrArg Int32.toInt h; rw [zz_toInt (by omega)] at h2; have : Int32.minValue.toInt = -2147483648 := rfl; omega), zz_toInt (by omega), zz_toInt (by omega)]
  have h2 : a.tdiv b = a / b := Int.tdiv_eq_ediv_of_nonneg ha.1
  have h3 := Int.ediv_le_self b ha.1
  have h4 := Int.ediv_nonneg ha.1 (show 0 ≤ b by omega)
  rw [← Int32.toInt_inj, h1, h2, zz_toInt (by omega)]
theorem zz_rem {a b : Int} (ha : 0 ≤ a ∧ a < 2147483648) (hb : 0 < b ∧ b < 2147483648) : zz_i a - zz_i a / zz_i b * zz_i b = zz_i (a % b) := by
  rw [zz_div ha hb, zz_mul, zz_sub]
  congr 1
  have := Int.emod_def a b
  have h2 : a / b * b = b * (a / b) := Int.mul_comm _ _
  omega
theorem zz_pred (x : Int) : ∃ y : Int, zz_i (x - 1) = zz_i y ∧ ((x = -2147483648 ∧ y = 2147483647) ∨ (x ≠ -2147483648 ∧ y = x - 1)) := by
  by_cases h : x = -2147483648
  · exact ⟨2147483647, by rw [h]; decide, Or.inl ⟨h, rfl⟩⟩
  · exact ⟨x - 1, rfl, Or.inr ⟨h, rfl⟩⟩
/-- one place of a row changed -/
def up_i (g : Int → Int) (a v : Int) : Int → Int := fun j => if j = a then v else g j
/-- the numbers of a sorter: a row of integers for each name (a number), a single number stands at place 0 of its row -/
abbrev zz_S : Type := Nat → Int → Int
def up_a (σ : zz_S) (F : Nat) (a v : Int) : zz_S := fun G => bif Nat.beq G F then up_i (σ F) a v else σ G
def up_s (σ : zz_S) (F : Nat) (v : Int) : zz_S := fun G => bif Nat.beq G F then (fun _ => v) else σ G
theorem up_i_s (g : Int → Int) (a v : Int) : up_i g a v a = v := by simp [up_i]
theorem up_i_n {g : Int → Int} {a v j : Int} (h : j ≠ a) : up_i g a v j = g j := by simp [up_i, h]
theorem up_i_ap (g : Int → Int) (a v j : Int) : up_i g a v j = if j = a then v else g j := rfl
theorem up_a_s (σ : zz_S) (F : Nat) (a v : Int) : up_a σ F a v F = up_i (σ F) a v := by simp [up_a]
theorem up_a_n {σ : zz_S} {F G : Nat} {a v : Int} (h : G ≠ F) : up_a σ F a v G = σ G := by
  have : Nat.beq G F = false := by cases hq : Nat.beq G F with | true => exact absurd (Nat.eq_of_beq_eq_true hq) h | false => rfl
  simp [up_a, this]
theorem up_s_s (σ : zz_S) (F : Nat) (v j : Int) : up_s σ F v F j = v := by simp [up_s]
theorem up_s_n {σ : zz_S} {F G : Nat} {v : Int} (h : G ≠ F) : up_s σ F v G = σ G := by
  have : Nat.beq G F = false := by cases hq : Nat.beq G F with | true => exact absurd (Nat.eq_of_beq_eq_true hq) h | false => rfl
  simp [up_s, this]
theorem zz_upd {g : Int → Int} {a v : Int} (h : 0 ≤ a ∧ a < 2147483648) : upd (fun j : Nat => zz_i (g j)) (zz_i a).toNatClampNeg (zz_i v) = fun j : Nat => zz_i (up_i g a v j) := by
  funext j
  rw [zz_nat h]
  simp only [upd, up_i]
  by_cases q : j = a.toNat
  · rw [if_pos q, if_pos (by omega)]
  · rw [if_neg q, if_neg (by omega)]
theorem zz_nar {v : Int} (h : v = 0 ∨ v = 1) : vp_nar .boolean (zz_i v) = zz_i v := by rcases h with rfl | rfl <;> decide
theorem zz_narB {v : Int} (h : v = 0 ∨ v = 1) : narrow .boolean (.int (zz_i v)) = .int (zz_i v) := by rcases h with rfl | rfl <;> decide
theorem zz_fitB {v : Int} (h : v = 0 ∨ v = 1) : fits .boolean (.int (zz_i v)) = true := by rcases h with rfl | rfl <;> decide
end ZZ
section ZR
variable {p : Program} {l : Launch} {e : Env} {R : Room} {s : State} {m : MethodId} {args : Array Value} {below : List Frame} {meth : Method} {c : Code} {H : Heap} {locs : List Loc} {cells slots : Nat} {Q : State → Prop} {cc : ByteArray} {pc : Nat} {ls : Array Slot} {rest : List Value} {D : va_G} {cl : List vw_C} {A : Nat → Prop} {aa : Nat} {tys : List (ClassId × FieldType)} {ws : va_W} {H0 : Heap} {a b : Int} {off : Int} {tgt : Nat}
theorem zz_icmp_eq (hx : p.tables.exec = Jvm.exec) (hb : c.code = cc) (hdg : decode cc pc = .ok (.if_icmp .eq off, 3)) (ht : (pc : Int) + off = (tgt : Int)) (ha : -2147483648 ≤ a ∧ a < 2147483648) (hb2 : -2147483648 ≤ b ∧ b < 2147483648)
    (kt : a = b → W p l e R s m args below meth c H locs cells slots Q (F0 m tgt ls rest)) (kf : a ≠ b → W p l e R s m args below meth c H locs cells slots Q (F0 m (pc + 3) ls rest)) : W p l e R s m args below meth c H locs cells slots Q (F0 m pc ls (.int (zz_i b) :: .int (zz_i a) :: rest)) :=
  lv_icmp_eq hx hb hdg ht (fun h => kt ((zz_eq ha hb2).mp h)) (fun h => kf (fun q => h ((zz_eq ha hb2).mpr q)))
theorem zz_icmp_ne (hx : p.tables.exec = Jvm.exec) (hb : c.code = cc) (hdg : decode cc pc = .ok (.if_icmp .ne off, 3)) (ht : (pc : Int) + off = (tgt : Int)) (ha : -2147483648 ≤ a ∧ a < 2147483648) (hb2 : -2147483648 ≤ b ∧ b < 2147483648)
    (kt : a ≠ b → W p l e R s m args below meth c H locs cells slots Q (F0 m tgt ls rest)) (kf : a = b → W p l e R s m args below meth c H locs cells slots Q (F0 m (pc + 3) ls rest)) : W p l e R s m args below meth c H locs cells slots Q (F0 m pc ls (.int (zz_i b) :: .int (zz_i a) :: rest)) :=
  lv_icmp_ne hx hb hdg ht (fun h => kt (fun q => h ((zz_eq ha hb2).mpr q))) (fun h => kf ((zz_eq ha hb2).mp h))
theorem zz_icmp_lt (hx : p.tables.exec = Jvm.exec) (hb : c.code = cc) (hdg : decode cc pc = .ok (.if_icmp .lt off, 3)) (ht : (pc : Int) + off = (tgt : Int)) (ha : -2147483648 ≤ a ∧ a < 2147483648) (hb2 : -2147483648 ≤ b ∧ b < 2147483648)
    (kt : a < b → W p l e R s m args below meth c H locs cells slots Q (F0 m tgt ls rest)) (kf : b ≤ a → W p l e R s m args below meth c H locs cells slots Q (F0 m (pc + 3) ls rest)) : W p l e R s m args below meth c H locs cells slots Q (F0 m pc ls (.int (zz_i b) :: .int (zz_i a) :: rest)) :=
  lv_icmp_lt hx hb hdg ht (fun h => kt ((zz_lt ha hb2).mp h)) (fun h => kf (Int.not_lt.mp (fun q => h ((zz_lt ha hb2).mpr q))))
theorem zz_icmp_ge (hx : p.tables.exec = Jvm.exec) (hb : c.code = cc) (hdg : decode cc pc = .ok (.if_icmp .ge off, 3)) (ht : (pc : Int) + off = (tgt : Int)) (ha : -2147483648 ≤ a ∧ a < 2147483648) (hb2 : -2147483648 ≤ b ∧ b < 2147483648)
    (kt : b ≤ a → W p l e R s m args below meth c H locs cells slots Q (F0 m tgt ls rest)) (kf : a < b → W p l e R s m args below meth c H locs cells slots Q (F0 m (pc + 3) ls rest)) : W p l e R s m args below meth c H locs cells slots Q (F0 m pc ls (.int (zz_i b) :: .int (zz_i a) :: rest)) :=
  lv_icmp_ge hx hb hdg ht (fun h => kt ((zz_le hb2 ha).mp h)) (fun h => kf (Int.not_le.mp (fun q => h ((zz_le hb2 ha).mpr q))))
theorem zz_icmp_gt (hx : p.tables.exec = Jvm.exec) (hb : c.code = cc) (hdg : decode cc pc = .ok (.if_icmp .gt off, 3)) (ht : (pc : Int) + off = (tgt : Int)) (ha : -2147483648 ≤ a ∧ a < 2147483648) (hb2 : -2147483648 ≤ b ∧ b < 2147483648)
    (kt : b < a → W p l e R s m args below meth c H locs cells slots Q (F0 m tgt ls rest)) (kf : a ≤ b → W p l e R s m args below meth c H locs cells slots Q (F0 m (pc + 3) ls rest)) : W p l e R s m args below meth c H locs cells slots Q (F0 m pc ls (.int (zz_i b) :: .int (zz_i a) :: rest)) :=
  lv_icmp_gt hx hb hdg ht (fun h => kt ((zz_lt hb2 ha).mp h)) (fun h => kf (Int.not_lt.mp (fun q => h ((zz_lt hb2 ha).mpr q))))
theorem zz_icmp_le (hx : p.tables.exec = Jvm.exec) (hb : c.code = cc) (hdg : decode cc pc = .ok (.if_icmp .le off, 3)) (ht : (pc : Int) + off = (tgt : Int)) (ha : -2147483648 ≤ a ∧ a < 2147483648) (hb2 : -2147483648 ≤ b ∧ b < 2147483648)
    (kt : a ≤ b → W p l e R s m args below meth c H locs cells slots Q (F0 m tgt ls rest)) (kf : b < a → W p l e R s m args below meth c H locs cells slots Q (F0 m (pc + 3) ls rest)) : W p l e R s m args below meth c H locs cells slots Q (F0 m pc ls (.int (zz_i b) :: .int (zz_i a) :: rest)) :=
  lv_icmp_le hx hb hdg ht (fun h => kt ((zz_le ha hb2).mp h)) (fun h => kf (Int.not_le.mp (fun q => h ((zz_le ha hb2).mpr q))))
theorem zz_if_eq (hx : p.tables.exec = Jvm.exec) (hb : c.code = cc) (hdg : decode cc pc = .ok (.ifCond .eq off, 3)) (ht : (pc : Int) + off = (tgt : Int)) (ha : -2147483648 ≤ a ∧ a < 2147483648)
    (kt : a = 0 → W p l e R s m args below meth c H locs cells slots Q (F0 m tgt ls rest)) (kf : a ≠ 0 → W p l e R s m args below meth c H locs cells slots Q (F0 m (pc + 3) ls rest)) : W p l e R s m args below meth c H locs cells slots Q (F0 m pc ls (.int (zz_i a) :: rest)) :=
  lv_if_eq hx hb hdg ht (fun h => kt ((zz_eq ha (by omega)).mp h)) (fun h => kf (fun q => h ((zz_eq ha (by omega)).mpr q)))
theorem zz_if_ne (hx : p.tables.exec = Jvm.exec) (hb : c.code = cc) (hdg : decode cc pc = .ok (.ifCond .ne off, 3)) (ht : (pc : Int) + off = (tgt : Int)) (ha : -2147483648 ≤ a ∧ a < 2147483648)
    (kt : a ≠ 0 → W p l e R s m args below meth c H locs cells slots Q (F0 m tgt ls rest)) (kf : a = 0 → W p l e R s m args below meth c H locs cells slots Q (F0 m (pc + 3) ls rest)) : W p l e R s m args below meth c H locs cells slots Q (F0 m pc ls (.int (zz_i a) :: rest)) :=
  lv_if_ne hx hb hdg ht (fun h => kt (fun q => h ((zz_eq ha (by omega)).mpr q))) (fun h => kf ((zz_eq ha (by omega)).mp h))
theorem zz_if_lt (hx : p.tables.exec = Jvm.exec) (hb : c.code = cc) (hdg : decode cc pc = .ok (.ifCond .lt off, 3)) (ht : (pc : Int) + off = (tgt : Int)) (ha : -2147483648 ≤ a ∧ a < 2147483648)
    (kt : a < 0 → W p l e R s m args below meth c H locs cells slots Q (F0 m tgt ls rest)) (kf : 0 ≤ a → W p l e R s m args below meth c H locs cells slots Q (F0 m (pc + 3) ls rest)) : W p l e R s m args below meth c H locs cells slots Q (F0 m pc ls (.int (zz_i a) :: rest)) :=
  lv_if_lt hx hb hdg ht (fun h => kt ((zz_lt ha (by omega)).mp h)) (fun h => kf (Int.not_lt.mp (fun q => h ((zz_lt ha (by omega)).mpr q))))
theorem zz_if_ge (hx : p.tables.exec = Jvm.exec) (hb : c.code = cc) (hdg : decode cc pc = .ok (.ifCond .ge off, 3)) (ht : (pc : Int) + off = (tgt : Int)) (ha : -2147483648 ≤ a ∧ a < 2147483648)
    (kt : 0 ≤ a → W p l e R s m args below meth c H locs cells slots Q (F0 m tgt ls rest)) (kf : a < 0 → W p l e R s m args below meth c H locs cells slots Q (F0 m (pc + 3) ls rest)) : W p l e R s m args below meth c H locs cells slots Q (F0 m pc ls (.int (zz_i a) :: rest)) :=
  lv_if_ge hx hb hdg ht (fun h => kt ((zz_le (by omega) ha).mp h)) (fun h => kf (Int.not_le.mp (fun q => h ((zz_le (by omega) ha).mpr q))))
theorem zz_if_gt (hx : p.tables.exec = Jvm.exec) (hb : c.code = cc) (hdg : decode cc pc = .ok (.ifCond .gt off, 3)) (ht : (pc : Int) + off = (tgt : Int)) (ha : -2147483648 ≤ a ∧ a < 2147483648)
    (kt : 0 < a → W p l e R s m args below meth c H locs cells slots Q (F0 m tgt ls rest)) (kf : a ≤ 0 → W p l e R s m args below meth c H locs cells slots Q (F0 m (pc + 3) ls rest)) : W p l e R s m args below meth c H locs cells slots Q (F0 m pc ls (.int (zz_i a) :: rest)) :=
  lv_if_gt hx hb hdg ht (fun h => kt ((zz_lt (by omega) ha).mp h)) (fun h => kf (Int.not_lt.mp (fun q => h ((zz_lt (by omega) ha).mpr q))))
theorem zz_if_le (hx : p.tables.exec = Jvm.exec) (hb : c.code = cc) (hdg : decode cc pc = .ok (.ifCond .le off, 3)) (ht : (pc : Int) + off = (tgt : Int)) (ha : -2147483648 ≤ a ∧ a < 2147483648)
    (kt : a ≤ 0 → W p l e R s m args below meth c H locs cells slots Q (F0 m tgt ls rest)) (kf : 0 < a → W p l e R s m args below meth c H locs cells slots Q (F0 m (pc + 3) ls rest)) : W p l e R s m args below meth c H locs cells slots Q (F0 m pc ls (.int (zz_i a) :: rest)) :=
  lv_if_le hx hb hdg ht (fun h => kt ((zz_le ha (by omega)).mp h)) (fun h => kf (Int.not_le.mp (fun q => h ((zz_le ha (by omega)).mpr q))))
theorem zz_iadd (hx : p.tables.exec = Jvm.exec) (hb : c.code = cc) (hdg : decode cc pc = .ok (.iadd, 1)) (k : W p l e R s m args below meth c H locs cells slots Q (F0 m (pc + 1) ls (.int (zz_i (a + b)) :: rest))) : W p l e R s m args below meth c H locs cells slots Q (F0 m pc ls (.int (zz_i b) :: .int (zz_i a) :: rest)) :=
  lv_iadd hx hb hdg (by rw [zz_add]; exact k)
theorem zz_isub (hx : p.tables.exec = Jvm.exec) (hb : c.code = cc) (hdg : decode cc pc = .ok (.isub, 1)) (k : W p l e R s m args below meth c H locs cells slots Q (F0 m (pc + 1) ls (.int (zz_i (a - b)) :: rest))) : W p l e R s m args below meth c H locs cells slots Q (F0 m pc ls (.int (zz_i b) :: .int (zz_i a) :: rest)) :=
  lv_isub hx hb hdg (by rw [zz_sub]; exact k)
theorem zz_imul (hx : p.tables.exec = Jvm.exec) (hb : c.code = cc) (hdg : decode cc pc = .ok (.imul, 1)) (k : W p l e R s m args below meth c H locs cells slots Q (F0 m (pc + 1) ls (.int (zz_i (a * b)) :: rest))) : W p l e R s m args below meth c H locs cells slots Q (F0 m pc ls (.int (zz_i b) :: .int (zz_i a) :: rest)) :=
  lv_imul hx hb hdg (by rw [zz_mul]; exact k)
theorem zz_idiv (hx : p.tables.exec = Jvm.exec) (hb : c.code = cc) (hdg : decode cc pc = .ok (.idiv, 1)) (ha : 0 ≤ a ∧ a < 2147483648) (hb2 : 0 < b ∧ b < 2147483648) (k : W p l e R s m args below meth c H locs cells slots Q (F0 m (pc + 1) ls (.int (zz_i (a / b)) :: rest))) : W p l e R s m args below meth c H locs cells slots Q (F0 m pc ls (.int (zz_i b) :: .int (zz_i a) :: rest)) :=
  lv_idiv hx hb hdg (fun h => by have := (zz_eq (a := b) (b := 0) (by omega) (by omega)).mp h; omega) (by rw [zz_div ha hb2]; exact k)
theorem zz_irem (hx : p.tables.exec = Jvm.exec) (hb : c.code = cc) (hdg : decode cc pc = .ok (.irem, 1)) (ha : 0 ≤ a ∧ a < 2147483648) (hb2 : 0 < b ∧ b < 2147483648) (k : W p l e R s m args below meth c H locs cells slots Q (F0 m (pc + 1) ls (.int (zz_i (a % b)) :: rest))) : W p l e R s m args below meth c H locs cells slots Q (F0 m pc ls (.int (zz_i b) :: .int (zz_i a) :: rest)) :=
  lv_irem hx hb hdg (fun h => by have := (zz_eq (a := b) (b := 0) (by omega) (by omega)).mp h; omega) (by rw [zz_rem ha hb2]; exact k)
theorem zz_iald (hx : p.tables.exec = Jvm.exec) (hb : c.code = cc) (hK : va_K D cl tys s) (hP : va_P D cl ws H) (q0 t0 : Nat) {cA : ClassId} {n : Nat} {g : Int → Int} (hw : ws[q0]? = some (aa, .inl (cA, n, .inl (fun j : Nat => zz_i (g j))))) (ht : tys[t0]? = some (cA, .int)) (hi : 0 ≤ a ∧ a < n) (hn : n < 2147483648) (hdg : decode cc pc = .ok (.iaload, 1))
    (kk : W p l e R s m args below meth c H locs cells slots Q (F0 m (pc + 1) ls (.int (zz_i (g a)) :: rest))) : W p l e R s m args below meth c H locs cells slots Q (F0 m pc ls (.int (zz_i a) :: .ref aa :: rest)) :=
  va_iald hx hb hK hP q0 t0 hw ht (zz_in hi hn) hdg (by
    have h1 : ((a.toNat : Nat) : Int) = a := Int.toNat_of_nonneg hi.1
    rw [zz_nat (by omega), h1]; exact kk)
theorem zz_zald (hx : p.tables.exec = Jvm.exec) (hb : c.code = cc) (hK : va_K D cl tys s) (hP : va_P D cl ws H) (q0 t0 : Nat) {cA : ClassId} {n : Nat} {g : Int → Int} (hw : ws[q0]? = some (aa, .inl (cA, n, .inl (fun j : Nat => zz_i (g j))))) (ht : tys[t0]? = some (cA, .boolean)) (hi : 0 ≤ a ∧ a < n) (hn : n < 2147483648) (hdg : decode cc pc = .ok (.baload, 1))
    (kk : W p l e R s m args below meth c H locs cells slots Q (F0 m (pc + 1) ls (.int (zz_i (g a)) :: rest))) : W p l e R s m args below meth c H locs cells slots Q (F0 m pc ls (.int (zz_i a) :: .ref aa :: rest)) :=
  va_zald hx hb hK hP q0 t0 hw ht (zz_in hi hn) hdg (by
    have h1 : ((a.toNat : Nat) : Int) = a := Int.toNat_of_nonneg hi.1
    rw [zz_nat (by omega), h1]; exact kk)
theorem zz_iast (hx : p.tables.exec = Jvm.exec) (hb : c.code = cc) (hK : va_K D cl tys s) (hP : va_P D cl ws H) (hD : va_D A ws) (hS : va_S A H0 H locs) (q0 t0 : Nat) {cA : ClassId} {n : Nat} {g : Int → Int} (hw : ws[q0]? = some (aa, .inl (cA, n, .inl (fun j : Nat => zz_i (g j))))) (ht : tys[t0]? = some (cA, .int)) (hi : 0 ≤ a ∧ a < n) (hn : n < 2147483648) (hdg : decode cc pc = .ok (.iastore, 1))
    (kk : ∀ (H1 : Heap) (locs1 : List Loc), va_P D cl (ws.set q0 (aa, .inl (cA, n, .inl (fun j : Nat => zz_i (up_i g a b j))))) H1 → va_D A (ws.set q0 (aa, .inl (cA, n, .inl (fun j : Nat => zz_i (up_i g a b j))))) → va_S A H0 H1 locs1 → W p l e R s m args below meth c H1 locs1 cells slots Q (F0 m (pc + 1) ls rest)) : W p l e R s m args below meth c H locs cells slots Q (F0 m pc ls (.int (zz_i b) :: .int (zz_i a) :: .ref aa :: rest)) :=
  va_iast hx hb hK hP hD hS q0 t0 hw ht (zz_in hi hn) hdg (fun H1 locs1 h1 h2 h3 => kk H1 locs1 (by rw [zz_upd (by omega)] at h1; exact h1) (by rw [zz_upd (by omega)] at h2; exact h2) h3)
theorem zz_zast (hx : p.tables.exec = Jvm.exec) (hb : c.code = cc) (hK : va_K D cl tys s) (hP : va_P D cl ws H) (hD : va_D A ws) (hS : va_S A H0 H locs) (q0 t0 : Nat) {cA : ClassId} {n : Nat} {g : Int → Int} (hw : ws[q0]? = some (aa, .inl (cA, n, .inl (fun j : Nat => zz_i (g j))))) (ht : tys[t0]? = some (cA, .boolean)) (hi : 0 ≤ a ∧ a < n) (hn : n < 2147483648) (hv : b = 0 ∨ b = 1) (hdg : decode cc pc = .ok (.bastore, 1))
    (kk : ∀ (H1 : Heap) (locs1 : List Loc), va_P D cl (ws.set q0 (aa, .inl (cA, n, .inl (fun j : Nat => zz_i (up_i g a b j))))) H1 → va_D A (ws.set q0 (aa, .inl (cA, n, .inl (fun j : Nat => zz_i (up_i g a b j))))) → va_S A H0 H1 locs1 → W p l e R s m args below meth c H1 locs1 cells slots Q (F0 m (pc + 1) ls rest)) : W p l e R s m args below meth c H locs cells slots Q (F0 m pc ls (.int (zz_i b) :: .int (zz_i a) :: .ref aa :: rest)) :=
  va_zast hx hb hK hP hD hS q0 t0 hw ht (zz_in hi hn) hdg (fun H1 locs1 h1 h2 h3 => kk H1 locs1 (by rw [zz_nar hv, zz_upd (by omega)] at h1; exact h1) (by rw [zz_nar hv, zz_upd (by omega)] at h2; exact h2) h3)
end ZR
section ZL
/-- a loop: from its head, for a measure that falls -/
theorem zz_lp {p : Program} {l : Launch} {e : Env} {R : Room} {s : State} {m : MethodId} {args : Array Value} {below : List Frame} {meth : Method} {c : Code} {Q : State → Prop} {pc : Nat} {α : Type} (μ : α → Nat) (cf sf : α → Nat) (I : α → Heap → List Loc → Array Slot → Prop)
    (st : ∀ (a : α) (H : Heap) (locs : List Loc) (ls : Array Slot), I a H locs ls → (∀ (b : α) (H1 : Heap) (locs1 : List Loc) (ls1 : Array Slot), μ b < μ a → I b H1 locs1 ls1 → W p l e R s m args below meth c H1 locs1 (cf b) (sf b) Q (F0 m pc ls1 [])) → W p l e R s m args below meth c H locs (cf a) (sf a) Q (F0 m pc ls [])) :
    ∀ (a : α) (H : Heap) (locs : List Loc) (ls : Array Slot), I a H locs ls → W p l e R s m args below meth c H locs (cf a) (sf a) Q (F0 m pc ls []) := by
  have key : ∀ (n : Nat) (a : α) (H : Heap) (locs : List Loc) (ls : Array Slot), μ a < n → I a H locs ls → W p l e R s m args below meth c H locs (cf a) (sf a) Q (F0 m pc ls []) := by
    intro n
    induction n with
    | zero => intro a H locs ls h; omega
    | succ n ih => intro a H locs ls h hi; exact st a H locs ls hi (fun b H1 locs1 ls1 hb hib => ih b H1 locs1 ls1 (by omega) hib)
  exact fun a H locs ls hi => key (μ a + 1) a H locs ls (Nat.lt_succ_self _) hi
/-- sums over the places 0 .. k - 1 -/
def sm_ (f : Int → Int) : Nat → Int
  | 0 => 0
  | k + 1 => sm_ f k + f k
theorem sm_s (f : Int → Int) {j : Int} (h : 0 ≤ j) : sm_ f (j + 1).toNat = sm_ f j.toNat + f j := by
  have h1 : (j + 1).toNat = j.toNat + 1 := by omega
  have h2 : ((j.toNat : Nat) : Int) = j := by omega
  rw [h1]
  show sm_ f j.toNat + f (j.toNat : Nat) = _
  rw [h2]
theorem sm_b {f : Int → Int} (h : ∀ j, 0 ≤ f j ∧ f j ≤ 1) (k : Nat) : 0 ≤ sm_ f k ∧ sm_ f k ≤ k := by
  induction k with
  | zero => exact ⟨Int.le_refl _, Int.le_refl _⟩
  | succ k ih =>
    have := h k
    have e : sm_ f (k + 1) = sm_ f k + f k := rfl
    omega
end ZL
