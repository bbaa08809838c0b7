/-! the start: a new sorter -/
section S0
def cl_ (lo hi x : Int) : Int := if hi < (if x < lo then lo else x) then hi else (if x < lo then lo else x)
def ch_ (n : Int) : Int := if 6 < (n - 1) / 2 then 6 else (n - 1) / 2
theorem cl_b {lo hi x : Int} (h : lo ≤ hi) : (x < lo ∧ cl_ lo hi x = lo) ∨ (hi < x ∧ cl_ lo hi x = hi) ∨ (lo ≤ x ∧ x ≤ hi ∧ cl_ lo hi x = x) := by
  unfold cl_
  by_cases h1 : x < lo
  · rw [if_pos h1]; split <;> omega
  · rw [if_neg h1]; split <;> omega
theorem ch_b {n : Int} (h : 2 ≤ n ∧ n ≤ 40) : (12 < n ∧ ch_ n = 6) ∨ (n ≤ 12 ∧ (2 * ch_ n + 1 = n ∨ 2 * ch_ n + 2 = n)) := by
  unfold ch_; split <;> omega
def s_1 (n q : Int) : zz_S := up_s (up_s (up_s (up_s (up_s (fun _ _ => 0) 0 n) 1 q) 3 60) 18 (-1)) 28 (ch_ n)
def s_0 (t r : Int) : zz_S := s_1 (cl_ 2 40 t) (cl_ 0 9 r)
theorem pv_1 {n q : Int} (a : 2 ≤ n ∧ n ≤ 40) (b : 0 ≤ q ∧ q ≤ 9) : iv_ (s_1 n q) := by
  have c := ch_b a
  exact ⟨⟨a, b, ⟨show (0 : Int) ≤ 0 by omega, show (0 : Int) ≤ 100000000 by omega⟩, ⟨show (1 : Int) ≤ 60 by omega, show (60 : Int) ≤ 100 by omega⟩, ⟨show (0 : Int) ≤ 0 by omega, show (0 : Int) ≤ 60 by omega⟩, ⟨show (0 : Int) ≤ 0 by omega, show (0 : Int) ≤ 60 by omega⟩, Or.inl rfl, ⟨show (0 : Int) ≤ 0 by omega, show (0 : Int) ≤ 40 by omega⟩, ⟨show (0 : Int) ≤ 0 by omega, show (0 : Int) < n by omega⟩, c⟩,
    fun t => ⟨show (0 : Int) ≤ 0 by omega, show (0 : Int) ≤ 0 by omega, fun h => absurd rfl h⟩, fun c => Or.inl rfl, fun i h1 h2 => absurd (show i ≤ 0 from h2) (by omega), fun j h1 h2 => absurd (show j < 0 from h2) (by omega), fun j h1 h2 => absurd (show j < 0 from h2) (by omega),
    fun i _ => ⟨rfl, rfl, rfl, rfl, rfl, rfl, rfl, rfl, rfl, rfl⟩, show (0 : Int) = 0 % n from (Int.zero_emod n).symm, fun j k h1 h2 => absurd (show j < 0 from h2) (by omega), fun j k h1 h2 => absurd (show j < 0 from h2) (by omega), fun i h1 h2 => absurd (show i ≤ 0 from h2) (by omega), fun _ => rfl,
    fun j => ⟨show (0 : Int) ≤ 0 by omega, show (0 : Int) ≤ 0 by omega⟩, fun j => ⟨show (0 : Int) ≤ 0 by omega, show (0 : Int) ≤ 0 by omega⟩, fun t _ => rfl⟩
theorem cl_t (t : Int) : 2 ≤ cl_ 2 40 t ∧ cl_ 2 40 t ≤ 40 := by have := cl_b (lo := 2) (hi := 40) (x := t) (by omega); omega
theorem cl_r (r : Int) : 0 ≤ cl_ 0 9 r ∧ cl_ 0 9 r ≤ 9 := by have := cl_b (lo := 0) (hi := 9) (x := r) (by omega); omega
theorem pv_0 (t r : Int) : iv_ (s_0 t r) := pv_1 (cl_t t) (cl_r r)
theorem cw_st (cy ga : Nat → Nat) (ad : Int → Nat) (n q : Int) : cw_ cy ga ad (s_1 n q) = [
  (ga 0, .inr (2, [.ref (ga 1), .ref (ga 2), .ref (ga 3), .ref (ga 4), .ref (ga 5), .int (zz_i q), .int (zz_i 60), .int (zz_i 0), .int (zz_i 0), .int (zz_i 0)])),
  (ga 1, .inl (cy 2, n.toNat, .inr (.inr (.inr (.inr (fun _ => none)))))), (ga 2, .inl (cy 1, (ch_ n + 1).toNat, .inl (fun _ => zz_i 0))),
  (ga 3, .inr (1, [.ref (ga 6), .int (zz_i 0)])), (ga 4, .inr (1, [.ref (ga 7), .int (zz_i 0)])), (ga 5, .inr (1, [.ref (ga 8), .int (zz_i 0)])),
  (ga 6, .inl (cy 2, 60, .inr (.inr (.inr (.inr (fun _ => none)))))), (ga 7, .inl (cy 2, 60, .inr (.inr (.inr (.inr (fun _ => none)))))), (ga 8, .inl (cy 2, 40, .inr (.inr (.inr (.inr (fun _ => none))))))] := by
  have e : (fun j : Nat => if (j : Int) < s_1 n q 4 0 then some (ad ((j : Int) + 1)) else none) = (fun _ => none) := by
    funext j; exact if_neg (show ¬ (j : Int) < 0 by omega)
  unfold cw_ cw_x
  rw [e]
  rfl
theorem rk_st (cy gr : Nat → Nat) (n q : Int) : rk_ cy gr 0 (s_1 n q) = [
  (gr 0, .inr (3, [.int (zz_i 0), .int (zz_i n), .int (zz_i q), .int (zz_i 0), .int (zz_i 60), .ref (gr 1), .ref (gr 2), .int (zz_i 0), .ref (gr 3), .ref (gr 4), .ref (gr 5), .ref (gr 6), .ref (gr 7), .ref (gr 8), .int (zz_i 0), .ref (gr 9), .ref (gr 10), .ref (gr 11), .ref (gr 12), .int (zz_i 0), .int (zz_i 0), .ref (gr 13), .ref (gr 14)])),
  (gr 1, .inl (cy 0, 40, .inl (fun _ => zz_i 0))), (gr 2, .inl (cy 1, 7, .inl (fun _ => zz_i 0))), (gr 3, .inl (cy 0, 61, .inl (fun _ => zz_i 0))), (gr 4, .inl (cy 0, 61, .inl (fun _ => zz_i 0))), (gr 5, .inl (cy 0, 61, .inl (fun _ => zz_i 0))), (gr 6, .inl (cy 0, 61, .inl (fun _ => zz_i 0))), (gr 7, .inl (cy 0, 61, .inl (fun _ => zz_i 0))), (gr 8, .inl (cy 0, 61, .inl (fun _ => zz_i 0))),
  (gr 9, .inl (cy 0, 60, .inl (fun _ => zz_i 0))), (gr 10, .inl (cy 0, 60, .inl (fun _ => zz_i 0))), (gr 11, .inl (cy 0, 60, .inl (fun _ => zz_i 0))), (gr 12, .inl (cy 0, 60, .inl (fun _ => zz_i 0))), (gr 13, .inl (cy 0, 40, .inl (fun _ => zz_i 0))), (gr 14, .inl (cy 1, 61, .inl (fun _ => zz_i 0)))] := rfl
theorem zz_mx {a b : Int} (ha : -2147483648 ≤ a ∧ a < 2147483648) (hb : -2147483648 ≤ b ∧ b < 2147483648) : (if zz_i a < zz_i b then zz_i b else zz_i a) = zz_i (if a < b then b else a) := by
  by_cases h : a < b
  · rw [if_pos h, if_pos ((zz_lt ha hb).mpr h)]
  · rw [if_neg h, if_neg (fun q => h ((zz_lt ha hb).mp q))]
theorem zz_mn {a b : Int} (ha : -2147483648 ≤ a ∧ a < 2147483648) (hb : -2147483648 ≤ b ∧ b < 2147483648) : (if zz_i b < zz_i a then zz_i b else zz_i a) = zz_i (if b < a then b else a) := by
  by_cases h : b < a
  · rw [if_pos h, if_pos ((zz_lt hb ha).mpr h)]
  · rw [if_neg h, if_neg (fun q => h ((zz_lt hb ha).mp q))]
theorem ka_i {D : va_G} {cy : Nat → Nat} {s : State} {cA : ClassId} (hK : va_K D zz_cl (zz_ty cy ++ [(cA, .int)]) s) : cA = cy 0 :=
  Option.some.inj ((show s.vm.findClass ("[" ++ FieldType.int.toString) = some cA from (hK.2 4 (cA, .int) rfl).2).symm.trans (hK.2 0 (cy 0, .int) rfl).2)
theorem ka_z {D : va_G} {cy : Nat → Nat} {s : State} {cA : ClassId} (hK : va_K D zz_cl (zz_ty cy ++ [(cA, .boolean)]) s) : cA = cy 1 :=
  Option.some.inj ((show s.vm.findClass ("[" ++ FieldType.boolean.toString) = some cA from (hK.2 4 (cA, .boolean) rfl).2).symm.trans (hK.2 1 (cy 1, .boolean) rfl).2)
theorem ka_l {D : va_G} {cy : Nat → Nat} {s : State} {cA : ClassId} (hK : va_K D zz_cl (zz_ty cy ++ [(cA, .long)]) s) : cA = cy 3 :=
  Option.some.inj ((show s.vm.findClass ("[" ++ FieldType.long.toString) = some cA from (hK.2 4 (cA, .long) rfl).2).symm.trans (hK.2 3 (cy 3, .long) rfl).2)
theorem ka_o {D : va_G} {cy : Nat → Nat} {s : State} {cA : ClassId} (hK : va_K D zz_cl (zz_ty cy ++ [(cA, .object RX0)]) s) : cA = cy 2 := by
  obtain ⟨_, _, _, _, _, h1⟩ := (hK.2 4 (cA, .object RX0) rfl).2
  obtain ⟨_, _, _, _, _, h2⟩ := (hK.2 2 (cy 2, .object RX0) rfl).2
  exact Option.some.inj (h1.symm.trans h2)
end S0
section S1
variable {p : Program} {l : Launch} {e : Env} {R : Room} {s : State} {m : MethodId} {args : Array Value} {below : List Frame} {meth : Method} {c : Code} {H : Heap} {locs : List Loc} {cells slots : Nat} {Q : State → Prop} {cc : ByteArray} {pc : Nat} {ls : Array Slot} {rest : List Value} {a b : Int}
theorem zz_mmax (hexec : p.tables.exec = Jvm.exec) (hb : c.code = cc) (hml : c.maxLocals = ls.size) {own : String} {index : Nat} (hown : s.vm.findClass own = some m.cls) (hlink : (Cond.methodLink own index Lib.Math.max.name).before args s = true) (hstat : (Cond.static Lib.Math.max.name).before args s = true) (hini : (Cond.initialized "java/lang/Math").before args s = true) (hcode : (Cond.code Lib.Math.max.name Lib.Math.max.code 2 (some .int)).before args s = true)
    (hframes : 1 ≤ R.frames) (hlocals : (rest.map fun v => v.category).sum + 13 ≤ R.locals) (hc : cells ≤ R.cells) (hs : slots ≤ R.slots) (ha : -2147483648 ≤ a ∧ a < 2147483648) (hb2 : -2147483648 ≤ b ∧ b < 2147483648) (hdg : decode cc pc = .ok (.invokestatic index, 3))
    (kk : W p l e R s m args below meth c H locs cells slots Q (F0 m (pc + 3) ls (.int (zz_i (if a < b then b else a)) :: rest))) : W p l e R s m args below meth c H locs cells slots Q (F0 m pc ls (.int (zz_i b) :: .int (zz_i a) :: rest)) :=
  va_mmax hexec hb hml hown hlink hstat hini hcode hframes hlocals hc hs hdg (by rw [zz_mx ha hb2]; exact kk)
theorem zz_mmin (hexec : p.tables.exec = Jvm.exec) (hb : c.code = cc) (hml : c.maxLocals = ls.size) {own : String} {index : Nat} (hown : s.vm.findClass own = some m.cls) (hlink : (Cond.methodLink own index Lib.Math.min.name).before args s = true) (hstat : (Cond.static Lib.Math.min.name).before args s = true) (hini : (Cond.initialized "java/lang/Math").before args s = true) (hcode : (Cond.code Lib.Math.min.name Lib.Math.min.code 2 (some .int)).before args s = true)
    (hframes : 1 ≤ R.frames) (hlocals : (rest.map fun v => v.category).sum + 13 ≤ R.locals) (hc : cells ≤ R.cells) (hs : slots ≤ R.slots) (ha : -2147483648 ≤ a ∧ a < 2147483648) (hb2 : -2147483648 ≤ b ∧ b < 2147483648) (hdg : decode cc pc = .ok (.invokestatic index, 3))
    (kk : W p l e R s m args below meth c H locs cells slots Q (F0 m (pc + 3) ls (.int (zz_i (if b < a then b else a)) :: rest))) : W p l e R s m args below meth c H locs cells slots Q (F0 m pc ls (.int (zz_i b) :: .int (zz_i a) :: rest)) :=
  va_mmin hexec hb hml hown hlink hstat hini hcode hframes hlocals hc hs hdg (by rw [zz_mn ha hb2]; exact kk)
end S1
