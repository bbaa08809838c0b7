/-! rows of the class's cells: references, items, throws  -/
section RW
theorem zz_len {a : Int} (h : 0 ≤ a ∧ a < 2147483648) : Int32.ofNat a.toNat = zz_i a := by
  rw [← Int32.toInt_inj, zz_toInt (by omega)]
  have h1 : (nI a.toNat).toInt = (a.toNat : Int) := nI_toInt (by omega)
  exact h1.trans (by omega)
theorem aq_or (ad : Int → Nat) (i : Int) : (i = 0 ∧ va_rf (aq_ ad i) = .null) ∨ (i ≠ 0 ∧ va_rf (aq_ ad i) = .ref (ad i)) := by
  by_cases h : i = 0
  · exact Or.inl ⟨h, by rw [h]; rfl⟩
  · exact Or.inr ⟨h, by rw [aq_n h]; rfl⟩
theorem cw_len (cy ga : Nat → Nat) (ad : Int → Nat) (σ : zz_S) : (cw_x cy ga ad σ).length = 9 := rfl
theorem it_get {ad : Int → Nat} {σ : zz_S} {i : Int} (h : 1 ≤ i ∧ i ≤ σ 4 0) : (it_w ad σ)[(i - 1).toNat]? = some (ad i, .inr (0, it_v σ i)) := by
  have h1 : (i - 1).toNat < (σ 4 0).toNat := by omega
  have h2 : (((i - 1).toNat : Nat) : Int) + 1 = i := by omega
  simp only [it_w, List.getElem?_map, List.getElem?_range h1, Option.map_some, h2]
theorem cw_it {cy ga : Nat → Nat} {ad : Int → Nat} {σ : zz_S} {i : Int} (h : 1 ≤ i ∧ i ≤ σ 4 0) : (cw_ cy ga ad σ)[9 + (i - 1).toNat]? = some (ad i, .inr (0, it_v σ i)) := by
  have h1 : (cw_ cy ga ad σ)[9 + (i - 1).toNat]? = (it_w ad σ)[9 + (i - 1).toNat - 9]? := List.getElem?_append_right (Nat.le_add_right _ _)
  rw [h1, Nat.add_sub_cancel_left]
  exact it_get h
theorem cw_si {cy ga : Nat → Nat} {ad : Int → Nat} {σ σ' : zz_S} {i : Int} (h : 1 ≤ i ∧ i ≤ σ 4 0) (h1 : cw_x cy ga ad σ' = cw_x cy ga ad σ) (h2 : σ' 4 0 = σ 4 0) (h3 : ∀ j, j ≠ i → it_v σ' j = it_v σ j) : (cw_ cy ga ad σ).set (9 + (i - 1).toNat) (ad i, .inr (0, it_v σ' i)) = cw_ cy ga ad σ' := by
  have e1 : (cw_ cy ga ad σ).set (9 + (i - 1).toNat) (ad i, .inr (0, it_v σ' i)) = cw_x cy ga ad σ ++ (it_w ad σ).set (9 + (i - 1).toNat - 9) (ad i, .inr (0, it_v σ' i)) := by
    unfold cw_
    rw [List.set_append_right _ _ (by rw [cw_len]; exact Nat.le_add_right _ _), cw_len]
  rw [e1, Nat.add_sub_cancel_left]
  unfold cw_
  rw [h1]
  congr 1
  apply List.ext_getElem?
  intro k
  rw [List.getElem?_set]
  have hl : (it_w ad σ).length = (σ 4 0).toNat := by simp [it_w]
  by_cases hk : (i - 1).toNat = k
  · rw [if_pos hk, if_pos (by rw [hl]; omega), ← hk, it_get (by rw [h2]; exact h)]
  · rw [if_neg hk]
    simp only [it_w, List.getElem?_map, h2]
    by_cases hk2 : k < (σ 4 0).toNat
    · rw [List.getElem?_range hk2]
      simp only [Option.map_some]
      rw [h3 _ (by omega)]
    · rw [List.getElem?_eq_none (by simpa using hk2)]
      rfl
theorem cw_si13 {cy ga : Nat → Nat} {ad : Int → Nat} {σ : zz_S} {i v : Int} (h : 1 ≤ i ∧ i ≤ σ 4 0) : (cw_ cy ga ad σ).set (9 + (i - 1).toNat) (ad i, .inr (0, (it_v σ i).set 2 (.int (zz_i v)))) = cw_ cy ga ad (up_a σ 13 i v) := by
  have e1 : (it_v σ i).set 2 (.int (zz_i v)) = it_v (up_a σ 13 i v) i := by
    show _ = [_, _, _, _, _, _, _, _, _, _, _, _]
    have e2 : up_a σ 13 i v 13 i = v := up_i_s (σ 13) i v
    rw [e2]; rfl
  rw [e1]
  refine cw_si h rfl rfl (fun j hj => ?_)
  show [_, _, _, _, _, _, _, _, _, _, _, _] = _
  have e2 : up_a σ 13 i v 13 j = σ 13 j := up_i_n hj
  rw [e2]; rfl
theorem cw_si14 {cy ga : Nat → Nat} {ad : Int → Nat} {σ : zz_S} {i v : Int} (h : 1 ≤ i ∧ i ≤ σ 4 0) : (cw_ cy ga ad σ).set (9 + (i - 1).toNat) (ad i, .inr (0, (it_v σ i).set 3 (.int (zz_i v)))) = cw_ cy ga ad (up_a σ 14 i v) := by
  have e1 : (it_v σ i).set 3 (.int (zz_i v)) = it_v (up_a σ 14 i v) i := by
    show _ = [_, _, _, _, _, _, _, _, _, _, _, _]
    have e2 : up_a σ 14 i v 14 i = v := up_i_s (σ 14) i v
    rw [e2]; rfl
  rw [e1]
  refine cw_si h rfl rfl (fun j hj => ?_)
  show [_, _, _, _, _, _, _, _, _, _, _, _] = _
  have e2 : up_a σ 14 i v 14 j = σ 14 j := up_i_n hj
  rw [e2]; rfl
theorem cw_si15 {cy ga : Nat → Nat} {ad : Int → Nat} {σ : zz_S} {i v : Int} (h : 1 ≤ i ∧ i ≤ σ 4 0) : (cw_ cy ga ad σ).set (9 + (i - 1).toNat) (ad i, .inr (0, (it_v σ i).set 4 (.int (zz_i v)))) = cw_ cy ga ad (up_a σ 15 i v) := by
  have e1 : (it_v σ i).set 4 (.int (zz_i v)) = it_v (up_a σ 15 i v) i := by
    show _ = [_, _, _, _, _, _, _, _, _, _, _, _]
    have e2 : up_a σ 15 i v 15 i = v := up_i_s (σ 15) i v
    rw [e2]; rfl
  rw [e1]
  refine cw_si h rfl rfl (fun j hj => ?_)
  show [_, _, _, _, _, _, _, _, _, _, _, _] = _
  have e2 : up_a σ 15 i v 15 j = σ 15 j := up_i_n hj
  rw [e2]; rfl
theorem cw_si16 {cy ga : Nat → Nat} {ad : Int → Nat} {σ : zz_S} {i v : Int} (h : 1 ≤ i ∧ i ≤ σ 4 0) : (cw_ cy ga ad σ).set (9 + (i - 1).toNat) (ad i, .inr (0, (it_v σ i).set 6 (.int (zz_i v)))) = cw_ cy ga ad (up_a σ 16 i v) := by
  have e1 : (it_v σ i).set 6 (.int (zz_i v)) = it_v (up_a σ 16 i v) i := by
    show _ = [_, _, _, _, _, _, _, _, _, _, _, _]
    have e2 : up_a σ 16 i v 16 i = v := up_i_s (σ 16) i v
    rw [e2]; rfl
  rw [e1]
  refine cw_si h rfl rfl (fun j hj => ?_)
  show [_, _, _, _, _, _, _, _, _, _, _, _] = _
  have e2 : up_a σ 16 i v 16 j = σ 16 j := up_i_n hj
  rw [e2]; rfl
theorem cw_si17 {cy ga : Nat → Nat} {ad : Int → Nat} {σ : zz_S} {i v : Int} (h : 1 ≤ i ∧ i ≤ σ 4 0) : (cw_ cy ga ad σ).set (9 + (i - 1).toNat) (ad i, .inr (0, (it_v σ i).set 7 (.int (zz_i v)))) = cw_ cy ga ad (up_a σ 17 i v) := by
  have e1 : (it_v σ i).set 7 (.int (zz_i v)) = it_v (up_a σ 17 i v) i := by
    show _ = [_, _, _, _, _, _, _, _, _, _, _, _]
    have e2 : up_a σ 17 i v 17 i = v := up_i_s (σ 17) i v
    rw [e2]; rfl
  rw [e1]
  refine cw_si h rfl rfl (fun j hj => ?_)
  show [_, _, _, _, _, _, _, _, _, _, _, _] = _
  have e2 : up_a σ 17 i v 17 j = σ 17 j := up_i_n hj
  rw [e2]; rfl
theorem cw_si18 {cy ga : Nat → Nat} {ad : Int → Nat} {σ : zz_S} {i v : Int} (h : 1 ≤ i ∧ i ≤ σ 4 0) : (cw_ cy ga ad σ).set (9 + (i - 1).toNat) (ad i, .inr (0, (it_v σ i).set 5 (.int (zz_i v)))) = cw_ cy ga ad (up_a σ 18 i v) := by
  have e1 : (it_v σ i).set 5 (.int (zz_i v)) = it_v (up_a σ 18 i v) i := by
    show _ = [_, _, _, _, _, _, _, _, _, _, _, _]
    have e2 : up_a σ 18 i v 18 i = v := up_i_s (σ 18) i v
    rw [e2]; rfl
  rw [e1]
  refine cw_si h rfl rfl (fun j hj => ?_)
  show [_, _, _, _, _, _, _, _, _, _, _, _] = _
  have e2 : up_a σ 18 i v 18 j = σ 18 j := up_i_n hj
  rw [e2]; rfl
theorem cw_si19 {cy ga : Nat → Nat} {ad : Int → Nat} {σ : zz_S} {i v : Int} (h : 1 ≤ i ∧ i ≤ σ 4 0) : (cw_ cy ga ad σ).set (9 + (i - 1).toNat) (ad i, .inr (0, (it_v σ i).set 8 (.int (zz_i v)))) = cw_ cy ga ad (up_a σ 19 i v) := by
  have e1 : (it_v σ i).set 8 (.int (zz_i v)) = it_v (up_a σ 19 i v) i := by
    show _ = [_, _, _, _, _, _, _, _, _, _, _, _]
    have e2 : up_a σ 19 i v 19 i = v := up_i_s (σ 19) i v
    rw [e2]; rfl
  rw [e1]
  refine cw_si h rfl rfl (fun j hj => ?_)
  show [_, _, _, _, _, _, _, _, _, _, _, _] = _
  have e2 : up_a σ 19 i v 19 j = σ 19 j := up_i_n hj
  rw [e2]; rfl
theorem cw_si20 {cy ga : Nat → Nat} {ad : Int → Nat} {σ : zz_S} {i v : Int} (h : 1 ≤ i ∧ i ≤ σ 4 0) : (cw_ cy ga ad σ).set (9 + (i - 1).toNat) (ad i, .inr (0, (it_v σ i).set 9 (.int (zz_i v)))) = cw_ cy ga ad (up_a σ 20 i v) := by
  have e1 : (it_v σ i).set 9 (.int (zz_i v)) = it_v (up_a σ 20 i v) i := by
    show _ = [_, _, _, _, _, _, _, _, _, _, _, _]
    have e2 : up_a σ 20 i v 20 i = v := up_i_s (σ 20) i v
    rw [e2]; rfl
  rw [e1]
  refine cw_si h rfl rfl (fun j hj => ?_)
  show [_, _, _, _, _, _, _, _, _, _, _, _] = _
  have e2 : up_a σ 20 i v 20 j = σ 20 j := up_i_n hj
  rw [e2]; rfl
theorem cw_si21 {cy ga : Nat → Nat} {ad : Int → Nat} {σ : zz_S} {i v : Int} (h : 1 ≤ i ∧ i ≤ σ 4 0) : (cw_ cy ga ad σ).set (9 + (i - 1).toNat) (ad i, .inr (0, (it_v σ i).set 10 (.int (zz_i v)))) = cw_ cy ga ad (up_a σ 21 i v) := by
  have e1 : (it_v σ i).set 10 (.int (zz_i v)) = it_v (up_a σ 21 i v) i := by
    show _ = [_, _, _, _, _, _, _, _, _, _, _, _]
    have e2 : up_a σ 21 i v 21 i = v := up_i_s (σ 21) i v
    rw [e2]; rfl
  rw [e1]
  refine cw_si h rfl rfl (fun j hj => ?_)
  show [_, _, _, _, _, _, _, _, _, _, _, _] = _
  have e2 : up_a σ 21 i v 21 j = σ 21 j := up_i_n hj
  rw [e2]; rfl
theorem cw_si22 {cy ga : Nat → Nat} {ad : Int → Nat} {σ : zz_S} {i v : Int} (h : 1 ≤ i ∧ i ≤ σ 4 0) : (cw_ cy ga ad σ).set (9 + (i - 1).toNat) (ad i, .inr (0, (it_v σ i).set 11 (.int (zz_i v)))) = cw_ cy ga ad (up_a σ 22 i v) := by
  have e1 : (it_v σ i).set 11 (.int (zz_i v)) = it_v (up_a σ 22 i v) i := by
    show _ = [_, _, _, _, _, _, _, _, _, _, _, _]
    have e2 : up_a σ 22 i v 22 i = v := up_i_s (σ 22) i v
    rw [e2]; rfl
  rw [e1]
  refine cw_si h rfl rfl (fun j hj => ?_)
  show [_, _, _, _, _, _, _, _, _, _, _, _] = _
  have e2 : up_a σ 22 i v 22 j = σ 22 j := up_i_n hj
  rw [e2]; rfl
end RW
section RX
variable {p : Program} {l : Launch} {e : Env} {R : Room} {s : State} {m : MethodId} {args : Array Value} {below : List Frame} {meth : Method} {c : Code} {H : Heap} {locs : List Loc} {cells slots : Nat} {Q : State → Prop} {cc : ByteArray} {pc : Nat} {ls : Array Slot} {rest : List Value} {D : va_G} {cl : List vw_C} {A : Nat → Prop} {aa : Nat} {tys : List (ClassId × FieldType)} {ws : va_W} {H0 : Heap} {a b : Int} {ad : Int → Nat}
theorem zz_aald (hx : p.tables.exec = Jvm.exec) (hb : c.code = cc) (hK : va_K D cl tys s) (hP : va_P D cl ws H) (q0 t0 : Nat) {cA : ClassId} {C : String} {n : Nat} {g : Int → Int} (hw : ws[q0]? = some (aa, .inl (cA, n, .inr (.inr (.inr (.inr (fun j : Nat => aq_ ad (g j)))))))) (ht : tys[t0]? = some (cA, .object C)) (hi : 0 ≤ a ∧ a < n) (hn : n < 2147483648) (hdg : decode cc pc = .ok (.aaload, 1))
    (kk : W p l e R s m args below meth c H locs cells slots Q (F0 m (pc + 1) ls (va_rf (aq_ ad (g a)) :: rest))) : W p l e R s m args below meth c H locs cells slots Q (F0 m pc ls (.int (zz_i a) :: .ref aa :: rest)) :=
  va_aldq hx hb hK hP q0 t0 hw ht (zz_in hi hn) hdg (by
    have h1 : ((a.toNat : Nat) : Int) = a := Int.toNat_of_nonneg hi.1
    rw [zz_nat (by omega), h1]; exact kk)
theorem zz_aaldI (hx : p.tables.exec = Jvm.exec) (hb : c.code = cc) (hK : va_K D cl tys s) (hP : va_P D cl ws H) (q0 t0 : Nat) {cA : ClassId} {C : String} {n : Nat} {k : Int} (hw : ws[q0]? = some (aa, .inl (cA, n, .inr (.inr (.inr (.inr (fun j : Nat => if (j : Int) < k then some (ad ((j : Int) + 1)) else none))))))) (ht : tys[t0]? = some (cA, .object C)) (hi : 0 ≤ a ∧ a < n ∧ a < k) (hn : n < 2147483648) (hdg : decode cc pc = .ok (.aaload, 1))
    (kk : W p l e R s m args below meth c H locs cells slots Q (F0 m (pc + 1) ls (.ref (ad (a + 1)) :: rest))) : W p l e R s m args below meth c H locs cells slots Q (F0 m pc ls (.int (zz_i a) :: .ref aa :: rest)) :=
  va_aldq hx hb hK hP q0 t0 hw ht (zz_in (by omega) hn) hdg (by
    have h1 : ((a.toNat : Nat) : Int) = a := Int.toNat_of_nonneg hi.1
    rw [zz_nat (by omega), h1, if_pos hi.2.2]; exact kk)
theorem zz_upq {g : Int → Int} {v : Int} (h : 0 ≤ a ∧ a < 2147483648) : va_up (fun j : Nat => aq_ ad (g j)) (zz_i a).toNatClampNeg (aq_ ad v) = fun j : Nat => aq_ ad (up_i g a v j) := by
  funext j
  rw [zz_nat h]
  simp only [va_up, up_i]
  by_cases q : j = a.toNat
  · rw [if_pos q, if_pos (by omega)]
  · rw [if_neg q, if_neg (by omega)]
theorem zz_aastN (hx : p.tables.exec = Jvm.exec) (hb : c.code = cc) (hK : va_K D cl tys s) (hP : va_P D cl ws H) (hD : va_D A ws) (hS : va_S A H0 H locs) (q0 t0 : Nat) {cA : ClassId} {C : String} {n : Nat} {g : Int → Int} (hw : ws[q0]? = some (aa, .inl (cA, n, .inr (.inr (.inr (.inr (fun j : Nat => aq_ ad (g j)))))))) (ht : tys[t0]? = some (cA, .object C)) (hi : 0 ≤ a ∧ a < n) (hn : n < 2147483648) (hdg : decode cc pc = .ok (.aastore, 1))
    (kk : ∀ (H1 : Heap) (locs1 : List Loc), va_P D cl (ws.set q0 (aa, .inl (cA, n, .inr (.inr (.inr (.inr (fun j : Nat => aq_ ad (up_i g a 0 j)))))))) H1 → va_D A (ws.set q0 (aa, .inl (cA, n, .inr (.inr (.inr (.inr (fun j : Nat => aq_ ad (up_i g a 0 j)))))))) → va_S A H0 H1 locs1 → W p l e R s m args below meth c H1 locs1 cells slots Q (F0 m (pc + 1) ls rest)) : W p l e R s m args below meth c H locs cells slots Q (F0 m pc ls (.null :: .int (zz_i a) :: .ref aa :: rest)) :=
  va_astqN hx hb hK hP hD hS q0 t0 hw ht (zz_in hi hn) hdg (fun H1 locs1 h1 h2 h3 => kk H1 locs1 (by rw [← aq_0 ad, zz_upq (by omega)] at h1; exact h1) (by rw [← aq_0 ad, zz_upq (by omega)] at h2; exact h2) h3)
theorem zz_aast (hx : p.tables.exec = Jvm.exec) (hb : c.code = cc) (hK : va_K D cl tys s) (hP : va_P D cl ws H) (hD : va_D A ws) (hS : va_S A H0 H locs) (q0 t0 qk ci : Nat) {cA : ClassId} {r : vw_C} {n : Nat} {vs : List Value} {g : Int → Int} (hw : ws[q0]? = some (aa, .inl (cA, n, .inr (.inr (.inr (.inr (fun j : Nat => aq_ ad (g j)))))))) (ht : tys[t0]? = some (cA, .object r.1)) (hv : ws[qk]? = some (ad b, .inr (ci, vs))) (hc : cl[ci]? = some r) (hi : 0 ≤ a ∧ a < n) (hn : n < 2147483648) (hb0 : b ≠ 0) (hdg : decode cc pc = .ok (.aastore, 1))
    (kk : ∀ (H1 : Heap) (locs1 : List Loc), va_P D cl (ws.set q0 (aa, .inl (cA, n, .inr (.inr (.inr (.inr (fun j : Nat => aq_ ad (up_i g a b j)))))))) H1 → va_D A (ws.set q0 (aa, .inl (cA, n, .inr (.inr (.inr (.inr (fun j : Nat => aq_ ad (up_i g a b j)))))))) → va_S A H0 H1 locs1 → W p l e R s m args below meth c H1 locs1 cells slots Q (F0 m (pc + 1) ls rest)) : W p l e R s m args below meth c H locs cells slots Q (F0 m pc ls (.ref (ad b) :: .int (zz_i a) :: .ref aa :: rest)) :=
  va_astq hx hb hK hP hD hS q0 t0 qk ci hw ht hv hc (zz_in hi hn) hdg (fun H1 locs1 h1 h2 h3 => kk H1 locs1 (by rw [← aq_n (ad := ad) hb0, zz_upq (by omega)] at h1; exact h1) (by rw [← aq_n (ad := ad) hb0, zz_upq (by omega)] at h2; exact h2) h3)
end RX
