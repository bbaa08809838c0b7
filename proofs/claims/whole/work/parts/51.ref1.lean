section
set_option maxHeartbeats 4000000 in
set_option maxRecDepth 100000 in
theorem r_in (l : Launch) (D : va_G) (cy : Nat → Nat) (wd : va_W) (sz : Nat) (v lo hi : Int) (q_v : (-2147483648 ≤ v ∧ v < 2147483648)) (q_lo : (-2147483648 ≤ lo ∧ lo < 2147483648)) (q_hi : (-2147483648 ≤ hi ∧ hi < 2147483648)) : Met l yX3_in wsX3_in ({ frames := 0, cells := 0, slots := 0, locals := 0 }) (ct_P D cy [.int (zz_i (v)), .int (zz_i (lo)), .int (zz_i (hi))] (wd) sz) (ct_Q D cy (wd) sz (some (.int (zz_i (sp_bt v lo hi)))) (fun _ : Unit => True) (fun _ => wd)) 0 0 (va_A (wd) sz) := by
  refine Met.ofW (cc := cX3_in) (maxL := 3) (ret := (some .boolean)) (by decide) rfl ?_
  intro p e s m args below meth c s₁ B hml hv
  obtain ⟨rfl, rfl, hP, hK, hD0, hE⟩ := hv
  have hx := B.exec
  have hb := B.bytes
  have hr := B.returns
  have hts := atoms_spec (ws := wsX3_in) B.pre
  have hown : s.vm.findClass RX3 = some m.cls := findClass_of_methodNamed B.named
  have hlocks := B.notSynchronized
  have hD := hD0.self (sz := s.heap.size)
  obtain ⟨A, hAe⟩ : ∃ A, A = va_A (wd) s.heap.size := ⟨_, rfl⟩
  rw [← hAe] at hD hE
  have hA : ∀ q : Nat, s.heap.size ≤ q → A q := fun q h => by rw [hAe]; exact Or.inr h
  have hS : va_S A s.heap s.heap [] := va_S.rf
  have hP : va_P D zz_cl (wd) s.heap := hP
  have hl := lv_entry ([.int (zz_i (v)), .int (zz_i (lo)), .int (zz_i (hi))]) (n := 3) (Nat.le_of_ble_eq_true rfl)
  rw [lg_entry_eq]
  generalize (lg_sl ([.int (zz_i (v)), .int (zz_i (lo)), .int (zz_i (hi))]) ++ List.replicate (3 - (lg_sl ([.int (zz_i (v)), .int (zz_i (lo)), .int (zz_i (hi))])).length) Slot.unset).toArray = ls at hl ⊢
  have hl : lv_has ls 3 [(0, .int (zz_i (v))), (1, .int (zz_i (lo))), (2, .int (zz_i (hi)))] := hl
  refine lv_iload_n hx hb dX3_in_0 rfl (lv_at hl 0 rfl) ?_
  refine lv_iload_n hx hb dX3_in_1 rfl (lv_at hl 1 rfl) ?_
  refine zz_icmp_lt (tgt := 14) hx hb dX3_in_2 (by decide) (by omega) (by omega) (fun c1 => ?_) (fun c1 => ?_)
  · refine lv_iconst (v := zz_i (0)) hx hb dX3_in_14 rfl ?_
    have hv9 : sp_bt v lo hi = 0 := by unfold sp_bt; (repeat (first | rw [if_pos (by omega)] | rw [if_neg (by omega)])) <;> first | rfl | omega
    have hw9 : wd = wd := by rfl
    subst hAe
    exact W.zret (v := zz_i (0)) (ty := .boolean) hx hb hr (zz_narB (by omega)) (fun t ht hW => ⟨congrArg (fun z => Outcome.returned (some (Value.int (zz_i z)))) hv9.symm, ⟨(), trivial, by rw [ht, hw9]; exact hP, va_K.moved hW.alike hK, by rw [hw9]; exact hD⟩, hS.F ht⟩) hS.2.2 dX3_in_15
  · refine lv_iload_n hx hb dX3_in_5 rfl (lv_at hl 0 rfl) ?_
    refine lv_iload_n hx hb dX3_in_6 rfl (lv_at hl 2 rfl) ?_
    refine zz_icmp_gt (tgt := 14) hx hb dX3_in_7 (by decide) (by omega) (by omega) (fun c2 => ?_) (fun c2 => ?_)
    · refine lv_iconst (v := zz_i (0)) hx hb dX3_in_14 rfl ?_
      have hv9 : sp_bt v lo hi = 0 := by unfold sp_bt; (repeat (first | rw [if_pos (by omega)] | rw [if_neg (by omega)])) <;> first | rfl | omega
      have hw9 : wd = wd := by rfl
      subst hAe
      exact W.zret (v := zz_i (0)) (ty := .boolean) hx hb hr (zz_narB (by omega)) (fun t ht hW => ⟨congrArg (fun z => Outcome.returned (some (Value.int (zz_i z)))) hv9.symm, ⟨(), trivial, by rw [ht, hw9]; exact hP, va_K.moved hW.alike hK, by rw [hw9]; exact hD⟩, hS.F ht⟩) hS.2.2 dX3_in_15
    · refine lv_iconst (v := zz_i (1)) hx hb dX3_in_10 rfl ?_
      refine lv_goto (tgt := 15) hx hb dX3_in_11 (by decide) ?_
      have hv9 : sp_bt v lo hi = 1 := by unfold sp_bt; (repeat (first | rw [if_pos (by omega)] | rw [if_neg (by omega)])) <;> first | rfl | omega
      have hw9 : wd = wd := by rfl
      subst hAe
      exact W.zret (v := zz_i (1)) (ty := .boolean) hx hb hr (zz_narB (by omega)) (fun t ht hW => ⟨congrArg (fun z => Outcome.returned (some (Value.int (zz_i z)))) hv9.symm, ⟨(), trivial, by rw [ht, hw9]; exact hP, va_K.moved hW.alike hK, by rw [hw9]; exact hD⟩, hS.F ht⟩) hS.2.2 dX3_in_15

set_option maxHeartbeats 4000000 in
set_option maxRecDepth 100000 in
theorem r_isItem (l : Launch) (D : va_G) (cy gr : Nat → Nat) (kc : Int) (σ : zz_S) (sz : Nat) (hI : iw_ σ) (x : Int) (q_x : (-2147483648 ≤ x ∧ x < 2147483648)) : Met l yX3_isItem wsX3_isItem ({ frames := 1, cells := 0, slots := 0, locals := 22 }) (ct_P D cy [.ref (gr 0), .int (zz_i (x))] (rk_ cy gr kc σ) sz) (ct_Q D cy (rk_ cy gr kc σ) sz (some (.int (zz_i (sp_bt x 1 (σ 4 0))))) (fun _ : Unit => True) (fun _ => rk_ cy gr kc σ)) 0 0 (va_A (rk_ cy gr kc σ) sz) := by
  refine Met.ofW (cc := cX3_isItem) (maxL := 2) (ret := (some .boolean)) (by decide) rfl ?_
  intro p e s m args below meth c s₁ B hml hv
  obtain ⟨rfl, rfl, hP, hK, hD0, hE⟩ := hv
  have hx := B.exec
  have hb := B.bytes
  have hr := B.returns
  have hts := atoms_spec (ws := wsX3_isItem) B.pre
  have hown : s.vm.findClass RX3 = some m.cls := findClass_of_methodNamed B.named
  have hlocks := B.notSynchronized
  have hD := hD0.self (sz := s.heap.size)
  obtain ⟨A, hAe⟩ : ∃ A, A = va_A (rk_ cy gr kc σ) s.heap.size := ⟨_, rfl⟩
  rw [← hAe] at hD hE
  have hA : ∀ q : Nat, s.heap.size ≤ q → A q := fun q h => by rw [hAe]; exact Or.inr h
  have hS : va_S A s.heap s.heap [] := va_S.rf
  have hP : va_P D zz_cl (rk_ cy gr kc σ) s.heap := hP
  have hl := lv_entry ([.ref (gr 0), .int (zz_i (x))]) (n := 2) (Nat.le_of_ble_eq_true rfl)
  rw [lg_entry_eq]
  generalize (lg_sl ([.ref (gr 0), .int (zz_i (x))]) ++ List.replicate (2 - (lg_sl ([.ref (gr 0), .int (zz_i (x))])).length) Slot.unset).toArray = ls at hl ⊢
  have hl : lv_has ls 2 [(0, .ref (gr 0)), (1, .int (zz_i (x)))] := hl
  obtain ⟨j1, j2, j3, j4, j5, j6, j7, j8, j9, j10⟩ := id hI
  have hiX3 : ∀ w ∈ wsX30, w ∈ wsX3_isItem := by decide +kernel
  have hf66 := hts (.fieldLink RX3 66 "SorterStepsModel" "items" "I") (by decide +kernel)
  refine lv_iload_n hx hb dX3_isItem_0 rfl (lv_at hl 1 rfl) ?_
  refine lv_iconst (v := zz_i (1)) hx hb dX3_isItem_1 rfl ?_
  refine lv_aload_n hx hb dX3_isItem_2 rfl (lv_at hl 0 rfl) ?_
  refine va_get (D := D) (ci := 3) (v := .int (zz_i (σ 4 0))) (C := RX3) (T := TX3) (N := 23) hx hb hts hiX3 hown hK hP (0) rfl rfl 7 (by decide) hf66 (fun _ h9 => h9) rfl dX3_isItem_3 ?_
  refine zc_s (As := [.int (zz_i (x)), .int (zz_i (1)), .int (zz_i (σ 4 0))]) (rest := []) (S := Unit) (pc := 6) ⟨hx, hb, hml, hown, hts⟩ (r_in l D cy (rk_ cy gr kc σ) _ (x) (1) (σ 4 0) (by omega) (by omega) (by omega)) (va_cwS 3 hts gX3_isItem_X3_in rfl rfl rfl (by decide +kernel) ⟨Nat.le_of_ble_eq_true rfl, Nat.le_of_ble_eq_true rfl⟩) hK hP hD hS hA hE rfl hl.1 rfl (Nat.le_of_ble_eq_true rfl) dX3_isItem_6 ⟨Nat.le_of_ble_eq_true rfl, Nat.le_of_ble_eq_true rfl⟩ (fun _ H locs k1 hP hD hS => ?_)
  refine W.eq (g2 := F0 m 9 ls [.int (zz_i (sp_bt (x) (1) (σ 4 0)))]) rfl ?_
  have b1 := sp_bt_b (x) (1) (σ 4 0)
  have hv9 : sp_bt x 1 (σ 4 0) = sp_bt (x) (1) (σ 4 0) := by rfl
  have hw9 : rk_ cy gr kc σ = rk_ cy gr kc σ := by rfl
  subst hAe
  exact W.zret (v := zz_i (sp_bt (x) (1) (σ 4 0))) (ty := .boolean) hx hb hr (zz_narB (by omega)) (fun t ht hW => ⟨congrArg (fun z => Outcome.returned (some (Value.int (zz_i z)))) hv9.symm, ⟨(), trivial, by rw [ht, hw9]; exact hP, va_K.moved hW.alike hK, by rw [hw9]; exact hD⟩, hS.F ht⟩) hS.2.2 dX3_isItem_9

set_option maxHeartbeats 4000000 in
set_option maxRecDepth 100000 in
theorem r_chutes (l : Launch) (D : va_G) (cy gr : Nat → Nat) (kc : Int) (σ : zz_S) (sz : Nat) (hI : iw_ σ) : Met l yX3_chutes wsX3_chutes ({ frames := 0, cells := 0, slots := 0, locals := 0 }) (ct_P D cy [.ref (gr 0)] (rk_ cy gr kc σ) sz) (ct_Q D cy (rk_ cy gr kc σ) sz (some (.int (zz_i (σ 28 0)))) (fun _ : Unit => True) (fun _ => rk_ cy gr kc σ)) 0 0 (va_A (rk_ cy gr kc σ) sz) := by
  refine Met.ofW (cc := cX3_chutes) (maxL := 1) (ret := (some .int)) (by decide) rfl ?_
  intro p e s m args below meth c s₁ B hml hv
  obtain ⟨rfl, rfl, hP, hK, hD0, hE⟩ := hv
  have hx := B.exec
  have hb := B.bytes
  have hr := B.returns
  have hts := atoms_spec (ws := wsX3_chutes) B.pre
  have hown : s.vm.findClass RX3 = some m.cls := findClass_of_methodNamed B.named
  have hlocks := B.notSynchronized
  have hD := hD0.self (sz := s.heap.size)
  obtain ⟨A, hAe⟩ : ∃ A, A = va_A (rk_ cy gr kc σ) s.heap.size := ⟨_, rfl⟩
  rw [← hAe] at hD hE
  have hA : ∀ q : Nat, s.heap.size ≤ q → A q := fun q h => by rw [hAe]; exact Or.inr h
  have hS : va_S A s.heap s.heap [] := va_S.rf
  have hP : va_P D zz_cl (rk_ cy gr kc σ) s.heap := hP
  have hl := lv_entry ([.ref (gr 0)]) (n := 1) (Nat.le_of_ble_eq_true rfl)
  rw [lg_entry_eq]
  generalize (lg_sl ([.ref (gr 0)]) ++ List.replicate (1 - (lg_sl ([.ref (gr 0)])).length) Slot.unset).toArray = ls at hl ⊢
  have hl : lv_has ls 1 [(0, .ref (gr 0))] := hl
  obtain ⟨j1, j2, j3, j4, j5, j6, j7, j8, j9, j10⟩ := id hI
  have hiX3 : ∀ w ∈ wsX30, w ∈ wsX3_chutes := by decide +kernel
  have hf57 := hts (.fieldLink RX3 57 "SorterStepsModel" "trays" "I") (by decide +kernel)
  refine lv_aload_n hx hb dX3_chutes_0 rfl (lv_at hl 0 rfl) ?_
  refine va_get (D := D) (ci := 3) (v := .int (zz_i (σ 0 0))) (C := RX3) (T := TX3) (N := 23) hx hb hts hiX3 hown hK hP (0) rfl rfl 1 (by decide) hf57 (fun _ h9 => h9) rfl dX3_chutes_1 ?_
  refine lv_bipush (v := zz_i (12)) hx hb dX3_chutes_4 (by decide) ?_
  refine zz_icmp_le (tgt := 14) hx hb dX3_chutes_6 (by decide) (by omega) (by omega) (fun c1 => ?_) (fun c1 => ?_)
  · refine lv_aload_n hx hb dX3_chutes_14 rfl (lv_at hl 0 rfl) ?_
    refine va_get (D := D) (ci := 3) (v := .int (zz_i (σ 0 0))) (C := RX3) (T := TX3) (N := 23) hx hb hts hiX3 hown hK hP (0) rfl rfl 1 (by decide) hf57 (fun _ h9 => h9) rfl dX3_chutes_15 ?_
    refine lv_iconst (v := zz_i (1)) hx hb dX3_chutes_18 rfl ?_
    refine zz_isub hx hb dX3_chutes_19 ?_
    refine lv_iconst (v := zz_i (2)) hx hb dX3_chutes_20 rfl ?_
    refine zz_idiv hx hb dX3_chutes_21 (by omega) (by omega) ?_
    have hv9 : σ 28 0 = ((σ 0 0) - 1) / 2 := by omega
    have hw9 : rk_ cy gr kc σ = rk_ cy gr kc σ := by rfl
    subst hAe
    exact W.iret (v := zz_i (((σ 0 0) - 1) / 2)) hx hb hr (fun t ht hW => ⟨congrArg (fun z => Outcome.returned (some (Value.int (zz_i z)))) hv9.symm, ⟨(), trivial, by rw [ht, hw9]; exact hP, va_K.moved hW.alike hK, by rw [hw9]; exact hD⟩, hS.F ht⟩) hS.2.2 dX3_chutes_22
  · refine lv_bipush (v := zz_i (6)) hx hb dX3_chutes_9 (by decide) ?_
    refine lv_goto (tgt := 22) hx hb dX3_chutes_11 (by decide) ?_
    have hv9 : σ 28 0 = 6 := by omega
    have hw9 : rk_ cy gr kc σ = rk_ cy gr kc σ := by rfl
    subst hAe
    exact W.iret (v := zz_i (6)) hx hb hr (fun t ht hW => ⟨congrArg (fun z => Outcome.returned (some (Value.int (zz_i z)))) hv9.symm, ⟨(), trivial, by rw [ht, hw9]; exact hP, va_K.moved hW.alike hK, by rw [hw9]; exact hD⟩, hS.F ht⟩) hS.2.2 dX3_chutes_22

set_option maxHeartbeats 4000000 in
set_option maxRecDepth 100000 in
theorem r_isChute (l : Launch) (D : va_G) (cy gr : Nat → Nat) (kc : Int) (σ : zz_S) (sz : Nat) (hI : iw_ σ) (x : Int) (q_x : (-2147483648 ≤ x ∧ x < 2147483648)) : Met l yX3_isChute wsX3_isChute ({ frames := 1, cells := 0, slots := 0, locals := 22 }) (ct_P D cy [.ref (gr 0), .int (zz_i (x))] (rk_ cy gr kc σ) sz) (ct_Q D cy (rk_ cy gr kc σ) sz (some (.int (zz_i (sp_bt x 1 (σ 28 0))))) (fun _ : Unit => True) (fun _ => rk_ cy gr kc σ)) 0 0 (va_A (rk_ cy gr kc σ) sz) := by
  refine Met.ofW (cc := cX3_isChute) (maxL := 2) (ret := (some .boolean)) (by decide) rfl ?_
  intro p e s m args below meth c s₁ B hml hv
  obtain ⟨rfl, rfl, hP, hK, hD0, hE⟩ := hv
  have hx := B.exec
  have hb := B.bytes
  have hr := B.returns
  have hts := atoms_spec (ws := wsX3_isChute) B.pre
  have hown : s.vm.findClass RX3 = some m.cls := findClass_of_methodNamed B.named
  have hlocks := B.notSynchronized
  have hD := hD0.self (sz := s.heap.size)
  obtain ⟨A, hAe⟩ : ∃ A, A = va_A (rk_ cy gr kc σ) s.heap.size := ⟨_, rfl⟩
  rw [← hAe] at hD hE
  have hA : ∀ q : Nat, s.heap.size ≤ q → A q := fun q h => by rw [hAe]; exact Or.inr h
  have hS : va_S A s.heap s.heap [] := va_S.rf
  have hP : va_P D zz_cl (rk_ cy gr kc σ) s.heap := hP
  have hl := lv_entry ([.ref (gr 0), .int (zz_i (x))]) (n := 2) (Nat.le_of_ble_eq_true rfl)
  rw [lg_entry_eq]
  generalize (lg_sl ([.ref (gr 0), .int (zz_i (x))]) ++ List.replicate (2 - (lg_sl ([.ref (gr 0), .int (zz_i (x))])).length) Slot.unset).toArray = ls at hl ⊢
  have hl : lv_has ls 2 [(0, .ref (gr 0)), (1, .int (zz_i (x)))] := hl
  obtain ⟨j1, j2, j3, j4, j5, j6, j7, j8, j9, j10⟩ := id hI
  refine lv_iload_n hx hb dX3_isChute_0 rfl (lv_at hl 1 rfl) ?_
  refine lv_iconst (v := zz_i (1)) hx hb dX3_isChute_1 rfl ?_
  refine lv_aload_n hx hb dX3_isChute_2 rfl (lv_at hl 0 rfl) ?_
  refine zc_v (As := []) (rest := [.int (zz_i (1)), .int (zz_i (x))]) (S := Unit) (pc := 3) ⟨hx, hb, hml, hown, hts⟩ (r_chutes l D cy gr kc σ _ hI) (cwV 0 hts gX3_isChute_X3_chutes rfl rfl rfl (by decide +kernel) ⟨Nat.le_of_ble_eq_true rfl, Nat.le_of_ble_eq_true rfl⟩) hK hP hD hS hA hE (va_recv hK hP (ci := 3) (q0 := 0) rfl rfl) rfl hl.1 rfl (Nat.le_of_ble_eq_true rfl) dX3_isChute_3 ⟨Nat.le_of_ble_eq_true rfl, Nat.le_of_ble_eq_true rfl⟩ (fun _ H locs k1 hP hD hS => ?_)
  refine W.eq (g2 := F0 m 6 ls [.int (zz_i (σ 28 0)), .int (zz_i (1)), .int (zz_i (x))]) rfl ?_
  refine zc_s (As := [.int (zz_i (x)), .int (zz_i (1)), .int (zz_i (σ 28 0))]) (rest := []) (S := Unit) (pc := 6) ⟨hx, hb, hml, hown, hts⟩ (r_in l D cy (rk_ cy gr kc σ) _ (x) (1) (σ 28 0) (by omega) (by omega) (by omega)) (va_cwS 3 hts gX3_isChute_X3_in rfl rfl rfl (by decide +kernel) ⟨Nat.le_of_ble_eq_true rfl, Nat.le_of_ble_eq_true rfl⟩) hK hP hD hS hA hE rfl hl.1 rfl (Nat.le_of_ble_eq_true rfl) dX3_isChute_6 ⟨Nat.le_of_ble_eq_true rfl, Nat.le_of_ble_eq_true rfl⟩ (fun _ H locs k2 hP hD hS => ?_)
  refine W.eq (g2 := F0 m 9 ls [.int (zz_i (sp_bt (x) (1) (σ 28 0)))]) rfl ?_
  have b2 := sp_bt_b (x) (1) (σ 28 0)
  have hv9 : sp_bt x 1 (σ 28 0) = sp_bt (x) (1) (σ 28 0) := by rfl
  have hw9 : rk_ cy gr kc σ = rk_ cy gr kc σ := by rfl
  subst hAe
  exact W.zret (v := zz_i (sp_bt (x) (1) (σ 28 0))) (ty := .boolean) hx hb hr (zz_narB (by omega)) (fun t ht hW => ⟨congrArg (fun z => Outcome.returned (some (Value.int (zz_i z)))) hv9.symm, ⟨(), trivial, by rw [ht, hw9]; exact hP, va_K.moved hW.alike hK, by rw [hw9]; exact hD⟩, hS.F ht⟩) hS.2.2 dX3_isChute_9

set_option maxHeartbeats 4000000 in
set_option maxRecDepth 100000 in
theorem r_isCode (l : Launch) (D : va_G) (cy gr : Nat → Nat) (kc : Int) (σ : zz_S) (sz : Nat) (hI : iw_ σ) (x : Int) (q_x : (-2147483648 ≤ x ∧ x < 2147483648)) : Met l yX3_isCode wsX3_isCode ({ frames := 2, cells := 0, slots := 0, locals := 43 }) (ct_P D cy [.ref (gr 0), .int (zz_i (x))] (rk_ cy gr kc σ) sz) (ct_Q D cy (rk_ cy gr kc σ) sz (some (.int (zz_i (sp_bt x 0 (σ 28 0))))) (fun _ : Unit => True) (fun _ => rk_ cy gr kc σ)) 0 0 (va_A (rk_ cy gr kc σ) sz) := by
  refine Met.ofW (cc := cX3_isCode) (maxL := 2) (ret := (some .boolean)) (by decide) rfl ?_
  intro p e s m args below meth c s₁ B hml hv
  obtain ⟨rfl, rfl, hP, hK, hD0, hE⟩ := hv
  have hx := B.exec
  have hb := B.bytes
  have hr := B.returns
  have hts := atoms_spec (ws := wsX3_isCode) B.pre
  have hown : s.vm.findClass RX3 = some m.cls := findClass_of_methodNamed B.named
  have hlocks := B.notSynchronized
  have hD := hD0.self (sz := s.heap.size)
  obtain ⟨A, hAe⟩ : ∃ A, A = va_A (rk_ cy gr kc σ) s.heap.size := ⟨_, rfl⟩
  rw [← hAe] at hD hE
  have hA : ∀ q : Nat, s.heap.size ≤ q → A q := fun q h => by rw [hAe]; exact Or.inr h
  have hS : va_S A s.heap s.heap [] := va_S.rf
  have hP : va_P D zz_cl (rk_ cy gr kc σ) s.heap := hP
  have hl := lv_entry ([.ref (gr 0), .int (zz_i (x))]) (n := 2) (Nat.le_of_ble_eq_true rfl)
  rw [lg_entry_eq]
  generalize (lg_sl ([.ref (gr 0), .int (zz_i (x))]) ++ List.replicate (2 - (lg_sl ([.ref (gr 0), .int (zz_i (x))])).length) Slot.unset).toArray = ls at hl ⊢
  have hl : lv_has ls 2 [(0, .ref (gr 0)), (1, .int (zz_i (x)))] := hl
  obtain ⟨j1, j2, j3, j4, j5, j6, j7, j8, j9, j10⟩ := id hI
  refine lv_iload_n hx hb dX3_isCode_0 rfl (lv_at hl 1 rfl) ?_
  refine zz_if_eq (tgt := 12) hx hb dX3_isCode_1 (by decide) (by omega) (fun c1 => ?_) (fun c1 => ?_)
  · refine lv_iconst (v := zz_i (1)) hx hb dX3_isCode_12 rfl ?_
    refine lv_goto (tgt := 17) hx hb dX3_isCode_13 (by decide) ?_
    have hv9 : sp_bt x 0 (σ 28 0) = 1 := by unfold sp_bt; (repeat (first | rw [if_pos (by omega)] | rw [if_neg (by omega)])) <;> first | rfl | omega
    have hw9 : rk_ cy gr kc σ = rk_ cy gr kc σ := by rfl
    subst hAe
    exact W.zret (v := zz_i (1)) (ty := .boolean) hx hb hr (zz_narB (by omega)) (fun t ht hW => ⟨congrArg (fun z => Outcome.returned (some (Value.int (zz_i z)))) hv9.symm, ⟨(), trivial, by rw [ht, hw9]; exact hP, va_K.moved hW.alike hK, by rw [hw9]; exact hD⟩, hS.F ht⟩) hS.2.2 dX3_isCode_17
  · refine lv_aload_n hx hb dX3_isCode_4 rfl (lv_at hl 0 rfl) ?_
    refine lv_iload_n hx hb dX3_isCode_5 rfl (lv_at hl 1 rfl) ?_
    refine zc_v (As := [.int (zz_i (x))]) (rest := []) (S := Unit) (pc := 6) ⟨hx, hb, hml, hown, hts⟩ (r_isChute l D cy gr kc σ _ hI (x) (by omega)) (cwV 1 hts gX3_isCode_X3_isChute rfl rfl rfl (by decide +kernel) ⟨Nat.le_of_ble_eq_true rfl, Nat.le_of_ble_eq_true rfl⟩) hK hP hD hS hA hE (va_recv hK hP (ci := 3) (q0 := 0) rfl rfl) rfl hl.1 rfl (Nat.le_of_ble_eq_true rfl) dX3_isCode_6 ⟨Nat.le_of_ble_eq_true rfl, Nat.le_of_ble_eq_true rfl⟩ (fun _ H locs k2 hP hD hS => ?_)
    refine W.eq (g2 := F0 m 9 ls [.int (zz_i (sp_bt (x) 1 (σ 28 0)))]) rfl ?_
    have b2 : (sp_bt (x) 1 (σ 28 0) = 1 ∧ 1 ≤ x ∧ x ≤ σ 28 0) ∨ (sp_bt (x) 1 (σ 28 0) = 0 ∧ (x < 1 ∨ σ 28 0 < x)) := sp_bt_b (x) 1 (σ 28 0)
    refine zz_if_eq (tgt := 16) hx hb dX3_isCode_9 (by decide) (by omega) (fun c3 => ?_) (fun c3 => ?_)
    · refine lv_iconst (v := zz_i (0)) hx hb dX3_isCode_16 rfl ?_
      have hv9 : sp_bt x 0 (σ 28 0) = 0 := by unfold sp_bt; (repeat (first | rw [if_pos (by omega)] | rw [if_neg (by omega)])) <;> first | rfl | omega
      have hw9 : rk_ cy gr kc σ = rk_ cy gr kc σ := by rfl
      subst hAe
      exact W.zret (v := zz_i (0)) (ty := .boolean) hx hb hr (zz_narB (by omega)) (fun t ht hW => ⟨congrArg (fun z => Outcome.returned (some (Value.int (zz_i z)))) hv9.symm, ⟨(), trivial, by rw [ht, hw9]; exact hP, va_K.moved hW.alike hK, by rw [hw9]; exact hD⟩, hS.F ht⟩) hS.2.2 dX3_isCode_17
    · refine lv_iconst (v := zz_i (1)) hx hb dX3_isCode_12 rfl ?_
      refine lv_goto (tgt := 17) hx hb dX3_isCode_13 (by decide) ?_
      have hv9 : sp_bt x 0 (σ 28 0) = 1 := by unfold sp_bt; (repeat (first | rw [if_pos (by omega)] | rw [if_neg (by omega)])) <;> first | rfl | omega
      have hw9 : rk_ cy gr kc σ = rk_ cy gr kc σ := by rfl
      subst hAe
      exact W.zret (v := zz_i (1)) (ty := .boolean) hx hb hr (zz_narB (by omega)) (fun t ht hW => ⟨congrArg (fun z => Outcome.returned (some (Value.int (zz_i z)))) hv9.symm, ⟨(), trivial, by rw [ht, hw9]; exact hP, va_K.moved hW.alike hK, by rw [hw9]; exact hD⟩, hS.F ht⟩) hS.2.2 dX3_isCode_17

set_option maxHeartbeats 4000000 in
set_option maxRecDepth 100000 in
theorem r_trayAt (l : Launch) (D : va_G) (cy gr : Nat → Nat) (kc : Int) (σ : zz_S) (sz : Nat) (hI : iw_ σ) (j17 : σ 8 0 = σ 2 0 % σ 0 0) (x : Int) (q_x : 0 ≤ x ∧ x < σ 0 0) : Met l yX3_trayAt wsX3_trayAt ({ frames := 0, cells := 0, slots := 0, locals := 0 }) (ct_P D cy [.ref (gr 0), .int (zz_i (x))] (rk_ cy gr kc σ) sz) (ct_Q D cy (rk_ cy gr kc σ) sz (some (.int (zz_i (sp_tr σ x)))) (fun _ : Unit => True) (fun _ => rk_ cy gr kc σ)) 0 0 (va_A (rk_ cy gr kc σ) sz) := by
  refine Met.ofW (cc := cX3_trayAt) (maxL := 2) (ret := (some .int)) (by decide) rfl ?_
  intro p e s m args below meth c s₁ B hml hv
  obtain ⟨rfl, rfl, hP, hK, hD0, hE⟩ := hv
  have hx := B.exec
  have hb := B.bytes
  have hr := B.returns
  have hts := atoms_spec (ws := wsX3_trayAt) B.pre
  have hown : s.vm.findClass RX3 = some m.cls := findClass_of_methodNamed B.named
  have hlocks := B.notSynchronized
  have hD := hD0.self (sz := s.heap.size)
  obtain ⟨A, hAe⟩ : ∃ A, A = va_A (rk_ cy gr kc σ) s.heap.size := ⟨_, rfl⟩
  rw [← hAe] at hD hE
  have hA : ∀ q : Nat, s.heap.size ≤ q → A q := fun q h => by rw [hAe]; exact Or.inr h
  have hS : va_S A s.heap s.heap [] := va_S.rf
  have hP : va_P D zz_cl (rk_ cy gr kc σ) s.heap := hP
  have hl := lv_entry ([.ref (gr 0), .int (zz_i (x))]) (n := 2) (Nat.le_of_ble_eq_true rfl)
  rw [lg_entry_eq]
  generalize (lg_sl ([.ref (gr 0), .int (zz_i (x))]) ++ List.replicate (2 - (lg_sl ([.ref (gr 0), .int (zz_i (x))])).length) Slot.unset).toArray = ls at hl ⊢
  have hl : lv_has ls 2 [(0, .ref (gr 0)), (1, .int (zz_i (x)))] := hl
  obtain ⟨j1, j2, j3, j4, j5, j6, j7, j8, j9, j10⟩ := id hI
  have hiX3 : ∀ w ∈ wsX30, w ∈ wsX3_trayAt := by decide +kernel
  have hf57 := hts (.fieldLink RX3 57 "SorterStepsModel" "trays" "I") (by decide +kernel)
  have hf81 := hts (.fieldLink RX3 81 "SorterStepsModel" "steps" "I") (by decide +kernel)
  refine lv_iload_n hx hb dX3_trayAt_0 rfl (lv_at hl 1 rfl) ?_
  refine lv_aload_n hx hb dX3_trayAt_1 rfl (lv_at hl 0 rfl) ?_
  refine va_get (D := D) (ci := 3) (v := .int (zz_i (σ 0 0))) (C := RX3) (T := TX3) (N := 23) hx hb hts hiX3 hown hK hP (0) rfl rfl 1 (by decide) hf57 (fun _ h9 => h9) rfl dX3_trayAt_2 ?_
  refine zz_iadd hx hb dX3_trayAt_5 ?_
  refine lv_aload_n hx hb dX3_trayAt_6 rfl (lv_at hl 0 rfl) ?_
  refine va_get (D := D) (ci := 3) (v := .int (zz_i (σ 2 0))) (C := RX3) (T := TX3) (N := 23) hx hb hts hiX3 hown hK hP (0) rfl rfl 3 (by decide) hf81 (fun _ h9 => h9) rfl dX3_trayAt_7 ?_
  refine lv_aload_n hx hb dX3_trayAt_10 rfl (lv_at hl 0 rfl) ?_
  refine va_get (D := D) (ci := 3) (v := .int (zz_i (σ 0 0))) (C := RX3) (T := TX3) (N := 23) hx hb hts hiX3 hown hK hP (0) rfl rfl 1 (by decide) hf57 (fun _ h9 => h9) rfl dX3_trayAt_11 ?_
  refine zz_irem hx hb dX3_trayAt_14 (by omega) (by omega) ?_
  refine zz_isub hx hb dX3_trayAt_15 ?_
  refine lv_aload_n hx hb dX3_trayAt_16 rfl (lv_at hl 0 rfl) ?_
  refine va_get (D := D) (ci := 3) (v := .int (zz_i (σ 0 0))) (C := RX3) (T := TX3) (N := 23) hx hb hts hiX3 hown hK hP (0) rfl rfl 1 (by decide) hf57 (fun _ h9 => h9) rfl dX3_trayAt_17 ?_
  refine zz_irem hx hb dX3_trayAt_20 (by omega) (by omega) ?_
  have hv9 : sp_tr σ x = ((x + (σ 0 0)) - ((σ 2 0) % (σ 0 0))) % (σ 0 0) := by exact tr_md hI j17 q_x
  have hw9 : rk_ cy gr kc σ = rk_ cy gr kc σ := by rfl
  subst hAe
  exact W.iret (v := zz_i (((x + (σ 0 0)) - ((σ 2 0) % (σ 0 0))) % (σ 0 0))) hx hb hr (fun t ht hW => ⟨congrArg (fun z => Outcome.returned (some (Value.int (zz_i z)))) hv9.symm, ⟨(), trivial, by rw [ht, hw9]; exact hP, va_K.moved hW.alike hK, by rw [hw9]; exact hD⟩, hS.F ht⟩) hS.2.2 dX3_trayAt_21

set_option maxHeartbeats 4000000 in
set_option maxRecDepth 100000 in
theorem r_trayOf (l : Launch) (D : va_G) (cy gr : Nat → Nat) (kc : Int) (σ : zz_S) (sz : Nat) (lo : Int) (hI : ir_ lo σ) (x : Int) (q_x : 1 ≤ x ∧ x ≤ σ 4 0) : Met l yX3_trayOf wsX3_trayOf ({ frames := 0, cells := 0, slots := 0, locals := 0 }) (ct_P D cy [.ref (gr 0), .int (zz_i (x))] (rk_ cy gr kc σ) sz) (ct_Q D cy (rk_ cy gr kc σ) sz (some (.int (zz_i (σ 18 x)))) (fun _ : Unit => True) (fun _ => rk_ cy gr kc σ)) 0 0 (va_A (rk_ cy gr kc σ) sz) := by
  refine Met.ofW (cc := cX3_trayOf) (maxL := 3) (ret := (some .int)) (by decide) rfl ?_
  intro p e s m args below meth c s₁ B hml hv
  obtain ⟨rfl, rfl, hP, hK, hD0, hE⟩ := hv
  have hx := B.exec
  have hb := B.bytes
  have hr := B.returns
  have hts := atoms_spec (ws := wsX3_trayOf) B.pre
  have hown : s.vm.findClass RX3 = some m.cls := findClass_of_methodNamed B.named
  have hlocks := B.notSynchronized
  have hD := hD0.self (sz := s.heap.size)
  obtain ⟨A, hAe⟩ : ∃ A, A = va_A (rk_ cy gr kc σ) s.heap.size := ⟨_, rfl⟩
  rw [← hAe] at hD hE
  have hA : ∀ q : Nat, s.heap.size ≤ q → A q := fun q h => by rw [hAe]; exact Or.inr h
  have hS : va_S A s.heap s.heap [] := va_S.rf
  have hP : va_P D zz_cl (rk_ cy gr kc σ) s.heap := hP
  have hl := lv_entry ([.ref (gr 0), .int (zz_i (x))]) (n := 3) (Nat.le_of_ble_eq_true rfl)
  rw [lg_entry_eq]
  generalize (lg_sl ([.ref (gr 0), .int (zz_i (x))]) ++ List.replicate (3 - (lg_sl ([.ref (gr 0), .int (zz_i (x))])).length) Slot.unset).toArray = ls at hl ⊢
  have hl : lv_has ls 3 [(0, .ref (gr 0)), (1, .int (zz_i (x)))] := hl
  obtain ⟨⟨j1, j2, j3, j4, j5, j6, j7, j8, j9, j10⟩, j11, j12, j13, j14, j15, j16, j17, j18, j19, j20, j21, j22, j23, j24⟩ := id hI
  have hiX3 : ∀ w ∈ wsX30, w ∈ wsX3_trayOf := by decide +kernel
  have hf57 := hts (.fieldLink RX3 57 "SorterStepsModel" "trays" "I") (by decide +kernel)
  have hf13 := hts (.fieldLink RX3 13 "SorterStepsModel" "on" "[I") (by decide +kernel)
  refine lv_iconst (v := zz_i (0)) hx hb dX3_trayOf_0 rfl ?_
  refine lv_istore_n (lv' := [(2, .int (zz_i (0))), (0, .ref (gr 0)), (1, .int (zz_i (x)))]) hx hb dX3_trayOf_1 rfl hl (by decide) rfl (fun ls hl => ?_)
  refine zz_lp (α := Int) (μ := fun z9 => (σ 0 0 - z9).toNat) (cf := fun _ => 0) (sf := fun _ => 0) (I := fun z9 H locs ls => (0 ≤ z9 ∧ z9 ≤ σ 0 0) ∧ (∀ t, 0 ≤ t → t < z9 → σ 10 t ≠ x) ∧ va_P D zz_cl (rk_ cy gr kc σ) H ∧ va_D A (rk_ cy gr kc σ) ∧ va_S A s.heap H locs ∧ lv_has ls 3 [(0, .ref (gr 0)), (1, .int (zz_i (x))), (2, .int (zz_i (z9)))]) ?_ (0) _ _ _ ⟨(show 0 ≤ (0 : Int) ∧ (0 : Int) ≤ σ 0 0 from (by omega)), (show ∀ t, 0 ≤ t → t < (0 : Int) → σ 10 t ≠ x from (fun t h1 h2 => by omega)), hP, hD, hS, lv_sub hl [1, 2, 0] rfl⟩
  rintro j H locs ls ⟨v1, v2, hP, hD, hS, hl⟩ ih2
  have v1 : 0 ≤ j ∧ j ≤ σ 0 0 := v1
  have v2 : ∀ t, 0 ≤ t → t < j → σ 10 t ≠ x := v2
  have hP : va_P D zz_cl (rk_ cy gr kc σ) H := hP
  have hD : va_D A (rk_ cy gr kc σ) := hD
  have hl : lv_has ls 3 [(0, .ref (gr 0)), (1, .int (zz_i (x))), (2, .int (zz_i (j)))] := hl
  have hit := j13 x (by omega) (by omega)
  have h10 := j11 j
  refine lv_iload_n hx hb dX3_trayOf_2 rfl (lv_at hl 2 rfl) ?_
  refine lv_aload_n hx hb dX3_trayOf_3 rfl (lv_at hl 0 rfl) ?_
  refine va_get (D := D) (ci := 3) (v := .int (zz_i (σ 0 0))) (C := RX3) (T := TX3) (N := 23) hx hb hts hiX3 hown hK hP (0) rfl rfl 1 (by decide) hf57 (fun _ h9 => h9) rfl dX3_trayOf_4 ?_
  refine zz_icmp_ge (tgt := 28) hx hb dX3_trayOf_7 (by decide) (by omega) (by omega) (fun c1 => ?_) (fun c1 => ?_)
  · refine lv_iconst (v := zz_i (-1)) hx hb dX3_trayOf_28 rfl ?_
    have hv9 : σ 18 x = -1 := by exact to_e hI q_x v2 (by omega)
    have hw9 : rk_ cy gr kc σ = rk_ cy gr kc σ := by rfl
    subst hAe
    exact W.iret (v := zz_i (-1)) hx hb hr (fun t ht hW => ⟨congrArg (fun z => Outcome.returned (some (Value.int (zz_i z)))) hv9.symm, ⟨(), trivial, by rw [ht, hw9]; exact hP, va_K.moved hW.alike hK, by rw [hw9]; exact hD⟩, hS.F ht⟩) hS.2.2 dX3_trayOf_29
  · refine lv_aload_n hx hb dX3_trayOf_10 rfl (lv_at hl 0 rfl) ?_
    refine va_get (D := D) (ci := 3) (v := .ref (gr 1)) (C := RX3) (T := TX3) (N := 23) hx hb hts hiX3 hown hK hP (0) rfl rfl 5 (by decide) hf13 (fun _ h9 => h9) rfl dX3_trayOf_11 ?_
    refine lv_iload_n hx hb dX3_trayOf_14 rfl (lv_at hl 2 rfl) ?_
    refine zz_iald hx hb hK hP 1 0 rfl rfl (show 0 ≤ j ∧ j < ((40 : Nat) : Int) by omega) (show 40 < 2147483648 by omega) dX3_trayOf_15 ?_
    refine lv_iload_n hx hb dX3_trayOf_16 rfl (lv_at hl 1 rfl) ?_
    refine zz_icmp_ne (tgt := 22) hx hb dX3_trayOf_17 (by decide) (by omega) (by omega) (fun c2 => ?_) (fun c2 => ?_)
    · refine lv_iinc (v := zz_i (j + 1)) (lv' := [(2, .int (zz_i (j + 1))), (0, .ref (gr 0)), (1, .int (zz_i (x)))]) hx hb dX3_trayOf_22 hl (k := 2) rfl (zz_add _ _) (by decide) rfl (fun ls hl => ?_)
      refine lv_goto (tgt := 2) hx hb dX3_trayOf_25 (by decide) ?_
      exact ih2 (j + 1) _ _ _ (show (σ 0 0 - (j + 1)).toNat < (σ 0 0 - j).toNat by omega) ⟨(show 0 ≤ (j + 1) ∧ (j + 1) ≤ σ 0 0 from (by omega)), (show ∀ t, 0 ≤ t → t < (j + 1) → σ 10 t ≠ x from (to_n v2 (by omega))), hP, hD, hS, lv_sub hl [1, 2, 0] rfl⟩
    · refine lv_iload_n hx hb dX3_trayOf_20 rfl (lv_at hl 2 rfl) ?_
      have hv9 : σ 18 x = j := by exact to_f hI (by omega) (by omega)
      have hw9 : rk_ cy gr kc σ = rk_ cy gr kc σ := by rfl
      subst hAe
      exact W.iret (v := zz_i (j)) hx hb hr (fun t ht hW => ⟨congrArg (fun z => Outcome.returned (some (Value.int (zz_i z)))) hv9.symm, ⟨(), trivial, by rw [ht, hw9]; exact hP, va_K.moved hW.alike hK, by rw [hw9]; exact hD⟩, hS.F ht⟩) hS.2.2 dX3_trayOf_21

set_option maxHeartbeats 4000000 in
set_option maxRecDepth 100000 in
theorem r_thrown (l : Launch) (D : va_G) (cy gr : Nat → Nat) (kc : Int) (σ : zz_S) (sz : Nat) : Met l yX3_thrown wsX3_thrown ({ frames := 0, cells := 0, slots := 0, locals := 0 }) (ct_P D cy [.ref (gr 0)] (rk_ cy gr kc σ) sz) (ct_Q D cy (rk_ cy gr kc σ) sz (some (.int (zz_i (kc)))) (fun _ : Unit => True) (fun _ => rk_ cy gr kc σ)) 0 0 (va_A (rk_ cy gr kc σ) sz) := by
  refine Met.ofW (cc := cX3_thrown) (maxL := 1) (ret := (some .int)) (by decide) rfl ?_
  intro p e s m args below meth c s₁ B hml hv
  obtain ⟨rfl, rfl, hP, hK, hD0, hE⟩ := hv
  have hx := B.exec
  have hb := B.bytes
  have hr := B.returns
  have hts := atoms_spec (ws := wsX3_thrown) B.pre
  have hown : s.vm.findClass RX3 = some m.cls := findClass_of_methodNamed B.named
  have hlocks := B.notSynchronized
  have hD := hD0.self (sz := s.heap.size)
  obtain ⟨A, hAe⟩ : ∃ A, A = va_A (rk_ cy gr kc σ) s.heap.size := ⟨_, rfl⟩
  rw [← hAe] at hD hE
  have hA : ∀ q : Nat, s.heap.size ≤ q → A q := fun q h => by rw [hAe]; exact Or.inr h
  have hS : va_S A s.heap s.heap [] := va_S.rf
  have hP : va_P D zz_cl (rk_ cy gr kc σ) s.heap := hP
  have hl := lv_entry ([.ref (gr 0)]) (n := 1) (Nat.le_of_ble_eq_true rfl)
  rw [lg_entry_eq]
  generalize (lg_sl ([.ref (gr 0)]) ++ List.replicate (1 - (lg_sl ([.ref (gr 0)])).length) Slot.unset).toArray = ls at hl ⊢
  have hl : lv_has ls 1 [(0, .ref (gr 0))] := hl
  have hiX3 : ∀ w ∈ wsX30, w ∈ wsX3_thrown := by decide +kernel
  have hf63 := hts (.fieldLink RX3 63 "SorterStepsModel" "code" "I") (by decide +kernel)
  refine lv_aload_n hx hb dX3_thrown_0 rfl (lv_at hl 0 rfl) ?_
  refine va_get (D := D) (ci := 3) (v := .int (zz_i (kc))) (C := RX3) (T := TX3) (N := 23) hx hb hts hiX3 hown hK hP (0) rfl rfl 0 (by decide) hf63 (fun _ h9 => h9) rfl dX3_thrown_1 ?_
  have hv9 : kc = kc := by rfl
  have hw9 : rk_ cy gr kc σ = rk_ cy gr kc σ := by rfl
  subst hAe
  exact W.iret (v := zz_i (kc)) hx hb hr (fun t ht hW => ⟨congrArg (fun z => Outcome.returned (some (Value.int (zz_i z)))) hv9.symm, ⟨(), trivial, by rw [ht, hw9]; exact hP, va_K.moved hW.alike hK, by rw [hw9]; exact hD⟩, hS.F ht⟩) hS.2.2 dX3_thrown_4
end
