section
set_option maxHeartbeats 4000000 in
set_option maxRecDepth 100000 in
theorem r_item (l : Launch) (D : va_G) (cy gr : Nat → Nat) (kc : Int) (σ : zz_S) (sz : Nat) (hI : iv_ σ) (x : Int) (q_x : (-2147483648 ≤ x ∧ x < 2147483648)) : Met l yX3_item wsX3_item ({ frames := 1, cells := 0, slots := 0, locals := 22 }) (ct_P D cy [.ref (gr 0), .int (zz_i (x))] (rk_ cy gr kc σ) sz) (ct_Q D cy (rk_ cy gr kc σ) sz (some (.int (zz_i (an_ (k_item σ x) (σ 4 0 + 1))))) (fun _ : Unit => True) (fun _ => rk_ cy gr (k_item σ x) (nx_ (k_item σ x) σ (s_item σ x)))) 0 0 (va_A (rk_ cy gr kc σ) sz) := by
  refine Met.ofW (cc := cX3_item) (maxL := 2) (ret := (some .int)) (by decide) rfl ?_
  intro p e s m args below meth c s₁ B hml hv
  obtain ⟨rfl, rfl, hP, hK, hD0, hE⟩ := hv
  have hx := B.exec
  have hb := B.bytes
  have hr := B.returns
  have hts := atoms_spec (ws := wsX3_item) B.pre
  have hown : s.vm.findClass RX3 = some m.cls := findClass_of_methodNamed B.named
  have hlocks := B.notSynchronized
  have hD := hD0.self (sz := s.heap.size)
  obtain ⟨A, hAe⟩ : ∃ A, A = va_A (rk_ cy gr kc σ) s.heap.size := ⟨_, rfl⟩
  rw [← hAe] at hD hE
  have hA : ∀ q : Nat, s.heap.size ≤ q → A q := fun q h => by rw [hAe]; exact Or.inr h
  have hS : va_S A s.heap s.heap [] := va_S.rf
  have hP : va_P D zz_cl (rk_ cy gr kc σ) s.heap := hP
  have hl := lv_entry ([.ref (gr 0), .int (zz_i (x))]) (n := 2) (Nat.le_of_ble_eq_true rfl)
  rw [lg_entry_eq]
  generalize (lg_sl ([.ref (gr 0), .int (zz_i (x))]) ++ List.replicate (2 - (lg_sl ([.ref (gr 0), .int (zz_i (x))])).length) Slot.unset).toArray = ls at hl ⊢
  have hl : lv_has ls 2 [(0, .ref (gr 0)), (1, .int (zz_i (x)))] := hl
  obtain ⟨⟨j1, j2, j3, j4, j5, j6, j7, j8, j9, j10⟩, j11, j12, j13, j14, j15, j16, j17, j18, j19, j20, j21, j22, j23, j24⟩ := id hI
  have hiX3 : ∀ w ∈ wsX30, w ∈ wsX3_item := by decide +kernel
  have hf66 := hts (.fieldLink RX3 66 "SorterStepsModel" "items" "I") (by decide +kernel)
  have hf63 := hts (.fieldLink RX3 63 "SorterStepsModel" "code" "I") (by decide +kernel)
  have hf21 := hts (.fieldLink RX3 21 "SorterStepsModel" "length" "[I") (by decide +kernel)
  refine lv_aload_n hx hb dX3_item_0 rfl (lv_at hl 0 rfl) ?_
  refine lv_iload_n hx hb dX3_item_1 rfl (lv_at hl 1 rfl) ?_
  refine lv_iconst (v := zz_i (1)) hx hb dX3_item_2 rfl ?_
  refine lv_bipush (v := zz_i (100)) hx hb dX3_item_3 (by decide) ?_
  refine zc_s (As := [.int (zz_i (x)), .int (zz_i (1)), .int (zz_i (100))]) (rest := [.ref (gr 0)]) (S := Unit) (pc := 5) ⟨hx, hb, hml, hown, hts⟩ (r_in l D cy (rk_ cy gr kc σ) _ (x) (1) (100) (by omega) (by omega) (by omega)) (va_cwS 3 hts gX3_item_X3_in rfl rfl rfl (by decide +kernel) ⟨Nat.le_of_ble_eq_true rfl, Nat.le_of_ble_eq_true rfl⟩) hK hP hD hS hA hE rfl hl.1 rfl (Nat.le_of_ble_eq_true rfl) dX3_item_5 ⟨Nat.le_of_ble_eq_true rfl, Nat.le_of_ble_eq_true rfl⟩ (fun _ H locs k1 hP hD hS => ?_)
  refine W.eq (g2 := F0 m 8 ls [.int (zz_i (sp_bt (x) (1) (100))), .ref (gr 0)]) rfl ?_
  have b1 := sp_bt_b (x) (1) (100)
  refine zz_if_ne (tgt := 15) hx hb dX3_item_8 (by decide) (by omega) (fun c2 => ?_) (fun c2 => ?_)
  · refine lv_aload_n hx hb dX3_item_15 rfl (lv_at hl 0 rfl) ?_
    refine va_get (D := D) (ci := 3) (v := .int (zz_i (σ 4 0))) (C := RX3) (T := TX3) (N := 23) hx hb hts hiX3 hown hK hP (0) rfl rfl 7 (by decide) hf66 (fun _ h9 => h9) rfl dX3_item_16 ?_
    refine lv_bipush (v := zz_i (60)) hx hb dX3_item_19 (by decide) ?_
    refine zz_icmp_ne (tgt := 28) hx hb dX3_item_21 (by decide) (by omega) (by omega) (fun c3 => ?_) (fun c3 => ?_)
    · refine lv_iconst (v := zz_i (0)) hx hb dX3_item_28 rfl ?_
      refine va_put (D := D) (ci := 3) (v := .int (zz_i (0))) (ty := .int) (C := RX3) (T := TX3) (N := 23) hx hb hts hiX3 tyX3 tyX3_ok nmX3 hown hK hP hD hS (0) rfl rfl 0 (by decide) hf63 (fun _ h9 => h9) rfl (by decide +kernel) rfl rfl (Nat.le_of_ble_eq_true rfl) dX3_item_29 (fun H locs hP hD hS => ?_)
      have hP : va_P D zz_cl (rk_ cy gr 0 σ) H := hP
      have hD : va_D A (rk_ cy gr 0 σ) := hD
      refine lv_aload_n hx hb dX3_item_32 rfl (lv_at hl 0 rfl) ?_
      refine va_get (D := D) (ci := 3) (v := .int (zz_i (0))) (C := RX3) (T := TX3) (N := 23) hx hb hts hiX3 hown hK hP (0) rfl rfl 0 (by decide) hf63 (fun _ h9 => h9) rfl dX3_item_33 ?_
      refine zz_if_le (tgt := 41) hx hb dX3_item_36 (by decide) (by omega) (fun c4 => ?_) (fun c4 => ?_)
      · refine lv_aload_n hx hb dX3_item_41 rfl (lv_at hl 0 rfl) ?_
        refine lv_dup hx hb dX3_item_42 rfl ?_
        refine va_get (D := D) (ci := 3) (v := .int (zz_i (σ 4 0))) (C := RX3) (T := TX3) (N := 23) hx hb hts hiX3 hown hK hP (0) rfl rfl 7 (by decide) hf66 (fun _ h9 => h9) rfl dX3_item_43 ?_
        refine lv_iconst (v := zz_i (1)) hx hb dX3_item_46 rfl ?_
        refine zz_iadd hx hb dX3_item_47 ?_
        refine va_put (D := D) (ci := 3) (v := .int (zz_i ((σ 4 0) + 1))) (ty := .int) (C := RX3) (T := TX3) (N := 23) hx hb hts hiX3 tyX3 tyX3_ok nmX3 hown hK hP hD hS (0) rfl rfl 7 (by decide) hf66 (fun _ h9 => h9) rfl (by decide +kernel) rfl rfl (Nat.le_of_ble_eq_true rfl) dX3_item_48 (fun H locs hP hD hS => ?_)
        have hP : va_P D zz_cl (rk_ cy gr 0 (up_s σ 4 ((σ 4 0) + 1))) H := hP
        have hD : va_D A (rk_ cy gr 0 (up_s σ 4 ((σ 4 0) + 1))) := hD
        refine lv_aload_n hx hb dX3_item_51 rfl (lv_at hl 0 rfl) ?_
        refine va_get (D := D) (ci := 3) (v := .ref (gr 3)) (C := RX3) (T := TX3) (N := 23) hx hb hts hiX3 hown hK hP (0) rfl rfl 8 (by decide) hf21 (fun _ h9 => h9) rfl dX3_item_52 ?_
        refine lv_aload_n hx hb dX3_item_55 rfl (lv_at hl 0 rfl) ?_
        refine va_get (D := D) (ci := 3) (v := .int (zz_i ((σ 4 0) + 1))) (C := RX3) (T := TX3) (N := 23) hx hb hts hiX3 hown hK hP (0) rfl rfl 7 (by decide) hf66 (fun _ h9 => h9) rfl dX3_item_56 ?_
        refine lv_iload_n hx hb dX3_item_59 rfl (lv_at hl 1 rfl) ?_
        refine zz_iast hx hb hK hP hD hS 3 0 rfl rfl (show 0 ≤ (σ 4 0) + 1 ∧ (σ 4 0) + 1 < ((61 : Nat) : Int) by omega) (show 61 < 2147483648 by omega) dX3_item_60 (fun H locs hP hD hS => ?_)
        have hP : va_P D zz_cl (rk_ cy gr 0 (up_a (up_s σ 4 ((σ 4 0) + 1)) 12 ((σ 4 0) + 1) (x))) H := hP
        have hD : va_D A (rk_ cy gr 0 (up_a (up_s σ 4 ((σ 4 0) + 1)) 12 ((σ 4 0) + 1) (x))) := hD
        refine lv_aload_n hx hb dX3_item_61 rfl (lv_at hl 0 rfl) ?_
        refine va_get (D := D) (ci := 3) (v := .int (zz_i ((σ 4 0) + 1))) (C := RX3) (T := TX3) (N := 23) hx hb hts hiX3 hown hK hP (0) rfl rfl 7 (by decide) hf66 (fun _ h9 => h9) rfl dX3_item_62 ?_
        have hv9 : an_ (k_item σ x) (σ 4 0 + 1) = (σ 4 0) + 1 := by (have hk9 : k_item σ x = 0 := by unfold k_item; (repeat (first | rw [if_pos (by omega)] | rw [if_neg (by omega)])) <;> first | rfl | omega); rw [hk9]; show σ 4 0 + 1 = (σ 4 0) + 1; rfl
        have hw9 : rk_ cy gr (k_item σ x) (nx_ (k_item σ x) σ (s_item σ x)) = rk_ cy gr 0 (up_a (up_s σ 4 ((σ 4 0) + 1)) 12 ((σ 4 0) + 1) (x)) := by (have hk9 : k_item σ x = 0 := by unfold k_item; (repeat (first | rw [if_pos (by omega)] | rw [if_neg (by omega)])) <;> first | rfl | omega); rw [hk9]; show rk_ cy gr 0 (s_item σ x) = rk_ cy gr 0 (up_a (up_s σ 4 ((σ 4 0) + 1)) 12 ((σ 4 0) + 1) (x)); rfl
        subst hAe
        exact W.iret (v := zz_i ((σ 4 0) + 1)) hx hb hr (fun t ht hW => ⟨congrArg (fun z => Outcome.returned (some (Value.int (zz_i z)))) hv9.symm, ⟨(), trivial, by rw [ht, hw9]; exact hP, va_K.moved hW.alike hK, by rw [hw9]; exact hD⟩, hS.F ht⟩) hS.2.2 dX3_item_65
      · exact absurd c4 (by omega)
    · refine lv_iconst (v := zz_i (2)) hx hb dX3_item_24 rfl ?_
      refine lv_goto (tgt := 29) hx hb dX3_item_25 (by decide) ?_
      refine va_put (D := D) (ci := 3) (v := .int (zz_i (2))) (ty := .int) (C := RX3) (T := TX3) (N := 23) hx hb hts hiX3 tyX3 tyX3_ok nmX3 hown hK hP hD hS (0) rfl rfl 0 (by decide) hf63 (fun _ h9 => h9) rfl (by decide +kernel) rfl rfl (Nat.le_of_ble_eq_true rfl) dX3_item_29 (fun H locs hP hD hS => ?_)
      have hP : va_P D zz_cl (rk_ cy gr 2 σ) H := hP
      have hD : va_D A (rk_ cy gr 2 σ) := hD
      refine lv_aload_n hx hb dX3_item_32 rfl (lv_at hl 0 rfl) ?_
      refine va_get (D := D) (ci := 3) (v := .int (zz_i (2))) (C := RX3) (T := TX3) (N := 23) hx hb hts hiX3 hown hK hP (0) rfl rfl 0 (by decide) hf63 (fun _ h9 => h9) rfl dX3_item_33 ?_
      refine zz_if_le (tgt := 41) hx hb dX3_item_36 (by decide) (by omega) (fun c5 => ?_) (fun c5 => ?_)
      · exact absurd c5 (by omega)
      · refine lv_iconst (v := zz_i (0)) hx hb dX3_item_39 rfl ?_
        have hv9 : an_ (k_item σ x) (σ 4 0 + 1) = 0 := by (have hk9 : k_item σ x = 2 := by unfold k_item; (repeat (first | rw [if_pos (by omega)] | rw [if_neg (by omega)])) <;> first | rfl | omega); rw [hk9]; rfl
        have hw9 : rk_ cy gr (k_item σ x) (nx_ (k_item σ x) σ (s_item σ x)) = rk_ cy gr 2 σ := by (have hk9 : k_item σ x = 2 := by unfold k_item; (repeat (first | rw [if_pos (by omega)] | rw [if_neg (by omega)])) <;> first | rfl | omega); rw [hk9]; rfl
        subst hAe
        exact W.iret (v := zz_i (0)) hx hb hr (fun t ht hW => ⟨congrArg (fun z => Outcome.returned (some (Value.int (zz_i z)))) hv9.symm, ⟨(), trivial, by rw [ht, hw9]; exact hP, va_K.moved hW.alike hK, by rw [hw9]; exact hD⟩, hS.F ht⟩) hS.2.2 dX3_item_40
  · refine lv_iconst (v := zz_i (1)) hx hb dX3_item_11 rfl ?_
    refine lv_goto (tgt := 29) hx hb dX3_item_12 (by decide) ?_
    refine va_put (D := D) (ci := 3) (v := .int (zz_i (1))) (ty := .int) (C := RX3) (T := TX3) (N := 23) hx hb hts hiX3 tyX3 tyX3_ok nmX3 hown hK hP hD hS (0) rfl rfl 0 (by decide) hf63 (fun _ h9 => h9) rfl (by decide +kernel) rfl rfl (Nat.le_of_ble_eq_true rfl) dX3_item_29 (fun H locs hP hD hS => ?_)
    have hP : va_P D zz_cl (rk_ cy gr 1 σ) H := hP
    have hD : va_D A (rk_ cy gr 1 σ) := hD
    refine lv_aload_n hx hb dX3_item_32 rfl (lv_at hl 0 rfl) ?_
    refine va_get (D := D) (ci := 3) (v := .int (zz_i (1))) (C := RX3) (T := TX3) (N := 23) hx hb hts hiX3 hown hK hP (0) rfl rfl 0 (by decide) hf63 (fun _ h9 => h9) rfl dX3_item_33 ?_
    refine zz_if_le (tgt := 41) hx hb dX3_item_36 (by decide) (by omega) (fun c6 => ?_) (fun c6 => ?_)
    · exact absurd c6 (by omega)
    · refine lv_iconst (v := zz_i (0)) hx hb dX3_item_39 rfl ?_
      have hv9 : an_ (k_item σ x) (σ 4 0 + 1) = 0 := by (have hk9 : k_item σ x = 1 := by unfold k_item; (repeat (first | rw [if_pos (by omega)] | rw [if_neg (by omega)])) <;> first | rfl | omega); rw [hk9]; rfl
      have hw9 : rk_ cy gr (k_item σ x) (nx_ (k_item σ x) σ (s_item σ x)) = rk_ cy gr 1 σ := by (have hk9 : k_item σ x = 1 := by unfold k_item; (repeat (first | rw [if_pos (by omega)] | rw [if_neg (by omega)])) <;> first | rfl | omega); rw [hk9]; rfl
      subst hAe
      exact W.iret (v := zz_i (0)) hx hb hr (fun t ht hW => ⟨congrArg (fun z => Outcome.returned (some (Value.int (zz_i z)))) hv9.symm, ⟨(), trivial, by rw [ht, hw9]; exact hP, va_K.moved hW.alike hK, by rw [hw9]; exact hD⟩, hS.F ht⟩) hS.2.2 dX3_item_40

set_option maxHeartbeats 4000000 in
set_option maxRecDepth 100000 in
theorem r_induct (l : Launch) (D : va_G) (cy gr : Nat → Nat) (kc : Int) (σ : zz_S) (sz : Nat) (hI : iv_ σ) (x a y : Int) (q_x : (-2147483648 ≤ x ∧ x < 2147483648)) (q_a : (-2147483648 ≤ a ∧ a < 2147483648)) (q_y : (-2147483648 ≤ y ∧ y < 2147483648)) : Met l yX3_induct wsX3_induct ({ frames := 3, cells := 0, slots := 0, locals := 64 }) (ct_P D cy [.ref (gr 0), .int (zz_i (x)), .int (zz_i (a)), .int (zz_i (y))] (rk_ cy gr kc σ) sz) (ct_Q D cy (rk_ cy gr kc σ) sz (some (.int (zz_i (an_ (k_ind σ x a y) (sp_tr σ a))))) (fun _ : Unit => True) (fun _ => rk_ cy gr (k_ind σ x a y) (nx_ (k_ind σ x a y) σ (s_ind σ x a y)))) 0 0 (va_A (rk_ cy gr kc σ) sz) := by
  refine Met.ofW (cc := cX3_induct) (maxL := 4) (ret := (some .int)) (by decide) rfl ?_
  intro p e s m args below meth c s₁ B hml hv
  obtain ⟨rfl, rfl, hP, hK, hD0, hE⟩ := hv
  have hx := B.exec
  have hb := B.bytes
  have hr := B.returns
  have hts := atoms_spec (ws := wsX3_induct) B.pre
  have hown : s.vm.findClass RX3 = some m.cls := findClass_of_methodNamed B.named
  have hlocks := B.notSynchronized
  have hD := hD0.self (sz := s.heap.size)
  obtain ⟨A, hAe⟩ : ∃ A, A = va_A (rk_ cy gr kc σ) s.heap.size := ⟨_, rfl⟩
  rw [← hAe] at hD hE
  have hA : ∀ q : Nat, s.heap.size ≤ q → A q := fun q h => by rw [hAe]; exact Or.inr h
  have hS : va_S A s.heap s.heap [] := va_S.rf
  have hP : va_P D zz_cl (rk_ cy gr kc σ) s.heap := hP
  have hl := lv_entry ([.ref (gr 0), .int (zz_i (x)), .int (zz_i (a)), .int (zz_i (y))]) (n := 4) (Nat.le_of_ble_eq_true rfl)
  rw [lg_entry_eq]
  generalize (lg_sl ([.ref (gr 0), .int (zz_i (x)), .int (zz_i (a)), .int (zz_i (y))]) ++ List.replicate (4 - (lg_sl ([.ref (gr 0), .int (zz_i (x)), .int (zz_i (a)), .int (zz_i (y))])).length) Slot.unset).toArray = ls at hl ⊢
  have hl : lv_has ls 4 [(0, .ref (gr 0)), (1, .int (zz_i (x))), (2, .int (zz_i (a))), (3, .int (zz_i (y)))] := hl
  obtain ⟨⟨j1, j2, j3, j4, j5, j6, j7, j8, j9, j10⟩, j11, j12, j13, j14, j15, j16, j17, j18, j19, j20, j21, j22, j23, j24⟩ := id hI
  have hiX3 : ∀ w ∈ wsX30, w ∈ wsX3_induct := by decide +kernel
  have hf63 := hts (.fieldLink RX3 63 "SorterStepsModel" "code" "I") (by decide +kernel)
  have hf24 := hts (.fieldLink RX3 24 "SorterStepsModel" "state" "[I") (by decide +kernel)
  have hf13 := hts (.fieldLink RX3 13 "SorterStepsModel" "on" "[I") (by decide +kernel)
  have hf94 := hts (.fieldLink RX3 94 "SorterStepsModel" "jammed" "Z") (by decide +kernel)
  have hf21 := hts (.fieldLink RX3 21 "SorterStepsModel" "length" "[I") (by decide +kernel)
  have hf7 := hts (.fieldLink RX3 7 "SorterStepsModel" "longest" "I") (by decide +kernel)
  have hf27 := hts (.fieldLink RX3 27 "SorterStepsModel" "way" "[I") (by decide +kernel)
  refine lv_aload_n hx hb dX3_induct_0 rfl (lv_at hl 0 rfl) ?_
  refine lv_aload_n hx hb dX3_induct_1 rfl (lv_at hl 0 rfl) ?_
  refine lv_iload_n hx hb dX3_induct_2 rfl (lv_at hl 1 rfl) ?_
  refine zc_v (As := [.int (zz_i (x))]) (rest := [.ref (gr 0)]) (S := Unit) (pc := 3) ⟨hx, hb, hml, hown, hts⟩ (r_isItem l D cy gr kc σ _ hI.1 (x) (by omega)) (cwV 1 hts gX3_induct_X3_isItem rfl rfl rfl (by decide +kernel) ⟨Nat.le_of_ble_eq_true rfl, Nat.le_of_ble_eq_true rfl⟩) hK hP hD hS hA hE (va_recv hK hP (ci := 3) (q0 := 0) rfl rfl) rfl hl.1 rfl (Nat.le_of_ble_eq_true rfl) dX3_induct_3 ⟨Nat.le_of_ble_eq_true rfl, Nat.le_of_ble_eq_true rfl⟩ (fun _ H locs k1 hP hD hS => ?_)
  refine W.eq (g2 := F0 m 6 ls [.int (zz_i (sp_bt (x) 1 (σ 4 0))), .ref (gr 0)]) rfl ?_
  have b1 : (sp_bt (x) 1 (σ 4 0) = 1 ∧ 1 ≤ x ∧ x ≤ σ 4 0) ∨ (sp_bt (x) 1 (σ 4 0) = 0 ∧ (x < 1 ∨ σ 4 0 < x)) := sp_bt_b (x) 1 (σ 4 0)
  refine zz_if_eq (tgt := 26) hx hb dX3_induct_6 (by decide) (by omega) (fun c2 => ?_) (fun c2 => ?_)
  · refine lv_iconst (v := zz_i (1)) hx hb dX3_induct_26 rfl ?_
    refine lv_goto (tgt := 31) hx hb dX3_induct_27 (by decide) ?_
    refine va_put (D := D) (ci := 3) (v := .int (zz_i (1))) (ty := .int) (C := RX3) (T := TX3) (N := 23) hx hb hts hiX3 tyX3 tyX3_ok nmX3 hown hK hP hD hS (0) rfl rfl 0 (by decide) hf63 (fun _ h9 => h9) rfl (by decide +kernel) rfl rfl (Nat.le_of_ble_eq_true rfl) dX3_induct_31 (fun H locs hP hD hS => ?_)
    have hP : va_P D zz_cl (rk_ cy gr 1 σ) H := hP
    have hD : va_D A (rk_ cy gr 1 σ) := hD
    refine lv_aload_n hx hb dX3_induct_34 rfl (lv_at hl 0 rfl) ?_
    refine va_get (D := D) (ci := 3) (v := .int (zz_i (1))) (C := RX3) (T := TX3) (N := 23) hx hb hts hiX3 hown hK hP (0) rfl rfl 0 (by decide) hf63 (fun _ h9 => h9) rfl dX3_induct_35 ?_
    refine zz_if_ne (tgt := 92) hx hb dX3_induct_38 (by decide) (by omega) (fun c3 => ?_) (fun c3 => ?_)
    · refine lv_aload_n hx hb dX3_induct_92 rfl (lv_at hl 0 rfl) ?_
      refine va_get (D := D) (ci := 3) (v := .int (zz_i (1))) (C := RX3) (T := TX3) (N := 23) hx hb hts hiX3 hown hK hP (0) rfl rfl 0 (by decide) hf63 (fun _ h9 => h9) rfl dX3_induct_93 ?_
      refine zz_if_le (tgt := 101) hx hb dX3_induct_96 (by decide) (by omega) (fun c4 => ?_) (fun c4 => ?_)
      · exact absurd c4 (by omega)
      · refine lv_iconst (v := zz_i (0)) hx hb dX3_induct_99 rfl ?_
        have hv9 : an_ (k_ind σ x a y) (sp_tr σ a) = 0 := by (have hk9 : k_ind σ x a y = 1 := by unfold k_ind; (repeat (first | rw [if_pos (by omega)] | rw [if_neg (by omega)])) <;> first | rfl | omega); rw [hk9]; rfl
        have hw9 : rk_ cy gr (k_ind σ x a y) (nx_ (k_ind σ x a y) σ (s_ind σ x a y)) = rk_ cy gr 1 σ := by (have hk9 : k_ind σ x a y = 1 := by unfold k_ind; (repeat (first | rw [if_pos (by omega)] | rw [if_neg (by omega)])) <;> first | rfl | omega); rw [hk9]; rfl
        subst hAe
        exact W.iret (v := zz_i (0)) hx hb hr (fun t ht hW => ⟨congrArg (fun z => Outcome.returned (some (Value.int (zz_i z)))) hv9.symm, ⟨(), trivial, by rw [ht, hw9]; exact hP, va_K.moved hW.alike hK, by rw [hw9]; exact hD⟩, hS.F ht⟩) hS.2.2 dX3_induct_100
    · exact absurd c3 (by omega)
  · refine lv_iload_n hx hb dX3_induct_9 rfl (lv_at hl 2 rfl) ?_
    refine lv_iconst (v := zz_i (0)) hx hb dX3_induct_10 rfl ?_
    refine lv_iconst (v := zz_i (1)) hx hb dX3_induct_11 rfl ?_
    refine zc_s (As := [.int (zz_i (a)), .int (zz_i (0)), .int (zz_i (1))]) (rest := [.ref (gr 0)]) (S := Unit) (pc := 12) ⟨hx, hb, hml, hown, hts⟩ (r_in l D cy (rk_ cy gr kc σ) _ (a) (0) (1) (by omega) (by omega) (by omega)) (va_cwS 3 hts gX3_induct_X3_in rfl rfl rfl (by decide +kernel) ⟨Nat.le_of_ble_eq_true rfl, Nat.le_of_ble_eq_true rfl⟩) hK hP hD hS hA hE rfl hl.1 rfl (Nat.le_of_ble_eq_true rfl) dX3_induct_12 ⟨Nat.le_of_ble_eq_true rfl, Nat.le_of_ble_eq_true rfl⟩ (fun _ H locs k5 hP hD hS => ?_)
    refine W.eq (g2 := F0 m 15 ls [.int (zz_i (sp_bt (a) (0) (1))), .ref (gr 0)]) rfl ?_
    have b5 := sp_bt_b (a) (0) (1)
    refine zz_if_eq (tgt := 26) hx hb dX3_induct_15 (by decide) (by omega) (fun c6 => ?_) (fun c6 => ?_)
    · refine lv_iconst (v := zz_i (1)) hx hb dX3_induct_26 rfl ?_
      refine lv_goto (tgt := 31) hx hb dX3_induct_27 (by decide) ?_
      refine va_put (D := D) (ci := 3) (v := .int (zz_i (1))) (ty := .int) (C := RX3) (T := TX3) (N := 23) hx hb hts hiX3 tyX3 tyX3_ok nmX3 hown hK hP hD hS (0) rfl rfl 0 (by decide) hf63 (fun _ h9 => h9) rfl (by decide +kernel) rfl rfl (Nat.le_of_ble_eq_true rfl) dX3_induct_31 (fun H locs hP hD hS => ?_)
      have hP : va_P D zz_cl (rk_ cy gr 1 σ) H := hP
      have hD : va_D A (rk_ cy gr 1 σ) := hD
      refine lv_aload_n hx hb dX3_induct_34 rfl (lv_at hl 0 rfl) ?_
      refine va_get (D := D) (ci := 3) (v := .int (zz_i (1))) (C := RX3) (T := TX3) (N := 23) hx hb hts hiX3 hown hK hP (0) rfl rfl 0 (by decide) hf63 (fun _ h9 => h9) rfl dX3_induct_35 ?_
      refine zz_if_ne (tgt := 92) hx hb dX3_induct_38 (by decide) (by omega) (fun c7 => ?_) (fun c7 => ?_)
      · refine lv_aload_n hx hb dX3_induct_92 rfl (lv_at hl 0 rfl) ?_
        refine va_get (D := D) (ci := 3) (v := .int (zz_i (1))) (C := RX3) (T := TX3) (N := 23) hx hb hts hiX3 hown hK hP (0) rfl rfl 0 (by decide) hf63 (fun _ h9 => h9) rfl dX3_induct_93 ?_
        refine zz_if_le (tgt := 101) hx hb dX3_induct_96 (by decide) (by omega) (fun c8 => ?_) (fun c8 => ?_)
        · exact absurd c8 (by omega)
        · refine lv_iconst (v := zz_i (0)) hx hb dX3_induct_99 rfl ?_
          have hv9 : an_ (k_ind σ x a y) (sp_tr σ a) = 0 := by (have hk9 : k_ind σ x a y = 1 := by unfold k_ind; (repeat (first | rw [if_pos (by omega)] | rw [if_neg (by omega)])) <;> first | rfl | omega); rw [hk9]; rfl
          have hw9 : rk_ cy gr (k_ind σ x a y) (nx_ (k_ind σ x a y) σ (s_ind σ x a y)) = rk_ cy gr 1 σ := by (have hk9 : k_ind σ x a y = 1 := by unfold k_ind; (repeat (first | rw [if_pos (by omega)] | rw [if_neg (by omega)])) <;> first | rfl | omega); rw [hk9]; rfl
          subst hAe
          exact W.iret (v := zz_i (0)) hx hb hr (fun t ht hW => ⟨congrArg (fun z => Outcome.returned (some (Value.int (zz_i z)))) hv9.symm, ⟨(), trivial, by rw [ht, hw9]; exact hP, va_K.moved hW.alike hK, by rw [hw9]; exact hD⟩, hS.F ht⟩) hS.2.2 dX3_induct_100
      · exact absurd c7 (by omega)
    · refine lv_aload_n hx hb dX3_induct_18 rfl (lv_at hl 0 rfl) ?_
      refine lv_iload_n hx hb dX3_induct_19 rfl (lv_at hl 3 rfl) ?_
      refine zc_v (As := [.int (zz_i (y))]) (rest := [.ref (gr 0)]) (S := Unit) (pc := 20) ⟨hx, hb, hml, hown, hts⟩ (r_isCode l D cy gr kc σ _ hI.1 (y) (by omega)) (cwV 1 hts gX3_induct_X3_isCode rfl rfl rfl (by decide +kernel) ⟨Nat.le_of_ble_eq_true rfl, Nat.le_of_ble_eq_true rfl⟩) hK hP hD hS hA hE (va_recv hK hP (ci := 3) (q0 := 0) rfl rfl) rfl hl.1 rfl (Nat.le_of_ble_eq_true rfl) dX3_induct_20 ⟨Nat.le_of_ble_eq_true rfl, Nat.le_of_ble_eq_true rfl⟩ (fun _ H locs k9 hP hD hS => ?_)
      refine W.eq (g2 := F0 m 23 ls [.int (zz_i (sp_bt (y) 0 (σ 28 0))), .ref (gr 0)]) rfl ?_
      have b9 : (sp_bt (y) 0 (σ 28 0) = 1 ∧ 0 ≤ y ∧ y ≤ σ 28 0) ∨ (sp_bt (y) 0 (σ 28 0) = 0 ∧ (y < 0 ∨ σ 28 0 < y)) := sp_bt_b (y) 0 (σ 28 0)
      refine zz_if_ne (tgt := 30) hx hb dX3_induct_23 (by decide) (by omega) (fun c10 => ?_) (fun c10 => ?_)
      · refine lv_iconst (v := zz_i (0)) hx hb dX3_induct_30 rfl ?_
        refine va_put (D := D) (ci := 3) (v := .int (zz_i (0))) (ty := .int) (C := RX3) (T := TX3) (N := 23) hx hb hts hiX3 tyX3 tyX3_ok nmX3 hown hK hP hD hS (0) rfl rfl 0 (by decide) hf63 (fun _ h9 => h9) rfl (by decide +kernel) rfl rfl (Nat.le_of_ble_eq_true rfl) dX3_induct_31 (fun H locs hP hD hS => ?_)
        have hP : va_P D zz_cl (rk_ cy gr 0 σ) H := hP
        have hD : va_D A (rk_ cy gr 0 σ) := hD
        refine lv_aload_n hx hb dX3_induct_34 rfl (lv_at hl 0 rfl) ?_
        refine va_get (D := D) (ci := 3) (v := .int (zz_i (0))) (C := RX3) (T := TX3) (N := 23) hx hb hts hiX3 hown hK hP (0) rfl rfl 0 (by decide) hf63 (fun _ h9 => h9) rfl dX3_induct_35 ?_
        refine zz_if_ne (tgt := 92) hx hb dX3_induct_38 (by decide) (by omega) (fun c11 => ?_) (fun c11 => ?_)
        · exact absurd c11 (by omega)
        · refine lv_aload_n hx hb dX3_induct_41 rfl (lv_at hl 0 rfl) ?_
          have hit := j13 x (by omega) (by omega)
          refine lv_aload_n hx hb dX3_induct_42 rfl (lv_at hl 0 rfl) ?_
          refine va_get (D := D) (ci := 3) (v := .ref (gr 4)) (C := RX3) (T := TX3) (N := 23) hx hb hts hiX3 hown hK hP (0) rfl rfl 9 (by decide) hf24 (fun _ h9 => h9) rfl dX3_induct_43 ?_
          refine lv_iload_n hx hb dX3_induct_46 rfl (lv_at hl 1 rfl) ?_
          refine zz_iald hx hb hK hP 4 0 rfl rfl (show 0 ≤ x ∧ x < ((61 : Nat) : Int) by omega) (show 61 < 2147483648 by omega) dX3_induct_47 ?_
          refine zz_if_ne (tgt := 84) hx hb dX3_induct_48 (by decide) (by omega) (fun c12 => ?_) (fun c12 => ?_)
          · refine lv_iconst (v := zz_i (2)) hx hb dX3_induct_84 rfl ?_
            refine lv_goto (tgt := 89) hx hb dX3_induct_85 (by decide) ?_
            refine va_put (D := D) (ci := 3) (v := .int (zz_i (2))) (ty := .int) (C := RX3) (T := TX3) (N := 23) hx hb hts hiX3 tyX3 tyX3_ok nmX3 hown hK hP hD hS (0) rfl rfl 0 (by decide) hf63 (fun _ h9 => h9) rfl (by decide +kernel) rfl rfl (Nat.le_of_ble_eq_true rfl) dX3_induct_89 (fun H locs hP hD hS => ?_)
            have hP : va_P D zz_cl (rk_ cy gr 2 σ) H := hP
            have hD : va_D A (rk_ cy gr 2 σ) := hD
            refine lv_aload_n hx hb dX3_induct_92 rfl (lv_at hl 0 rfl) ?_
            refine va_get (D := D) (ci := 3) (v := .int (zz_i (2))) (C := RX3) (T := TX3) (N := 23) hx hb hts hiX3 hown hK hP (0) rfl rfl 0 (by decide) hf63 (fun _ h9 => h9) rfl dX3_induct_93 ?_
            refine zz_if_le (tgt := 101) hx hb dX3_induct_96 (by decide) (by omega) (fun c13 => ?_) (fun c13 => ?_)
            · exact absurd c13 (by omega)
            · refine lv_iconst (v := zz_i (0)) hx hb dX3_induct_99 rfl ?_
              have hv9 : an_ (k_ind σ x a y) (sp_tr σ a) = 0 := by (have hk9 : k_ind σ x a y = 2 := by unfold k_ind; (repeat (first | rw [if_pos (by omega)] | rw [if_neg (by omega)])) <;> first | rfl | omega); rw [hk9]; rfl
              have hw9 : rk_ cy gr (k_ind σ x a y) (nx_ (k_ind σ x a y) σ (s_ind σ x a y)) = rk_ cy gr 2 σ := by (have hk9 : k_ind σ x a y = 2 := by unfold k_ind; (repeat (first | rw [if_pos (by omega)] | rw [if_neg (by omega)])) <;> first | rfl | omega); rw [hk9]; rfl
              subst hAe
              exact W.iret (v := zz_i (0)) hx hb hr (fun t ht hW => ⟨congrArg (fun z => Outcome.returned (some (Value.int (zz_i z)))) hv9.symm, ⟨(), trivial, by rw [ht, hw9]; exact hP, va_K.moved hW.alike hK, by rw [hw9]; exact hD⟩, hS.F ht⟩) hS.2.2 dX3_induct_100
          · refine lv_aload_n hx hb dX3_induct_51 rfl (lv_at hl 0 rfl) ?_
            refine va_get (D := D) (ci := 3) (v := .ref (gr 1)) (C := RX3) (T := TX3) (N := 23) hx hb hts hiX3 hown hK hP (0) rfl rfl 5 (by decide) hf13 (fun _ h9 => h9) rfl dX3_induct_52 ?_
            refine lv_aload_n hx hb dX3_induct_55 rfl (lv_at hl 0 rfl) ?_
            refine lv_iload_n hx hb dX3_induct_56 rfl (lv_at hl 2 rfl) ?_
            refine zc_v (As := [.int (zz_i (a))]) (rest := [.ref (gr 1), .ref (gr 0)]) (S := Unit) (pc := 57) ⟨hx, hb, hml, hown, hts⟩ (r_trayAt l D cy gr 0 σ _ hI.1 j17 (a) (show 0 ≤ a ∧ a < σ 0 0 by omega)) (cwV 1 hts gX3_induct_X3_trayAt rfl rfl rfl (by decide +kernel) ⟨Nat.le_of_ble_eq_true rfl, Nat.le_of_ble_eq_true rfl⟩) hK hP hD hS hA hE (va_recv hK hP (ci := 3) (q0 := 0) rfl rfl) rfl hl.1 rfl (Nat.le_of_ble_eq_true rfl) dX3_induct_57 ⟨Nat.le_of_ble_eq_true rfl, Nat.le_of_ble_eq_true rfl⟩ (fun _ H locs k14 hP hD hS => ?_)
            refine W.eq (g2 := F0 m 60 ls [.int (zz_i (sp_tr σ (a))), .ref (gr 1), .ref (gr 0)]) rfl ?_
            have b14 := tr_in (σ := σ) hI.1 (x := a) (show 0 ≤ a ∧ a < σ 0 0 by omega)
            have h10 := j11 (sp_tr σ a)
            refine zz_iald hx hb hK hP 1 0 rfl rfl (show 0 ≤ sp_tr σ (a) ∧ sp_tr σ (a) < ((40 : Nat) : Int) by omega) (show 40 < 2147483648 by omega) dX3_induct_60 ?_
            refine zz_if_ne (tgt := 84) hx hb dX3_induct_61 (by decide) (by omega) (fun c15 => ?_) (fun c15 => ?_)
            · refine lv_iconst (v := zz_i (2)) hx hb dX3_induct_84 rfl ?_
              refine lv_goto (tgt := 89) hx hb dX3_induct_85 (by decide) ?_
              refine va_put (D := D) (ci := 3) (v := .int (zz_i (2))) (ty := .int) (C := RX3) (T := TX3) (N := 23) hx hb hts hiX3 tyX3 tyX3_ok nmX3 hown hK hP hD hS (0) rfl rfl 0 (by decide) hf63 (fun _ h9 => h9) rfl (by decide +kernel) rfl rfl (Nat.le_of_ble_eq_true rfl) dX3_induct_89 (fun H locs hP hD hS => ?_)
              have hP : va_P D zz_cl (rk_ cy gr 2 σ) H := hP
              have hD : va_D A (rk_ cy gr 2 σ) := hD
              refine lv_aload_n hx hb dX3_induct_92 rfl (lv_at hl 0 rfl) ?_
              refine va_get (D := D) (ci := 3) (v := .int (zz_i (2))) (C := RX3) (T := TX3) (N := 23) hx hb hts hiX3 hown hK hP (0) rfl rfl 0 (by decide) hf63 (fun _ h9 => h9) rfl dX3_induct_93 ?_
              refine zz_if_le (tgt := 101) hx hb dX3_induct_96 (by decide) (by omega) (fun c16 => ?_) (fun c16 => ?_)
              · exact absurd c16 (by omega)
              · refine lv_iconst (v := zz_i (0)) hx hb dX3_induct_99 rfl ?_
                have hv9 : an_ (k_ind σ x a y) (sp_tr σ a) = 0 := by (have hk9 : k_ind σ x a y = 2 := by unfold k_ind; (repeat (first | rw [if_pos (by omega)] | rw [if_neg (by omega)])) <;> first | rfl | omega); rw [hk9]; rfl
                have hw9 : rk_ cy gr (k_ind σ x a y) (nx_ (k_ind σ x a y) σ (s_ind σ x a y)) = rk_ cy gr 2 σ := by (have hk9 : k_ind σ x a y = 2 := by unfold k_ind; (repeat (first | rw [if_pos (by omega)] | rw [if_neg (by omega)])) <;> first | rfl | omega); rw [hk9]; rfl
                subst hAe
                exact W.iret (v := zz_i (0)) hx hb hr (fun t ht hW => ⟨congrArg (fun z => Outcome.returned (some (Value.int (zz_i z)))) hv9.symm, ⟨(), trivial, by rw [ht, hw9]; exact hP, va_K.moved hW.alike hK, by rw [hw9]; exact hD⟩, hS.F ht⟩) hS.2.2 dX3_induct_100
            · refine lv_aload_n hx hb dX3_induct_64 rfl (lv_at hl 0 rfl) ?_
              refine va_get (D := D) (ci := 3) (v := .int (zz_i (σ 6 0))) (C := RX3) (T := TX3) (N := 23) hx hb hts hiX3 hown hK hP (0) rfl rfl 19 (by decide) hf94 (fun _ h9 => h9) rfl dX3_induct_65 ?_
              refine zz_if_ne (tgt := 84) hx hb dX3_induct_68 (by decide) (by omega) (fun c17 => ?_) (fun c17 => ?_)
              · refine lv_iconst (v := zz_i (2)) hx hb dX3_induct_84 rfl ?_
                refine lv_goto (tgt := 89) hx hb dX3_induct_85 (by decide) ?_
                refine va_put (D := D) (ci := 3) (v := .int (zz_i (2))) (ty := .int) (C := RX3) (T := TX3) (N := 23) hx hb hts hiX3 tyX3 tyX3_ok nmX3 hown hK hP hD hS (0) rfl rfl 0 (by decide) hf63 (fun _ h9 => h9) rfl (by decide +kernel) rfl rfl (Nat.le_of_ble_eq_true rfl) dX3_induct_89 (fun H locs hP hD hS => ?_)
                have hP : va_P D zz_cl (rk_ cy gr 2 σ) H := hP
                have hD : va_D A (rk_ cy gr 2 σ) := hD
                refine lv_aload_n hx hb dX3_induct_92 rfl (lv_at hl 0 rfl) ?_
                refine va_get (D := D) (ci := 3) (v := .int (zz_i (2))) (C := RX3) (T := TX3) (N := 23) hx hb hts hiX3 hown hK hP (0) rfl rfl 0 (by decide) hf63 (fun _ h9 => h9) rfl dX3_induct_93 ?_
                refine zz_if_le (tgt := 101) hx hb dX3_induct_96 (by decide) (by omega) (fun c18 => ?_) (fun c18 => ?_)
                · exact absurd c18 (by omega)
                · refine lv_iconst (v := zz_i (0)) hx hb dX3_induct_99 rfl ?_
                  have hv9 : an_ (k_ind σ x a y) (sp_tr σ a) = 0 := by (have hk9 : k_ind σ x a y = 2 := by unfold k_ind; (repeat (first | rw [if_pos (by omega)] | rw [if_neg (by omega)])) <;> first | rfl | omega); rw [hk9]; rfl
                  have hw9 : rk_ cy gr (k_ind σ x a y) (nx_ (k_ind σ x a y) σ (s_ind σ x a y)) = rk_ cy gr 2 σ := by (have hk9 : k_ind σ x a y = 2 := by unfold k_ind; (repeat (first | rw [if_pos (by omega)] | rw [if_neg (by omega)])) <;> first | rfl | omega); rw [hk9]; rfl
                  subst hAe
                  exact W.iret (v := zz_i (0)) hx hb hr (fun t ht hW => ⟨congrArg (fun z => Outcome.returned (some (Value.int (zz_i z)))) hv9.symm, ⟨(), trivial, by rw [ht, hw9]; exact hP, va_K.moved hW.alike hK, by rw [hw9]; exact hD⟩, hS.F ht⟩) hS.2.2 dX3_induct_100
              · refine lv_aload_n hx hb dX3_induct_71 rfl (lv_at hl 0 rfl) ?_
                refine va_get (D := D) (ci := 3) (v := .ref (gr 3)) (C := RX3) (T := TX3) (N := 23) hx hb hts hiX3 hown hK hP (0) rfl rfl 8 (by decide) hf21 (fun _ h9 => h9) rfl dX3_induct_72 ?_
                refine lv_iload_n hx hb dX3_induct_75 rfl (lv_at hl 1 rfl) ?_
                refine zz_iald hx hb hK hP 3 0 rfl rfl (show 0 ≤ x ∧ x < ((61 : Nat) : Int) by omega) (show 61 < 2147483648 by omega) dX3_induct_76 ?_
                refine lv_aload_n hx hb dX3_induct_77 rfl (lv_at hl 0 rfl) ?_
                refine va_get (D := D) (ci := 3) (v := .int (zz_i (σ 3 0))) (C := RX3) (T := TX3) (N := 23) hx hb hts hiX3 hown hK hP (0) rfl rfl 4 (by decide) hf7 (fun _ h9 => h9) rfl dX3_induct_78 ?_
                refine zz_icmp_le (tgt := 88) hx hb dX3_induct_81 (by decide) (by omega) (by omega) (fun c19 => ?_) (fun c19 => ?_)
                · refine lv_iconst (v := zz_i (0)) hx hb dX3_induct_88 rfl ?_
                  refine va_put (D := D) (ci := 3) (v := .int (zz_i (0))) (ty := .int) (C := RX3) (T := TX3) (N := 23) hx hb hts hiX3 tyX3 tyX3_ok nmX3 hown hK hP hD hS (0) rfl rfl 0 (by decide) hf63 (fun _ h9 => h9) rfl (by decide +kernel) rfl rfl (Nat.le_of_ble_eq_true rfl) dX3_induct_89 (fun H locs hP hD hS => ?_)
                  have hP : va_P D zz_cl (rk_ cy gr 0 σ) H := hP
                  have hD : va_D A (rk_ cy gr 0 σ) := hD
                  refine lv_aload_n hx hb dX3_induct_92 rfl (lv_at hl 0 rfl) ?_
                  refine va_get (D := D) (ci := 3) (v := .int (zz_i (0))) (C := RX3) (T := TX3) (N := 23) hx hb hts hiX3 hown hK hP (0) rfl rfl 0 (by decide) hf63 (fun _ h9 => h9) rfl dX3_induct_93 ?_
                  refine zz_if_le (tgt := 101) hx hb dX3_induct_96 (by decide) (by omega) (fun c20 => ?_) (fun c20 => ?_)
                  · refine lv_aload_n hx hb dX3_induct_101 rfl (lv_at hl 0 rfl) ?_
                    refine va_get (D := D) (ci := 3) (v := .ref (gr 1)) (C := RX3) (T := TX3) (N := 23) hx hb hts hiX3 hown hK hP (0) rfl rfl 5 (by decide) hf13 (fun _ h9 => h9) rfl dX3_induct_102 ?_
                    refine lv_aload_n hx hb dX3_induct_105 rfl (lv_at hl 0 rfl) ?_
                    refine lv_iload_n hx hb dX3_induct_106 rfl (lv_at hl 2 rfl) ?_
                    refine zc_v (As := [.int (zz_i (a))]) (rest := [.ref (gr 1)]) (S := Unit) (pc := 107) ⟨hx, hb, hml, hown, hts⟩ (r_trayAt l D cy gr 0 σ _ hI.1 j17 (a) (show 0 ≤ a ∧ a < σ 0 0 by omega)) (cwV 1 hts gX3_induct_X3_trayAt rfl rfl rfl (by decide +kernel) ⟨Nat.le_of_ble_eq_true rfl, Nat.le_of_ble_eq_true rfl⟩) hK hP hD hS hA hE (va_recv hK hP (ci := 3) (q0 := 0) rfl rfl) rfl hl.1 rfl (Nat.le_of_ble_eq_true rfl) dX3_induct_107 ⟨Nat.le_of_ble_eq_true rfl, Nat.le_of_ble_eq_true rfl⟩ (fun _ H locs k21 hP hD hS => ?_)
                    refine W.eq (g2 := F0 m 110 ls [.int (zz_i (sp_tr σ (a))), .ref (gr 1)]) rfl ?_
                    have b21 := tr_in (σ := σ) hI.1 (x := a) (show 0 ≤ a ∧ a < σ 0 0 by omega)
                    refine lv_iload_n hx hb dX3_induct_110 rfl (lv_at hl 1 rfl) ?_
                    refine zz_iast hx hb hK hP hD hS 1 0 rfl rfl (show 0 ≤ sp_tr σ (a) ∧ sp_tr σ (a) < ((40 : Nat) : Int) by omega) (show 40 < 2147483648 by omega) dX3_induct_111 (fun H locs hP hD hS => ?_)
                    have hP : va_P D zz_cl (rk_ cy gr 0 (up_a σ 10 (sp_tr σ (a)) (x))) H := hP
                    have hD : va_D A (rk_ cy gr 0 (up_a σ 10 (sp_tr σ (a)) (x))) := hD
                    refine lv_aload_n hx hb dX3_induct_112 rfl (lv_at hl 0 rfl) ?_
                    refine va_get (D := D) (ci := 3) (v := .ref (gr 4)) (C := RX3) (T := TX3) (N := 23) hx hb hts hiX3 hown hK hP (0) rfl rfl 9 (by decide) hf24 (fun _ h9 => h9) rfl dX3_induct_113 ?_
                    refine lv_iload_n hx hb dX3_induct_116 rfl (lv_at hl 1 rfl) ?_
                    refine lv_iconst (v := zz_i (1)) hx hb dX3_induct_117 rfl ?_
                    refine zz_iast hx hb hK hP hD hS 4 0 rfl rfl (show 0 ≤ x ∧ x < ((61 : Nat) : Int) by omega) (show 61 < 2147483648 by omega) dX3_induct_118 (fun H locs hP hD hS => ?_)
                    have hP : va_P D zz_cl (rk_ cy gr 0 (up_a (up_a σ 10 (sp_tr σ (a)) (x)) 13 (x) (1))) H := hP
                    have hD : va_D A (rk_ cy gr 0 (up_a (up_a σ 10 (sp_tr σ (a)) (x)) 13 (x) (1))) := hD
                    refine lv_aload_n hx hb dX3_induct_119 rfl (lv_at hl 0 rfl) ?_
                    refine va_get (D := D) (ci := 3) (v := .ref (gr 5)) (C := RX3) (T := TX3) (N := 23) hx hb hts hiX3 hown hK hP (0) rfl rfl 10 (by decide) hf27 (fun _ h9 => h9) rfl dX3_induct_120 ?_
                    refine lv_iload_n hx hb dX3_induct_123 rfl (lv_at hl 1 rfl) ?_
                    refine lv_iload_n hx hb dX3_induct_124 rfl (lv_at hl 3 rfl) ?_
                    refine zz_iast hx hb hK hP hD hS 5 0 rfl rfl (show 0 ≤ x ∧ x < ((61 : Nat) : Int) by omega) (show 61 < 2147483648 by omega) dX3_induct_125 (fun H locs hP hD hS => ?_)
                    have hP : va_P D zz_cl (rk_ cy gr 0 (up_a (up_a (up_a σ 10 (sp_tr σ (a)) (x)) 13 (x) (1)) 14 (x) (y))) H := hP
                    have hD : va_D A (rk_ cy gr 0 (up_a (up_a (up_a σ 10 (sp_tr σ (a)) (x)) 13 (x) (1)) 14 (x) (y))) := hD
                    refine lv_aload_n hx hb dX3_induct_126 rfl (lv_at hl 0 rfl) ?_
                    refine lv_iload_n hx hb dX3_induct_127 rfl (lv_at hl 2 rfl) ?_
                    refine zc_v (As := [.int (zz_i (a))]) (rest := []) (S := Unit) (pc := 128) ⟨hx, hb, hml, hown, hts⟩ (r_trayAt l D cy gr 0 (up_a (up_a (up_a σ 10 (sp_tr σ (a)) (x)) 13 (x) (1)) 14 (x) (y)) _ hI.1 j17 (a) (show 0 ≤ a ∧ a < σ 0 0 by omega)) (cwV 1 hts gX3_induct_X3_trayAt rfl rfl rfl (by decide +kernel) ⟨Nat.le_of_ble_eq_true rfl, Nat.le_of_ble_eq_true rfl⟩) hK hP hD hS hA hE (va_recv hK hP (ci := 3) (q0 := 0) rfl rfl) rfl hl.1 rfl (Nat.le_of_ble_eq_true rfl) dX3_induct_128 ⟨Nat.le_of_ble_eq_true rfl, Nat.le_of_ble_eq_true rfl⟩ (fun _ H locs k22 hP hD hS => ?_)
                    refine W.eq (g2 := F0 m 131 ls [.int (zz_i (sp_tr (up_a (up_a (up_a σ 10 (sp_tr σ (a)) (x)) 13 (x) (1)) 14 (x) (y)) (a)))]) rfl ?_
                    have b22 := tr_in (σ := (up_a (up_a (up_a σ 10 (sp_tr σ (a)) (x)) 13 (x) (1)) 14 (x) (y))) hI.1 (x := a) (show 0 ≤ a ∧ a < σ 0 0 by omega)
                    refine W.eq (g2 := F0 m 131 ls [.int (zz_i (sp_tr σ a))]) rfl ?_
                    have hv9 : an_ (k_ind σ x a y) (sp_tr σ a) = sp_tr σ a := by (have hk9 : k_ind σ x a y = 0 := by unfold k_ind; (repeat (first | rw [if_pos (by omega)] | rw [if_neg (by omega)])) <;> first | rfl | omega); rw [hk9]; show sp_tr σ a = sp_tr σ a; rfl
                    have hw9 : rk_ cy gr (k_ind σ x a y) (nx_ (k_ind σ x a y) σ (s_ind σ x a y)) = rk_ cy gr 0 (up_a (up_a (up_a σ 10 (sp_tr σ (a)) (x)) 13 (x) (1)) 14 (x) (y)) := by (have hk9 : k_ind σ x a y = 0 := by unfold k_ind; (repeat (first | rw [if_pos (by omega)] | rw [if_neg (by omega)])) <;> first | rfl | omega); rw [hk9]; show rk_ cy gr 0 (s_ind σ x a y) = rk_ cy gr 0 (up_a (up_a (up_a σ 10 (sp_tr σ (a)) (x)) 13 (x) (1)) 14 (x) (y)); rfl
                    subst hAe
                    exact W.iret (v := zz_i (sp_tr σ a)) hx hb hr (fun t ht hW => ⟨congrArg (fun z => Outcome.returned (some (Value.int (zz_i z)))) hv9.symm, ⟨(), trivial, by rw [ht, hw9]; exact hP, va_K.moved hW.alike hK, by rw [hw9]; exact hD⟩, hS.F ht⟩) hS.2.2 dX3_induct_131
                  · exact absurd c20 (by omega)
                · refine lv_iconst (v := zz_i (2)) hx hb dX3_induct_84 rfl ?_
                  refine lv_goto (tgt := 89) hx hb dX3_induct_85 (by decide) ?_
                  refine va_put (D := D) (ci := 3) (v := .int (zz_i (2))) (ty := .int) (C := RX3) (T := TX3) (N := 23) hx hb hts hiX3 tyX3 tyX3_ok nmX3 hown hK hP hD hS (0) rfl rfl 0 (by decide) hf63 (fun _ h9 => h9) rfl (by decide +kernel) rfl rfl (Nat.le_of_ble_eq_true rfl) dX3_induct_89 (fun H locs hP hD hS => ?_)
                  have hP : va_P D zz_cl (rk_ cy gr 2 σ) H := hP
                  have hD : va_D A (rk_ cy gr 2 σ) := hD
                  refine lv_aload_n hx hb dX3_induct_92 rfl (lv_at hl 0 rfl) ?_
                  refine va_get (D := D) (ci := 3) (v := .int (zz_i (2))) (C := RX3) (T := TX3) (N := 23) hx hb hts hiX3 hown hK hP (0) rfl rfl 0 (by decide) hf63 (fun _ h9 => h9) rfl dX3_induct_93 ?_
                  refine zz_if_le (tgt := 101) hx hb dX3_induct_96 (by decide) (by omega) (fun c23 => ?_) (fun c23 => ?_)
                  · exact absurd c23 (by omega)
                  · refine lv_iconst (v := zz_i (0)) hx hb dX3_induct_99 rfl ?_
                    have hv9 : an_ (k_ind σ x a y) (sp_tr σ a) = 0 := by (have hk9 : k_ind σ x a y = 2 := by unfold k_ind; (repeat (first | rw [if_pos (by omega)] | rw [if_neg (by omega)])) <;> first | rfl | omega); rw [hk9]; rfl
                    have hw9 : rk_ cy gr (k_ind σ x a y) (nx_ (k_ind σ x a y) σ (s_ind σ x a y)) = rk_ cy gr 2 σ := by (have hk9 : k_ind σ x a y = 2 := by unfold k_ind; (repeat (first | rw [if_pos (by omega)] | rw [if_neg (by omega)])) <;> first | rfl | omega); rw [hk9]; rfl
                    subst hAe
                    exact W.iret (v := zz_i (0)) hx hb hr (fun t ht hW => ⟨congrArg (fun z => Outcome.returned (some (Value.int (zz_i z)))) hv9.symm, ⟨(), trivial, by rw [ht, hw9]; exact hP, va_K.moved hW.alike hK, by rw [hw9]; exact hD⟩, hS.F ht⟩) hS.2.2 dX3_induct_100
      · refine lv_iconst (v := zz_i (1)) hx hb dX3_induct_26 rfl ?_
        refine lv_goto (tgt := 31) hx hb dX3_induct_27 (by decide) ?_
        refine va_put (D := D) (ci := 3) (v := .int (zz_i (1))) (ty := .int) (C := RX3) (T := TX3) (N := 23) hx hb hts hiX3 tyX3 tyX3_ok nmX3 hown hK hP hD hS (0) rfl rfl 0 (by decide) hf63 (fun _ h9 => h9) rfl (by decide +kernel) rfl rfl (Nat.le_of_ble_eq_true rfl) dX3_induct_31 (fun H locs hP hD hS => ?_)
        have hP : va_P D zz_cl (rk_ cy gr 1 σ) H := hP
        have hD : va_D A (rk_ cy gr 1 σ) := hD
        refine lv_aload_n hx hb dX3_induct_34 rfl (lv_at hl 0 rfl) ?_
        refine va_get (D := D) (ci := 3) (v := .int (zz_i (1))) (C := RX3) (T := TX3) (N := 23) hx hb hts hiX3 hown hK hP (0) rfl rfl 0 (by decide) hf63 (fun _ h9 => h9) rfl dX3_induct_35 ?_
        refine zz_if_ne (tgt := 92) hx hb dX3_induct_38 (by decide) (by omega) (fun c24 => ?_) (fun c24 => ?_)
        · refine lv_aload_n hx hb dX3_induct_92 rfl (lv_at hl 0 rfl) ?_
          refine va_get (D := D) (ci := 3) (v := .int (zz_i (1))) (C := RX3) (T := TX3) (N := 23) hx hb hts hiX3 hown hK hP (0) rfl rfl 0 (by decide) hf63 (fun _ h9 => h9) rfl dX3_induct_93 ?_
          refine zz_if_le (tgt := 101) hx hb dX3_induct_96 (by decide) (by omega) (fun c25 => ?_) (fun c25 => ?_)
          · exact absurd c25 (by omega)
          · refine lv_iconst (v := zz_i (0)) hx hb dX3_induct_99 rfl ?_
            have hv9 : an_ (k_ind σ x a y) (sp_tr σ a) = 0 := by (have hk9 : k_ind σ x a y = 1 := by unfold k_ind; (repeat (first | rw [if_pos (by omega)] | rw [if_neg (by omega)])) <;> first | rfl | omega); rw [hk9]; rfl
            have hw9 : rk_ cy gr (k_ind σ x a y) (nx_ (k_ind σ x a y) σ (s_ind σ x a y)) = rk_ cy gr 1 σ := by (have hk9 : k_ind σ x a y = 1 := by unfold k_ind; (repeat (first | rw [if_pos (by omega)] | rw [if_neg (by omega)])) <;> first | rfl | omega); rw [hk9]; rfl
            subst hAe
            exact W.iret (v := zz_i (0)) hx hb hr (fun t ht hW => ⟨congrArg (fun z => Outcome.returned (some (Value.int (zz_i z)))) hv9.symm, ⟨(), trivial, by rw [ht, hw9]; exact hP, va_K.moved hW.alike hK, by rw [hw9]; exact hD⟩, hS.F ht⟩) hS.2.2 dX3_induct_100
        · exact absurd c24 (by omega)

set_option maxHeartbeats 4000000 in
set_option maxRecDepth 100000 in
theorem r_retry (l : Launch) (D : va_G) (cy gr : Nat → Nat) (kc : Int) (σ : zz_S) (sz : Nat) (hI : iv_ σ) (x n y : Int) (q_x : (-2147483648 ≤ x ∧ x < 2147483648)) (q_n : (-2147483648 ≤ n ∧ n < 2147483648)) (q_y : (-2147483648 ≤ y ∧ y < 2147483648)) : Met l yX3_retry wsX3_retry ({ frames := 3, cells := 0, slots := 0, locals := 64 }) (ct_P D cy [.ref (gr 0), .int (zz_i (x)), .int (zz_i (n)), .int (zz_i (y))] (rk_ cy gr kc σ) sz) (ct_Q D cy (rk_ cy gr kc σ) sz none (fun _ : Unit => True) (fun _ => rk_ cy gr (k_ret σ x n y) (nx_ (k_ret σ x n y) σ (s_ret σ x n y)))) 0 0 (va_A (rk_ cy gr kc σ) sz) := by
  refine Met.ofW (cc := cX3_retry) (maxL := 4) (ret := none) (by decide) rfl ?_
  intro p e s m args below meth c s₁ B hml hv
  obtain ⟨rfl, rfl, hP, hK, hD0, hE⟩ := hv
  have hx := B.exec
  have hb := B.bytes
  have hr := B.returns
  have hts := atoms_spec (ws := wsX3_retry) B.pre
  have hown : s.vm.findClass RX3 = some m.cls := findClass_of_methodNamed B.named
  have hlocks := B.notSynchronized
  have hD := hD0.self (sz := s.heap.size)
  obtain ⟨A, hAe⟩ : ∃ A, A = va_A (rk_ cy gr kc σ) s.heap.size := ⟨_, rfl⟩
  rw [← hAe] at hD hE
  have hA : ∀ q : Nat, s.heap.size ≤ q → A q := fun q h => by rw [hAe]; exact Or.inr h
  have hS : va_S A s.heap s.heap [] := va_S.rf
  have hP : va_P D zz_cl (rk_ cy gr kc σ) s.heap := hP
  have hl := lv_entry ([.ref (gr 0), .int (zz_i (x)), .int (zz_i (n)), .int (zz_i (y))]) (n := 4) (Nat.le_of_ble_eq_true rfl)
  rw [lg_entry_eq]
  generalize (lg_sl ([.ref (gr 0), .int (zz_i (x)), .int (zz_i (n)), .int (zz_i (y))]) ++ List.replicate (4 - (lg_sl ([.ref (gr 0), .int (zz_i (x)), .int (zz_i (n)), .int (zz_i (y))])).length) Slot.unset).toArray = ls at hl ⊢
  have hl : lv_has ls 4 [(0, .ref (gr 0)), (1, .int (zz_i (x))), (2, .int (zz_i (n))), (3, .int (zz_i (y)))] := hl
  obtain ⟨⟨j1, j2, j3, j4, j5, j6, j7, j8, j9, j10⟩, j11, j12, j13, j14, j15, j16, j17, j18, j19, j20, j21, j22, j23, j24⟩ := id hI
  have hiX3 : ∀ w ∈ wsX30, w ∈ wsX3_retry := by decide +kernel
  have hf63 := hts (.fieldLink RX3 63 "SorterStepsModel" "code" "I") (by decide +kernel)
  have hf24 := hts (.fieldLink RX3 24 "SorterStepsModel" "state" "[I") (by decide +kernel)
  have hf27 := hts (.fieldLink RX3 27 "SorterStepsModel" "way" "[I") (by decide +kernel)
  have hf33 := hts (.fieldLink RX3 33 "SorterStepsModel" "retries" "[I") (by decide +kernel)
  have hf36 := hts (.fieldLink RX3 36 "SorterStepsModel" "later" "[I") (by decide +kernel)
  refine lv_aload_n hx hb dX3_retry_0 rfl (lv_at hl 0 rfl) ?_
  refine lv_aload_n hx hb dX3_retry_1 rfl (lv_at hl 0 rfl) ?_
  refine lv_iload_n hx hb dX3_retry_2 rfl (lv_at hl 1 rfl) ?_
  refine zc_v (As := [.int (zz_i (x))]) (rest := [.ref (gr 0)]) (S := Unit) (pc := 3) ⟨hx, hb, hml, hown, hts⟩ (r_isItem l D cy gr kc σ _ hI.1 (x) (by omega)) (cwV 1 hts gX3_retry_X3_isItem rfl rfl rfl (by decide +kernel) ⟨Nat.le_of_ble_eq_true rfl, Nat.le_of_ble_eq_true rfl⟩) hK hP hD hS hA hE (va_recv hK hP (ci := 3) (q0 := 0) rfl rfl) rfl hl.1 rfl (Nat.le_of_ble_eq_true rfl) dX3_retry_3 ⟨Nat.le_of_ble_eq_true rfl, Nat.le_of_ble_eq_true rfl⟩ (fun _ H locs k1 hP hD hS => ?_)
  refine W.eq (g2 := F0 m 6 ls [.int (zz_i (sp_bt (x) 1 (σ 4 0))), .ref (gr 0)]) rfl ?_
  have b1 : (sp_bt (x) 1 (σ 4 0) = 1 ∧ 1 ≤ x ∧ x ≤ σ 4 0) ∨ (sp_bt (x) 1 (σ 4 0) = 0 ∧ (x < 1 ∨ σ 4 0 < x)) := sp_bt_b (x) 1 (σ 4 0)
  refine zz_if_eq (tgt := 27) hx hb dX3_retry_6 (by decide) (by omega) (fun c2 => ?_) (fun c2 => ?_)
  · refine lv_iconst (v := zz_i (1)) hx hb dX3_retry_27 rfl ?_
    refine lv_goto (tgt := 32) hx hb dX3_retry_28 (by decide) ?_
    refine va_put (D := D) (ci := 3) (v := .int (zz_i (1))) (ty := .int) (C := RX3) (T := TX3) (N := 23) hx hb hts hiX3 tyX3 tyX3_ok nmX3 hown hK hP hD hS (0) rfl rfl 0 (by decide) hf63 (fun _ h9 => h9) rfl (by decide +kernel) rfl rfl (Nat.le_of_ble_eq_true rfl) dX3_retry_32 (fun H locs hP hD hS => ?_)
    have hP : va_P D zz_cl (rk_ cy gr 1 σ) H := hP
    have hD : va_D A (rk_ cy gr 1 σ) := hD
    refine lv_aload_n hx hb dX3_retry_35 rfl (lv_at hl 0 rfl) ?_
    refine va_get (D := D) (ci := 3) (v := .int (zz_i (1))) (C := RX3) (T := TX3) (N := 23) hx hb hts hiX3 hown hK hP (0) rfl rfl 0 (by decide) hf63 (fun _ h9 => h9) rfl dX3_retry_36 ?_
    refine zz_if_ne (tgt := 70) hx hb dX3_retry_39 (by decide) (by omega) (fun c3 => ?_) (fun c3 => ?_)
    · refine lv_aload_n hx hb dX3_retry_70 rfl (lv_at hl 0 rfl) ?_
      refine va_get (D := D) (ci := 3) (v := .int (zz_i (1))) (C := RX3) (T := TX3) (N := 23) hx hb hts hiX3 hown hK hP (0) rfl rfl 0 (by decide) hf63 (fun _ h9 => h9) rfl dX3_retry_71 ?_
      refine zz_if_le (tgt := 78) hx hb dX3_retry_74 (by decide) (by omega) (fun c4 => ?_) (fun c4 => ?_)
      · exact absurd c4 (by omega)
      · have hw9 : rk_ cy gr (k_ret σ x n y) (nx_ (k_ret σ x n y) σ (s_ret σ x n y)) = rk_ cy gr 1 σ := by (have hk9 : k_ret σ x n y = 1 := by unfold k_ret; (repeat (first | rw [if_pos (by omega)] | rw [if_neg (by omega)])) <;> first | rfl | omega); rw [hk9]; rfl
        subst hAe
        exact W.vret hx hb hr (fun t ht hW => ⟨rfl, ⟨(), trivial, by rw [ht, hw9]; exact hP, va_K.moved hW.alike hK, by rw [hw9]; exact hD⟩, hS.F ht⟩) hS.2.2 dX3_retry_77
    · exact absurd c3 (by omega)
  · refine lv_iload_n hx hb dX3_retry_9 rfl (lv_at hl 2 rfl) ?_
    refine lv_iconst (v := zz_i (0)) hx hb dX3_retry_10 rfl ?_
    refine lv_bipush (v := zz_i (9)) hx hb dX3_retry_11 (by decide) ?_
    refine zc_s (As := [.int (zz_i (n)), .int (zz_i (0)), .int (zz_i (9))]) (rest := [.ref (gr 0)]) (S := Unit) (pc := 13) ⟨hx, hb, hml, hown, hts⟩ (r_in l D cy (rk_ cy gr kc σ) _ (n) (0) (9) (by omega) (by omega) (by omega)) (va_cwS 3 hts gX3_retry_X3_in rfl rfl rfl (by decide +kernel) ⟨Nat.le_of_ble_eq_true rfl, Nat.le_of_ble_eq_true rfl⟩) hK hP hD hS hA hE rfl hl.1 rfl (Nat.le_of_ble_eq_true rfl) dX3_retry_13 ⟨Nat.le_of_ble_eq_true rfl, Nat.le_of_ble_eq_true rfl⟩ (fun _ H locs k5 hP hD hS => ?_)
    refine W.eq (g2 := F0 m 16 ls [.int (zz_i (sp_bt (n) (0) (9))), .ref (gr 0)]) rfl ?_
    have b5 := sp_bt_b (n) (0) (9)
    refine zz_if_eq (tgt := 27) hx hb dX3_retry_16 (by decide) (by omega) (fun c6 => ?_) (fun c6 => ?_)
    · refine lv_iconst (v := zz_i (1)) hx hb dX3_retry_27 rfl ?_
      refine lv_goto (tgt := 32) hx hb dX3_retry_28 (by decide) ?_
      refine va_put (D := D) (ci := 3) (v := .int (zz_i (1))) (ty := .int) (C := RX3) (T := TX3) (N := 23) hx hb hts hiX3 tyX3 tyX3_ok nmX3 hown hK hP hD hS (0) rfl rfl 0 (by decide) hf63 (fun _ h9 => h9) rfl (by decide +kernel) rfl rfl (Nat.le_of_ble_eq_true rfl) dX3_retry_32 (fun H locs hP hD hS => ?_)
      have hP : va_P D zz_cl (rk_ cy gr 1 σ) H := hP
      have hD : va_D A (rk_ cy gr 1 σ) := hD
      refine lv_aload_n hx hb dX3_retry_35 rfl (lv_at hl 0 rfl) ?_
      refine va_get (D := D) (ci := 3) (v := .int (zz_i (1))) (C := RX3) (T := TX3) (N := 23) hx hb hts hiX3 hown hK hP (0) rfl rfl 0 (by decide) hf63 (fun _ h9 => h9) rfl dX3_retry_36 ?_
      refine zz_if_ne (tgt := 70) hx hb dX3_retry_39 (by decide) (by omega) (fun c7 => ?_) (fun c7 => ?_)
      · refine lv_aload_n hx hb dX3_retry_70 rfl (lv_at hl 0 rfl) ?_
        refine va_get (D := D) (ci := 3) (v := .int (zz_i (1))) (C := RX3) (T := TX3) (N := 23) hx hb hts hiX3 hown hK hP (0) rfl rfl 0 (by decide) hf63 (fun _ h9 => h9) rfl dX3_retry_71 ?_
        refine zz_if_le (tgt := 78) hx hb dX3_retry_74 (by decide) (by omega) (fun c8 => ?_) (fun c8 => ?_)
        · exact absurd c8 (by omega)
        · have hw9 : rk_ cy gr (k_ret σ x n y) (nx_ (k_ret σ x n y) σ (s_ret σ x n y)) = rk_ cy gr 1 σ := by (have hk9 : k_ret σ x n y = 1 := by unfold k_ret; (repeat (first | rw [if_pos (by omega)] | rw [if_neg (by omega)])) <;> first | rfl | omega); rw [hk9]; rfl
          subst hAe
          exact W.vret hx hb hr (fun t ht hW => ⟨rfl, ⟨(), trivial, by rw [ht, hw9]; exact hP, va_K.moved hW.alike hK, by rw [hw9]; exact hD⟩, hS.F ht⟩) hS.2.2 dX3_retry_77
      · exact absurd c7 (by omega)
    · refine lv_aload_n hx hb dX3_retry_19 rfl (lv_at hl 0 rfl) ?_
      refine lv_iload_n hx hb dX3_retry_20 rfl (lv_at hl 3 rfl) ?_
      refine zc_v (As := [.int (zz_i (y))]) (rest := [.ref (gr 0)]) (S := Unit) (pc := 21) ⟨hx, hb, hml, hown, hts⟩ (r_isCode l D cy gr kc σ _ hI.1 (y) (by omega)) (cwV 1 hts gX3_retry_X3_isCode rfl rfl rfl (by decide +kernel) ⟨Nat.le_of_ble_eq_true rfl, Nat.le_of_ble_eq_true rfl⟩) hK hP hD hS hA hE (va_recv hK hP (ci := 3) (q0 := 0) rfl rfl) rfl hl.1 rfl (Nat.le_of_ble_eq_true rfl) dX3_retry_21 ⟨Nat.le_of_ble_eq_true rfl, Nat.le_of_ble_eq_true rfl⟩ (fun _ H locs k9 hP hD hS => ?_)
      refine W.eq (g2 := F0 m 24 ls [.int (zz_i (sp_bt (y) 0 (σ 28 0))), .ref (gr 0)]) rfl ?_
      have b9 : (sp_bt (y) 0 (σ 28 0) = 1 ∧ 0 ≤ y ∧ y ≤ σ 28 0) ∨ (sp_bt (y) 0 (σ 28 0) = 0 ∧ (y < 0 ∨ σ 28 0 < y)) := sp_bt_b (y) 0 (σ 28 0)
      refine zz_if_ne (tgt := 31) hx hb dX3_retry_24 (by decide) (by omega) (fun c10 => ?_) (fun c10 => ?_)
      · refine lv_iconst (v := zz_i (0)) hx hb dX3_retry_31 rfl ?_
        refine va_put (D := D) (ci := 3) (v := .int (zz_i (0))) (ty := .int) (C := RX3) (T := TX3) (N := 23) hx hb hts hiX3 tyX3 tyX3_ok nmX3 hown hK hP hD hS (0) rfl rfl 0 (by decide) hf63 (fun _ h9 => h9) rfl (by decide +kernel) rfl rfl (Nat.le_of_ble_eq_true rfl) dX3_retry_32 (fun H locs hP hD hS => ?_)
        have hP : va_P D zz_cl (rk_ cy gr 0 σ) H := hP
        have hD : va_D A (rk_ cy gr 0 σ) := hD
        refine lv_aload_n hx hb dX3_retry_35 rfl (lv_at hl 0 rfl) ?_
        refine va_get (D := D) (ci := 3) (v := .int (zz_i (0))) (C := RX3) (T := TX3) (N := 23) hx hb hts hiX3 hown hK hP (0) rfl rfl 0 (by decide) hf63 (fun _ h9 => h9) rfl dX3_retry_36 ?_
        refine zz_if_ne (tgt := 70) hx hb dX3_retry_39 (by decide) (by omega) (fun c11 => ?_) (fun c11 => ?_)
        · exact absurd c11 (by omega)
        · refine lv_aload_n hx hb dX3_retry_42 rfl (lv_at hl 0 rfl) ?_
          have hit := j13 x (by omega) (by omega)
          refine lv_aload_n hx hb dX3_retry_43 rfl (lv_at hl 0 rfl) ?_
          refine va_get (D := D) (ci := 3) (v := .ref (gr 4)) (C := RX3) (T := TX3) (N := 23) hx hb hts hiX3 hown hK hP (0) rfl rfl 9 (by decide) hf24 (fun _ h9 => h9) rfl dX3_retry_44 ?_
          refine lv_iload_n hx hb dX3_retry_47 rfl (lv_at hl 1 rfl) ?_
          refine zz_iald hx hb hK hP 4 0 rfl rfl (show 0 ≤ x ∧ x < ((61 : Nat) : Int) by omega) (show 61 < 2147483648 by omega) dX3_retry_48 ?_
          refine lv_iconst (v := zz_i (1)) hx hb dX3_retry_49 rfl ?_
          refine zz_icmp_ne (tgt := 62) hx hb dX3_retry_50 (by decide) (by omega) (by omega) (fun c12 => ?_) (fun c12 => ?_)
          · refine lv_iconst (v := zz_i (2)) hx hb dX3_retry_62 rfl ?_
            refine lv_goto (tgt := 67) hx hb dX3_retry_63 (by decide) ?_
            refine va_put (D := D) (ci := 3) (v := .int (zz_i (2))) (ty := .int) (C := RX3) (T := TX3) (N := 23) hx hb hts hiX3 tyX3 tyX3_ok nmX3 hown hK hP hD hS (0) rfl rfl 0 (by decide) hf63 (fun _ h9 => h9) rfl (by decide +kernel) rfl rfl (Nat.le_of_ble_eq_true rfl) dX3_retry_67 (fun H locs hP hD hS => ?_)
            have hP : va_P D zz_cl (rk_ cy gr 2 σ) H := hP
            have hD : va_D A (rk_ cy gr 2 σ) := hD
            refine lv_aload_n hx hb dX3_retry_70 rfl (lv_at hl 0 rfl) ?_
            refine va_get (D := D) (ci := 3) (v := .int (zz_i (2))) (C := RX3) (T := TX3) (N := 23) hx hb hts hiX3 hown hK hP (0) rfl rfl 0 (by decide) hf63 (fun _ h9 => h9) rfl dX3_retry_71 ?_
            refine zz_if_le (tgt := 78) hx hb dX3_retry_74 (by decide) (by omega) (fun c13 => ?_) (fun c13 => ?_)
            · exact absurd c13 (by omega)
            · have hw9 : rk_ cy gr (k_ret σ x n y) (nx_ (k_ret σ x n y) σ (s_ret σ x n y)) = rk_ cy gr 2 σ := by (have hk9 : k_ret σ x n y = 2 := by unfold k_ret; (repeat (first | rw [if_pos (by omega)] | rw [if_neg (by omega)])) <;> first | rfl | omega); rw [hk9]; rfl
              subst hAe
              exact W.vret hx hb hr (fun t ht hW => ⟨rfl, ⟨(), trivial, by rw [ht, hw9]; exact hP, va_K.moved hW.alike hK, by rw [hw9]; exact hD⟩, hS.F ht⟩) hS.2.2 dX3_retry_77
          · refine lv_aload_n hx hb dX3_retry_53 rfl (lv_at hl 0 rfl) ?_
            refine va_get (D := D) (ci := 3) (v := .ref (gr 5)) (C := RX3) (T := TX3) (N := 23) hx hb hts hiX3 hown hK hP (0) rfl rfl 10 (by decide) hf27 (fun _ h9 => h9) rfl dX3_retry_54 ?_
            refine lv_iload_n hx hb dX3_retry_57 rfl (lv_at hl 1 rfl) ?_
            refine zz_iald hx hb hK hP 5 0 rfl rfl (show 0 ≤ x ∧ x < ((61 : Nat) : Int) by omega) (show 61 < 2147483648 by omega) dX3_retry_58 ?_
            refine zz_if_eq (tgt := 66) hx hb dX3_retry_59 (by decide) (by omega) (fun c14 => ?_) (fun c14 => ?_)
            · refine lv_iconst (v := zz_i (0)) hx hb dX3_retry_66 rfl ?_
              refine va_put (D := D) (ci := 3) (v := .int (zz_i (0))) (ty := .int) (C := RX3) (T := TX3) (N := 23) hx hb hts hiX3 tyX3 tyX3_ok nmX3 hown hK hP hD hS (0) rfl rfl 0 (by decide) hf63 (fun _ h9 => h9) rfl (by decide +kernel) rfl rfl (Nat.le_of_ble_eq_true rfl) dX3_retry_67 (fun H locs hP hD hS => ?_)
              have hP : va_P D zz_cl (rk_ cy gr 0 σ) H := hP
              have hD : va_D A (rk_ cy gr 0 σ) := hD
              refine lv_aload_n hx hb dX3_retry_70 rfl (lv_at hl 0 rfl) ?_
              refine va_get (D := D) (ci := 3) (v := .int (zz_i (0))) (C := RX3) (T := TX3) (N := 23) hx hb hts hiX3 hown hK hP (0) rfl rfl 0 (by decide) hf63 (fun _ h9 => h9) rfl dX3_retry_71 ?_
              refine zz_if_le (tgt := 78) hx hb dX3_retry_74 (by decide) (by omega) (fun c15 => ?_) (fun c15 => ?_)
              · refine lv_aload_n hx hb dX3_retry_78 rfl (lv_at hl 0 rfl) ?_
                refine va_get (D := D) (ci := 3) (v := .ref (gr 7)) (C := RX3) (T := TX3) (N := 23) hx hb hts hiX3 hown hK hP (0) rfl rfl 12 (by decide) hf33 (fun _ h9 => h9) rfl dX3_retry_79 ?_
                refine lv_iload_n hx hb dX3_retry_82 rfl (lv_at hl 1 rfl) ?_
                refine lv_iload_n hx hb dX3_retry_83 rfl (lv_at hl 2 rfl) ?_
                refine zz_iast hx hb hK hP hD hS 7 0 rfl rfl (show 0 ≤ x ∧ x < ((61 : Nat) : Int) by omega) (show 61 < 2147483648 by omega) dX3_retry_84 (fun H locs hP hD hS => ?_)
                have hP : va_P D zz_cl (rk_ cy gr 0 (up_a σ 16 (x) (n))) H := hP
                have hD : va_D A (rk_ cy gr 0 (up_a σ 16 (x) (n))) := hD
                refine lv_aload_n hx hb dX3_retry_85 rfl (lv_at hl 0 rfl) ?_
                refine va_get (D := D) (ci := 3) (v := .ref (gr 8)) (C := RX3) (T := TX3) (N := 23) hx hb hts hiX3 hown hK hP (0) rfl rfl 13 (by decide) hf36 (fun _ h9 => h9) rfl dX3_retry_86 ?_
                refine lv_iload_n hx hb dX3_retry_89 rfl (lv_at hl 1 rfl) ?_
                refine lv_iload_n hx hb dX3_retry_90 rfl (lv_at hl 3 rfl) ?_
                refine zz_iast hx hb hK hP hD hS 8 0 rfl rfl (show 0 ≤ x ∧ x < ((61 : Nat) : Int) by omega) (show 61 < 2147483648 by omega) dX3_retry_91 (fun H locs hP hD hS => ?_)
                have hP : va_P D zz_cl (rk_ cy gr 0 (up_a (up_a σ 16 (x) (n)) 17 (x) (y))) H := hP
                have hD : va_D A (rk_ cy gr 0 (up_a (up_a σ 16 (x) (n)) 17 (x) (y))) := hD
                have hw9 : rk_ cy gr (k_ret σ x n y) (nx_ (k_ret σ x n y) σ (s_ret σ x n y)) = rk_ cy gr 0 (up_a (up_a σ 16 (x) (n)) 17 (x) (y)) := by (have hk9 : k_ret σ x n y = 0 := by unfold k_ret; (repeat (first | rw [if_pos (by omega)] | rw [if_neg (by omega)])) <;> first | rfl | omega); rw [hk9]; show rk_ cy gr 0 (s_ret σ x n y) = rk_ cy gr 0 (up_a (up_a σ 16 (x) (n)) 17 (x) (y)); rfl
                subst hAe
                exact W.vret hx hb hr (fun t ht hW => ⟨rfl, ⟨(), trivial, by rw [ht, hw9]; exact hP, va_K.moved hW.alike hK, by rw [hw9]; exact hD⟩, hS.F ht⟩) hS.2.2 dX3_retry_92
              · exact absurd c15 (by omega)
            · refine lv_iconst (v := zz_i (2)) hx hb dX3_retry_62 rfl ?_
              refine lv_goto (tgt := 67) hx hb dX3_retry_63 (by decide) ?_
              refine va_put (D := D) (ci := 3) (v := .int (zz_i (2))) (ty := .int) (C := RX3) (T := TX3) (N := 23) hx hb hts hiX3 tyX3 tyX3_ok nmX3 hown hK hP hD hS (0) rfl rfl 0 (by decide) hf63 (fun _ h9 => h9) rfl (by decide +kernel) rfl rfl (Nat.le_of_ble_eq_true rfl) dX3_retry_67 (fun H locs hP hD hS => ?_)
              have hP : va_P D zz_cl (rk_ cy gr 2 σ) H := hP
              have hD : va_D A (rk_ cy gr 2 σ) := hD
              refine lv_aload_n hx hb dX3_retry_70 rfl (lv_at hl 0 rfl) ?_
              refine va_get (D := D) (ci := 3) (v := .int (zz_i (2))) (C := RX3) (T := TX3) (N := 23) hx hb hts hiX3 hown hK hP (0) rfl rfl 0 (by decide) hf63 (fun _ h9 => h9) rfl dX3_retry_71 ?_
              refine zz_if_le (tgt := 78) hx hb dX3_retry_74 (by decide) (by omega) (fun c16 => ?_) (fun c16 => ?_)
              · exact absurd c16 (by omega)
              · have hw9 : rk_ cy gr (k_ret σ x n y) (nx_ (k_ret σ x n y) σ (s_ret σ x n y)) = rk_ cy gr 2 σ := by (have hk9 : k_ret σ x n y = 2 := by unfold k_ret; (repeat (first | rw [if_pos (by omega)] | rw [if_neg (by omega)])) <;> first | rfl | omega); rw [hk9]; rfl
                subst hAe
                exact W.vret hx hb hr (fun t ht hW => ⟨rfl, ⟨(), trivial, by rw [ht, hw9]; exact hP, va_K.moved hW.alike hK, by rw [hw9]; exact hD⟩, hS.F ht⟩) hS.2.2 dX3_retry_77
      · refine lv_iconst (v := zz_i (1)) hx hb dX3_retry_27 rfl ?_
        refine lv_goto (tgt := 32) hx hb dX3_retry_28 (by decide) ?_
        refine va_put (D := D) (ci := 3) (v := .int (zz_i (1))) (ty := .int) (C := RX3) (T := TX3) (N := 23) hx hb hts hiX3 tyX3 tyX3_ok nmX3 hown hK hP hD hS (0) rfl rfl 0 (by decide) hf63 (fun _ h9 => h9) rfl (by decide +kernel) rfl rfl (Nat.le_of_ble_eq_true rfl) dX3_retry_32 (fun H locs hP hD hS => ?_)
        have hP : va_P D zz_cl (rk_ cy gr 1 σ) H := hP
        have hD : va_D A (rk_ cy gr 1 σ) := hD
        refine lv_aload_n hx hb dX3_retry_35 rfl (lv_at hl 0 rfl) ?_
        refine va_get (D := D) (ci := 3) (v := .int (zz_i (1))) (C := RX3) (T := TX3) (N := 23) hx hb hts hiX3 hown hK hP (0) rfl rfl 0 (by decide) hf63 (fun _ h9 => h9) rfl dX3_retry_36 ?_
        refine zz_if_ne (tgt := 70) hx hb dX3_retry_39 (by decide) (by omega) (fun c17 => ?_) (fun c17 => ?_)
        · refine lv_aload_n hx hb dX3_retry_70 rfl (lv_at hl 0 rfl) ?_
          refine va_get (D := D) (ci := 3) (v := .int (zz_i (1))) (C := RX3) (T := TX3) (N := 23) hx hb hts hiX3 hown hK hP (0) rfl rfl 0 (by decide) hf63 (fun _ h9 => h9) rfl dX3_retry_71 ?_
          refine zz_if_le (tgt := 78) hx hb dX3_retry_74 (by decide) (by omega) (fun c18 => ?_) (fun c18 => ?_)
          · exact absurd c18 (by omega)
          · have hw9 : rk_ cy gr (k_ret σ x n y) (nx_ (k_ret σ x n y) σ (s_ret σ x n y)) = rk_ cy gr 1 σ := by (have hk9 : k_ret σ x n y = 1 := by unfold k_ret; (repeat (first | rw [if_pos (by omega)] | rw [if_neg (by omega)])) <;> first | rfl | omega); rw [hk9]; rfl
            subst hAe
            exact W.vret hx hb hr (fun t ht hW => ⟨rfl, ⟨(), trivial, by rw [ht, hw9]; exact hP, va_K.moved hW.alike hK, by rw [hw9]; exact hD⟩, hS.F ht⟩) hS.2.2 dX3_retry_77
        · exact absurd c17 (by omega)

set_option maxHeartbeats 4000000 in
set_option maxRecDepth 100000 in
theorem r_out (l : Launch) (D : va_G) (cy gr : Nat → Nat) (kc : Int) (σ : zz_S) (sz : Nat) (hI : iv_ σ) (i y : Int) (q_i : (-2147483648 ≤ i ∧ i < 2147483648)) (q_y : (-2147483648 ≤ y ∧ y < 2147483648)) : Met l yX3_out wsX3_out ({ frames := 1, cells := 0, slots := 0, locals := 22 }) (ct_P D cy [.ref (gr 0), .int (zz_i (i)), .int (zz_i (y))] (rk_ cy gr kc σ) sz) (ct_Q D cy (rk_ cy gr kc σ) sz (some (.int (zz_i (an_ (k_out σ i y) (v_out σ i y))))) (fun _ : Unit => True) (fun _ => rk_ cy gr (k_out σ i y) (nx_ (k_out σ i y) σ σ))) 0 0 (va_A (rk_ cy gr kc σ) sz) := by
  refine Met.ofW (cc := cX3_out) (maxL := 3) (ret := (some .int)) (by decide) rfl ?_
  intro p e s m args below meth c s₁ B hml hv
  obtain ⟨rfl, rfl, hP, hK, hD0, hE⟩ := hv
  have hx := B.exec
  have hb := B.bytes
  have hr := B.returns
  have hts := atoms_spec (ws := wsX3_out) B.pre
  have hown : s.vm.findClass RX3 = some m.cls := findClass_of_methodNamed B.named
  have hlocks := B.notSynchronized
  have hD := hD0.self (sz := s.heap.size)
  obtain ⟨A, hAe⟩ : ∃ A, A = va_A (rk_ cy gr kc σ) s.heap.size := ⟨_, rfl⟩
  rw [← hAe] at hD hE
  have hA : ∀ q : Nat, s.heap.size ≤ q → A q := fun q h => by rw [hAe]; exact Or.inr h
  have hS : va_S A s.heap s.heap [] := va_S.rf
  have hP : va_P D zz_cl (rk_ cy gr kc σ) s.heap := hP
  have hl := lv_entry ([.ref (gr 0), .int (zz_i (i)), .int (zz_i (y))]) (n := 3) (Nat.le_of_ble_eq_true rfl)
  rw [lg_entry_eq]
  generalize (lg_sl ([.ref (gr 0), .int (zz_i (i)), .int (zz_i (y))]) ++ List.replicate (3 - (lg_sl ([.ref (gr 0), .int (zz_i (i)), .int (zz_i (y))])).length) Slot.unset).toArray = ls at hl ⊢
  have hl : lv_has ls 3 [(0, .ref (gr 0)), (1, .int (zz_i (i))), (2, .int (zz_i (y)))] := hl
  obtain ⟨⟨j1, j2, j3, j4, j5, j6, j7, j8, j9, j10⟩, j11, j12, j13, j14, j15, j16, j17, j18, j19, j20, j21, j22, j23, j24⟩ := id hI
  have hiX3 : ∀ w ∈ wsX30, w ∈ wsX3_out := by decide +kernel
  have hf98 := hts (.fieldLink RX3 98 "SorterStepsModel" "left" "I") (by decide +kernel)
  have hf63 := hts (.fieldLink RX3 63 "SorterStepsModel" "code" "I") (by decide +kernel)
  have hf48 := hts (.fieldLink RX3 48 "SorterStepsModel" "leftRounds" "[I") (by decide +kernel)
  have hf45 := hts (.fieldLink RX3 45 "SorterStepsModel" "leftStep" "[I") (by decide +kernel)
  have hf42 := hts (.fieldLink RX3 42 "SorterStepsModel" "leftChute" "[I") (by decide +kernel)
  have hf39 := hts (.fieldLink RX3 39 "SorterStepsModel" "leftItem" "[I") (by decide +kernel)
  refine lv_aload_n hx hb dX3_out_0 rfl (lv_at hl 0 rfl) ?_
  refine lv_iload_n hx hb dX3_out_1 rfl (lv_at hl 1 rfl) ?_
  refine lv_iconst (v := zz_i (0)) hx hb dX3_out_2 rfl ?_
  refine lv_aload_n hx hb dX3_out_3 rfl (lv_at hl 0 rfl) ?_
  refine va_get (D := D) (ci := 3) (v := .int (zz_i (σ 5 0))) (C := RX3) (T := TX3) (N := 23) hx hb hts hiX3 hown hK hP (0) rfl rfl 14 (by decide) hf98 (fun _ h9 => h9) rfl dX3_out_4 ?_
  refine lv_iconst (v := zz_i (1)) hx hb dX3_out_7 rfl ?_
  refine zz_isub hx hb dX3_out_8 ?_
  refine zc_s (As := [.int (zz_i (i)), .int (zz_i (0)), .int (zz_i ((σ 5 0) - 1))]) (rest := [.ref (gr 0)]) (S := Unit) (pc := 9) ⟨hx, hb, hml, hown, hts⟩ (r_in l D cy (rk_ cy gr kc σ) _ (i) (0) ((σ 5 0) - 1) (by omega) (by omega) (by omega)) (va_cwS 3 hts gX3_out_X3_in rfl rfl rfl (by decide +kernel) ⟨Nat.le_of_ble_eq_true rfl, Nat.le_of_ble_eq_true rfl⟩) hK hP hD hS hA hE rfl hl.1 rfl (Nat.le_of_ble_eq_true rfl) dX3_out_9 ⟨Nat.le_of_ble_eq_true rfl, Nat.le_of_ble_eq_true rfl⟩ (fun _ H locs k1 hP hD hS => ?_)
  refine W.eq (g2 := F0 m 12 ls [.int (zz_i (sp_bt (i) (0) ((σ 5 0) - 1))), .ref (gr 0)]) rfl ?_
  have b1 := sp_bt_b (i) (0) ((σ 5 0) - 1)
  refine zz_if_eq (tgt := 24) hx hb dX3_out_12 (by decide) (by omega) (fun c2 => ?_) (fun c2 => ?_)
  · refine lv_iconst (v := zz_i (1)) hx hb dX3_out_24 rfl ?_
    refine lv_goto (tgt := 29) hx hb dX3_out_25 (by decide) ?_
    refine va_put (D := D) (ci := 3) (v := .int (zz_i (1))) (ty := .int) (C := RX3) (T := TX3) (N := 23) hx hb hts hiX3 tyX3 tyX3_ok nmX3 hown hK hP hD hS (0) rfl rfl 0 (by decide) hf63 (fun _ h9 => h9) rfl (by decide +kernel) rfl rfl (Nat.le_of_ble_eq_true rfl) dX3_out_29 (fun H locs hP hD hS => ?_)
    have hP : va_P D zz_cl (rk_ cy gr 1 σ) H := hP
    have hD : va_D A (rk_ cy gr 1 σ) := hD
    refine lv_aload_n hx hb dX3_out_32 rfl (lv_at hl 0 rfl) ?_
    refine va_get (D := D) (ci := 3) (v := .int (zz_i (1))) (C := RX3) (T := TX3) (N := 23) hx hb hts hiX3 hown hK hP (0) rfl rfl 0 (by decide) hf63 (fun _ h9 => h9) rfl dX3_out_33 ?_
    refine zz_if_le (tgt := 41) hx hb dX3_out_36 (by decide) (by omega) (fun c3 => ?_) (fun c3 => ?_)
    · exact absurd c3 (by omega)
    · refine lv_iconst (v := zz_i (0)) hx hb dX3_out_39 rfl ?_
      have hv9 : an_ (k_out σ i y) (v_out σ i y) = 0 := by (have hk9 : k_out σ i y = 1 := by unfold k_out; (repeat (first | rw [if_pos (by omega)] | rw [if_neg (by omega)])) <;> first | rfl | omega); rw [hk9]; rfl
      have hw9 : rk_ cy gr (k_out σ i y) (nx_ (k_out σ i y) σ σ) = rk_ cy gr 1 σ := by (have hk9 : k_out σ i y = 1 := by unfold k_out; (repeat (first | rw [if_pos (by omega)] | rw [if_neg (by omega)])) <;> first | rfl | omega); rw [hk9]; rfl
      subst hAe
      exact W.iret (v := zz_i (0)) hx hb hr (fun t ht hW => ⟨congrArg (fun z => Outcome.returned (some (Value.int (zz_i z)))) hv9.symm, ⟨(), trivial, by rw [ht, hw9]; exact hP, va_K.moved hW.alike hK, by rw [hw9]; exact hD⟩, hS.F ht⟩) hS.2.2 dX3_out_40
  · refine lv_iload_n hx hb dX3_out_15 rfl (lv_at hl 2 rfl) ?_
    refine lv_iconst (v := zz_i (0)) hx hb dX3_out_16 rfl ?_
    refine lv_iconst (v := zz_i (3)) hx hb dX3_out_17 rfl ?_
    refine zc_s (As := [.int (zz_i (y)), .int (zz_i (0)), .int (zz_i (3))]) (rest := [.ref (gr 0)]) (S := Unit) (pc := 18) ⟨hx, hb, hml, hown, hts⟩ (r_in l D cy (rk_ cy gr kc σ) _ (y) (0) (3) (by omega) (by omega) (by omega)) (va_cwS 3 hts gX3_out_X3_in rfl rfl rfl (by decide +kernel) ⟨Nat.le_of_ble_eq_true rfl, Nat.le_of_ble_eq_true rfl⟩) hK hP hD hS hA hE rfl hl.1 rfl (Nat.le_of_ble_eq_true rfl) dX3_out_18 ⟨Nat.le_of_ble_eq_true rfl, Nat.le_of_ble_eq_true rfl⟩ (fun _ H locs k4 hP hD hS => ?_)
    refine W.eq (g2 := F0 m 21 ls [.int (zz_i (sp_bt (y) (0) (3))), .ref (gr 0)]) rfl ?_
    have b4 := sp_bt_b (y) (0) (3)
    refine zz_if_ne (tgt := 28) hx hb dX3_out_21 (by decide) (by omega) (fun c5 => ?_) (fun c5 => ?_)
    · refine lv_iconst (v := zz_i (0)) hx hb dX3_out_28 rfl ?_
      refine va_put (D := D) (ci := 3) (v := .int (zz_i (0))) (ty := .int) (C := RX3) (T := TX3) (N := 23) hx hb hts hiX3 tyX3 tyX3_ok nmX3 hown hK hP hD hS (0) rfl rfl 0 (by decide) hf63 (fun _ h9 => h9) rfl (by decide +kernel) rfl rfl (Nat.le_of_ble_eq_true rfl) dX3_out_29 (fun H locs hP hD hS => ?_)
      have hP : va_P D zz_cl (rk_ cy gr 0 σ) H := hP
      have hD : va_D A (rk_ cy gr 0 σ) := hD
      refine lv_aload_n hx hb dX3_out_32 rfl (lv_at hl 0 rfl) ?_
      refine va_get (D := D) (ci := 3) (v := .int (zz_i (0))) (C := RX3) (T := TX3) (N := 23) hx hb hts hiX3 hown hK hP (0) rfl rfl 0 (by decide) hf63 (fun _ h9 => h9) rfl dX3_out_33 ?_
      refine zz_if_le (tgt := 41) hx hb dX3_out_36 (by decide) (by omega) (fun c6 => ?_) (fun c6 => ?_)
      · refine lv_iload_n hx hb dX3_out_41 rfl (lv_at hl 2 rfl) ?_
        refine zz_if_ne (tgt := 54) hx hb dX3_out_42 (by decide) (by omega) (fun c7 => ?_) (fun c7 => ?_)
        · refine lv_iload_n hx hb dX3_out_54 rfl (lv_at hl 2 rfl) ?_
          refine lv_iconst (v := zz_i (1)) hx hb dX3_out_55 rfl ?_
          refine zz_icmp_ne (tgt := 68) hx hb dX3_out_56 (by decide) (by omega) (by omega) (fun c8 => ?_) (fun c8 => ?_)
          · refine lv_iload_n hx hb dX3_out_68 rfl (lv_at hl 2 rfl) ?_
            refine lv_iconst (v := zz_i (2)) hx hb dX3_out_69 rfl ?_
            refine zz_icmp_ne (tgt := 82) hx hb dX3_out_70 (by decide) (by omega) (by omega) (fun c9 => ?_) (fun c9 => ?_)
            · refine lv_aload_n hx hb dX3_out_82 rfl (lv_at hl 0 rfl) ?_
              refine va_get (D := D) (ci := 3) (v := .ref (gr 12)) (C := RX3) (T := TX3) (N := 23) hx hb hts hiX3 hown hK hP (0) rfl rfl 18 (by decide) hf48 (fun _ h9 => h9) rfl dX3_out_83 ?_
              refine lv_iload_n hx hb dX3_out_86 rfl (lv_at hl 1 rfl) ?_
              refine zz_iald hx hb hK hP 12 0 rfl rfl (show 0 ≤ i ∧ i < ((60 : Nat) : Int) by omega) (show 60 < 2147483648 by omega) dX3_out_87 ?_
              have hv9 : an_ (k_out σ i y) (v_out σ i y) = σ 26 i := by (have hk9 : k_out σ i y = 0 := by unfold k_out; (repeat (first | rw [if_pos (by omega)] | rw [if_neg (by omega)])) <;> first | rfl | omega); rw [hk9]; show v_out σ i y = σ 26 i; unfold v_out; (repeat (first | rw [if_pos (by omega)] | rw [if_neg (by omega)])) <;> first | rfl | omega
              have hw9 : rk_ cy gr (k_out σ i y) (nx_ (k_out σ i y) σ σ) = rk_ cy gr 0 σ := by (have hk9 : k_out σ i y = 0 := by unfold k_out; (repeat (first | rw [if_pos (by omega)] | rw [if_neg (by omega)])) <;> first | rfl | omega); rw [hk9]; show rk_ cy gr 0 σ = rk_ cy gr 0 σ; rfl
              subst hAe
              exact W.iret (v := zz_i (σ 26 i)) hx hb hr (fun t ht hW => ⟨congrArg (fun z => Outcome.returned (some (Value.int (zz_i z)))) hv9.symm, ⟨(), trivial, by rw [ht, hw9]; exact hP, va_K.moved hW.alike hK, by rw [hw9]; exact hD⟩, hS.F ht⟩) hS.2.2 dX3_out_88
            · refine lv_aload_n hx hb dX3_out_73 rfl (lv_at hl 0 rfl) ?_
              refine va_get (D := D) (ci := 3) (v := .ref (gr 11)) (C := RX3) (T := TX3) (N := 23) hx hb hts hiX3 hown hK hP (0) rfl rfl 17 (by decide) hf45 (fun _ h9 => h9) rfl dX3_out_74 ?_
              refine lv_iload_n hx hb dX3_out_77 rfl (lv_at hl 1 rfl) ?_
              refine zz_iald hx hb hK hP 11 0 rfl rfl (show 0 ≤ i ∧ i < ((60 : Nat) : Int) by omega) (show 60 < 2147483648 by omega) dX3_out_78 ?_
              refine lv_goto (tgt := 88) hx hb dX3_out_79 (by decide) ?_
              have hv9 : an_ (k_out σ i y) (v_out σ i y) = σ 25 i := by (have hk9 : k_out σ i y = 0 := by unfold k_out; (repeat (first | rw [if_pos (by omega)] | rw [if_neg (by omega)])) <;> first | rfl | omega); rw [hk9]; show v_out σ i y = σ 25 i; unfold v_out; (repeat (first | rw [if_pos (by omega)] | rw [if_neg (by omega)])) <;> first | rfl | omega
              have hw9 : rk_ cy gr (k_out σ i y) (nx_ (k_out σ i y) σ σ) = rk_ cy gr 0 σ := by (have hk9 : k_out σ i y = 0 := by unfold k_out; (repeat (first | rw [if_pos (by omega)] | rw [if_neg (by omega)])) <;> first | rfl | omega); rw [hk9]; show rk_ cy gr 0 σ = rk_ cy gr 0 σ; rfl
              subst hAe
              exact W.iret (v := zz_i (σ 25 i)) hx hb hr (fun t ht hW => ⟨congrArg (fun z => Outcome.returned (some (Value.int (zz_i z)))) hv9.symm, ⟨(), trivial, by rw [ht, hw9]; exact hP, va_K.moved hW.alike hK, by rw [hw9]; exact hD⟩, hS.F ht⟩) hS.2.2 dX3_out_88
          · refine lv_aload_n hx hb dX3_out_59 rfl (lv_at hl 0 rfl) ?_
            refine va_get (D := D) (ci := 3) (v := .ref (gr 10)) (C := RX3) (T := TX3) (N := 23) hx hb hts hiX3 hown hK hP (0) rfl rfl 16 (by decide) hf42 (fun _ h9 => h9) rfl dX3_out_60 ?_
            refine lv_iload_n hx hb dX3_out_63 rfl (lv_at hl 1 rfl) ?_
            refine zz_iald hx hb hK hP 10 0 rfl rfl (show 0 ≤ i ∧ i < ((60 : Nat) : Int) by omega) (show 60 < 2147483648 by omega) dX3_out_64 ?_
            refine lv_goto (tgt := 88) hx hb dX3_out_65 (by decide) ?_
            have hv9 : an_ (k_out σ i y) (v_out σ i y) = σ 24 i := by (have hk9 : k_out σ i y = 0 := by unfold k_out; (repeat (first | rw [if_pos (by omega)] | rw [if_neg (by omega)])) <;> first | rfl | omega); rw [hk9]; show v_out σ i y = σ 24 i; unfold v_out; (repeat (first | rw [if_pos (by omega)] | rw [if_neg (by omega)])) <;> first | rfl | omega
            have hw9 : rk_ cy gr (k_out σ i y) (nx_ (k_out σ i y) σ σ) = rk_ cy gr 0 σ := by (have hk9 : k_out σ i y = 0 := by unfold k_out; (repeat (first | rw [if_pos (by omega)] | rw [if_neg (by omega)])) <;> first | rfl | omega); rw [hk9]; show rk_ cy gr 0 σ = rk_ cy gr 0 σ; rfl
            subst hAe
            exact W.iret (v := zz_i (σ 24 i)) hx hb hr (fun t ht hW => ⟨congrArg (fun z => Outcome.returned (some (Value.int (zz_i z)))) hv9.symm, ⟨(), trivial, by rw [ht, hw9]; exact hP, va_K.moved hW.alike hK, by rw [hw9]; exact hD⟩, hS.F ht⟩) hS.2.2 dX3_out_88
        · refine lv_aload_n hx hb dX3_out_45 rfl (lv_at hl 0 rfl) ?_
          refine va_get (D := D) (ci := 3) (v := .ref (gr 9)) (C := RX3) (T := TX3) (N := 23) hx hb hts hiX3 hown hK hP (0) rfl rfl 15 (by decide) hf39 (fun _ h9 => h9) rfl dX3_out_46 ?_
          refine lv_iload_n hx hb dX3_out_49 rfl (lv_at hl 1 rfl) ?_
          refine zz_iald hx hb hK hP 9 0 rfl rfl (show 0 ≤ i ∧ i < ((60 : Nat) : Int) by omega) (show 60 < 2147483648 by omega) dX3_out_50 ?_
          refine lv_goto (tgt := 88) hx hb dX3_out_51 (by decide) ?_
          have hv9 : an_ (k_out σ i y) (v_out σ i y) = σ 23 i := by (have hk9 : k_out σ i y = 0 := by unfold k_out; (repeat (first | rw [if_pos (by omega)] | rw [if_neg (by omega)])) <;> first | rfl | omega); rw [hk9]; show v_out σ i y = σ 23 i; unfold v_out; (repeat (first | rw [if_pos (by omega)] | rw [if_neg (by omega)])) <;> first | rfl | omega
          have hw9 : rk_ cy gr (k_out σ i y) (nx_ (k_out σ i y) σ σ) = rk_ cy gr 0 σ := by (have hk9 : k_out σ i y = 0 := by unfold k_out; (repeat (first | rw [if_pos (by omega)] | rw [if_neg (by omega)])) <;> first | rfl | omega); rw [hk9]; show rk_ cy gr 0 σ = rk_ cy gr 0 σ; rfl
          subst hAe
          exact W.iret (v := zz_i (σ 23 i)) hx hb hr (fun t ht hW => ⟨congrArg (fun z => Outcome.returned (some (Value.int (zz_i z)))) hv9.symm, ⟨(), trivial, by rw [ht, hw9]; exact hP, va_K.moved hW.alike hK, by rw [hw9]; exact hD⟩, hS.F ht⟩) hS.2.2 dX3_out_88
      · exact absurd c6 (by omega)
    · refine lv_iconst (v := zz_i (1)) hx hb dX3_out_24 rfl ?_
      refine lv_goto (tgt := 29) hx hb dX3_out_25 (by decide) ?_
      refine va_put (D := D) (ci := 3) (v := .int (zz_i (1))) (ty := .int) (C := RX3) (T := TX3) (N := 23) hx hb hts hiX3 tyX3 tyX3_ok nmX3 hown hK hP hD hS (0) rfl rfl 0 (by decide) hf63 (fun _ h9 => h9) rfl (by decide +kernel) rfl rfl (Nat.le_of_ble_eq_true rfl) dX3_out_29 (fun H locs hP hD hS => ?_)
      have hP : va_P D zz_cl (rk_ cy gr 1 σ) H := hP
      have hD : va_D A (rk_ cy gr 1 σ) := hD
      refine lv_aload_n hx hb dX3_out_32 rfl (lv_at hl 0 rfl) ?_
      refine va_get (D := D) (ci := 3) (v := .int (zz_i (1))) (C := RX3) (T := TX3) (N := 23) hx hb hts hiX3 hown hK hP (0) rfl rfl 0 (by decide) hf63 (fun _ h9 => h9) rfl dX3_out_33 ?_
      refine zz_if_le (tgt := 41) hx hb dX3_out_36 (by decide) (by omega) (fun c10 => ?_) (fun c10 => ?_)
      · exact absurd c10 (by omega)
      · refine lv_iconst (v := zz_i (0)) hx hb dX3_out_39 rfl ?_
        have hv9 : an_ (k_out σ i y) (v_out σ i y) = 0 := by (have hk9 : k_out σ i y = 1 := by unfold k_out; (repeat (first | rw [if_pos (by omega)] | rw [if_neg (by omega)])) <;> first | rfl | omega); rw [hk9]; rfl
        have hw9 : rk_ cy gr (k_out σ i y) (nx_ (k_out σ i y) σ σ) = rk_ cy gr 1 σ := by (have hk9 : k_out σ i y = 1 := by unfold k_out; (repeat (first | rw [if_pos (by omega)] | rw [if_neg (by omega)])) <;> first | rfl | omega); rw [hk9]; rfl
        subst hAe
        exact W.iret (v := zz_i (0)) hx hb hr (fun t ht hW => ⟨congrArg (fun z => Outcome.returned (some (Value.int (zz_i z)))) hv9.symm, ⟨(), trivial, by rw [ht, hw9]; exact hP, va_K.moved hW.alike hK, by rw [hw9]; exact hD⟩, hS.F ht⟩) hS.2.2 dX3_out_40

set_option maxHeartbeats 4000000 in
set_option maxRecDepth 100000 in
theorem r_chute (l : Launch) (D : va_G) (cy gr : Nat → Nat) (kc : Int) (σ : zz_S) (sz : Nat) (hI : iv_ σ) (x f : Int) (q_x : (-2147483648 ≤ x ∧ x < 2147483648)) (q_f : f = 0 ∨ f = 1) : Met l yX3_chute wsX3_chute ({ frames := 2, cells := 0, slots := 0, locals := 43 }) (ct_P D cy [.ref (gr 0), .int (zz_i (x)), .int (zz_i (f))] (rk_ cy gr kc σ) sz) (ct_Q D cy (rk_ cy gr kc σ) sz (some (.int (zz_i (an_ (k_chu σ x) (σ 11 x))))) (fun _ : Unit => True) (fun _ => rk_ cy gr (k_chu σ x) (nx_ (k_chu σ x) σ (up_a σ 11 x f)))) 0 0 (va_A (rk_ cy gr kc σ) sz) := by
  refine Met.ofW (cc := cX3_chute) (maxL := 4) (ret := (some .boolean)) (by decide) rfl ?_
  intro p e s m args below meth c s₁ B hml hv
  obtain ⟨rfl, rfl, hP, hK, hD0, hE⟩ := hv
  have hx := B.exec
  have hb := B.bytes
  have hr := B.returns
  have hts := atoms_spec (ws := wsX3_chute) B.pre
  have hown : s.vm.findClass RX3 = some m.cls := findClass_of_methodNamed B.named
  have hlocks := B.notSynchronized
  have hD := hD0.self (sz := s.heap.size)
  obtain ⟨A, hAe⟩ : ∃ A, A = va_A (rk_ cy gr kc σ) s.heap.size := ⟨_, rfl⟩
  rw [← hAe] at hD hE
  have hA : ∀ q : Nat, s.heap.size ≤ q → A q := fun q h => by rw [hAe]; exact Or.inr h
  have hS : va_S A s.heap s.heap [] := va_S.rf
  have hP : va_P D zz_cl (rk_ cy gr kc σ) s.heap := hP
  have hl := lv_entry ([.ref (gr 0), .int (zz_i (x)), .int (zz_i (f))]) (n := 4) (Nat.le_of_ble_eq_true rfl)
  rw [lg_entry_eq]
  generalize (lg_sl ([.ref (gr 0), .int (zz_i (x)), .int (zz_i (f))]) ++ List.replicate (4 - (lg_sl ([.ref (gr 0), .int (zz_i (x)), .int (zz_i (f))])).length) Slot.unset).toArray = ls at hl ⊢
  have hl : lv_has ls 4 [(0, .ref (gr 0)), (1, .int (zz_i (x))), (2, .int (zz_i (f)))] := hl
  obtain ⟨⟨j1, j2, j3, j4, j5, j6, j7, j8, j9, j10⟩, j11, j12, j13, j14, j15, j16, j17, j18, j19, j20, j21, j22, j23, j24⟩ := id hI
  have hiX3 : ∀ w ∈ wsX30, w ∈ wsX3_chute := by decide +kernel
  have hf63 := hts (.fieldLink RX3 63 "SorterStepsModel" "code" "I") (by decide +kernel)
  have hf17 := hts (.fieldLink RX3 17 "SorterStepsModel" "full" "[Z") (by decide +kernel)
  refine lv_aload_n hx hb dX3_chute_0 rfl (lv_at hl 0 rfl) ?_
  refine lv_aload_n hx hb dX3_chute_1 rfl (lv_at hl 0 rfl) ?_
  refine lv_iload_n hx hb dX3_chute_2 rfl (lv_at hl 1 rfl) ?_
  refine zc_v (As := [.int (zz_i (x))]) (rest := [.ref (gr 0)]) (S := Unit) (pc := 3) ⟨hx, hb, hml, hown, hts⟩ (r_isChute l D cy gr kc σ _ hI.1 (x) (by omega)) (cwV 1 hts gX3_chute_X3_isChute rfl rfl rfl (by decide +kernel) ⟨Nat.le_of_ble_eq_true rfl, Nat.le_of_ble_eq_true rfl⟩) hK hP hD hS hA hE (va_recv hK hP (ci := 3) (q0 := 0) rfl rfl) rfl hl.1 rfl (Nat.le_of_ble_eq_true rfl) dX3_chute_3 ⟨Nat.le_of_ble_eq_true rfl, Nat.le_of_ble_eq_true rfl⟩ (fun _ H locs k1 hP hD hS => ?_)
  refine W.eq (g2 := F0 m 6 ls [.int (zz_i (sp_bt (x) 1 (σ 28 0))), .ref (gr 0)]) rfl ?_
  have b1 : (sp_bt (x) 1 (σ 28 0) = 1 ∧ 1 ≤ x ∧ x ≤ σ 28 0) ∨ (sp_bt (x) 1 (σ 28 0) = 0 ∧ (x < 1 ∨ σ 28 0 < x)) := sp_bt_b (x) 1 (σ 28 0)
  refine zz_if_eq (tgt := 13) hx hb dX3_chute_6 (by decide) (by omega) (fun c2 => ?_) (fun c2 => ?_)
  · refine lv_iconst (v := zz_i (1)) hx hb dX3_chute_13 rfl ?_
    refine va_put (D := D) (ci := 3) (v := .int (zz_i (1))) (ty := .int) (C := RX3) (T := TX3) (N := 23) hx hb hts hiX3 tyX3 tyX3_ok nmX3 hown hK hP hD hS (0) rfl rfl 0 (by decide) hf63 (fun _ h9 => h9) rfl (by decide +kernel) rfl rfl (Nat.le_of_ble_eq_true rfl) dX3_chute_14 (fun H locs hP hD hS => ?_)
    have hP : va_P D zz_cl (rk_ cy gr 1 σ) H := hP
    have hD : va_D A (rk_ cy gr 1 σ) := hD
    refine lv_aload_n hx hb dX3_chute_17 rfl (lv_at hl 0 rfl) ?_
    refine va_get (D := D) (ci := 3) (v := .int (zz_i (1))) (C := RX3) (T := TX3) (N := 23) hx hb hts hiX3 hown hK hP (0) rfl rfl 0 (by decide) hf63 (fun _ h9 => h9) rfl dX3_chute_18 ?_
    refine zz_if_le (tgt := 26) hx hb dX3_chute_21 (by decide) (by omega) (fun c3 => ?_) (fun c3 => ?_)
    · exact absurd c3 (by omega)
    · refine lv_iconst (v := zz_i (0)) hx hb dX3_chute_24 rfl ?_
      have hv9 : an_ (k_chu σ x) (σ 11 x) = 0 := by (have hk9 : k_chu σ x = 1 := by unfold k_chu; (repeat (first | rw [if_pos (by omega)] | rw [if_neg (by omega)])) <;> first | rfl | omega); rw [hk9]; rfl
      have hw9 : rk_ cy gr (k_chu σ x) (nx_ (k_chu σ x) σ (up_a σ 11 x f)) = rk_ cy gr 1 σ := by (have hk9 : k_chu σ x = 1 := by unfold k_chu; (repeat (first | rw [if_pos (by omega)] | rw [if_neg (by omega)])) <;> first | rfl | omega); rw [hk9]; rfl
      subst hAe
      exact W.zret (v := zz_i (0)) (ty := .boolean) hx hb hr (zz_narB (by omega)) (fun t ht hW => ⟨congrArg (fun z => Outcome.returned (some (Value.int (zz_i z)))) hv9.symm, ⟨(), trivial, by rw [ht, hw9]; exact hP, va_K.moved hW.alike hK, by rw [hw9]; exact hD⟩, hS.F ht⟩) hS.2.2 dX3_chute_25
  · refine lv_iconst (v := zz_i (0)) hx hb dX3_chute_9 rfl ?_
    refine lv_goto (tgt := 14) hx hb dX3_chute_10 (by decide) ?_
    refine va_put (D := D) (ci := 3) (v := .int (zz_i (0))) (ty := .int) (C := RX3) (T := TX3) (N := 23) hx hb hts hiX3 tyX3 tyX3_ok nmX3 hown hK hP hD hS (0) rfl rfl 0 (by decide) hf63 (fun _ h9 => h9) rfl (by decide +kernel) rfl rfl (Nat.le_of_ble_eq_true rfl) dX3_chute_14 (fun H locs hP hD hS => ?_)
    have hP : va_P D zz_cl (rk_ cy gr 0 σ) H := hP
    have hD : va_D A (rk_ cy gr 0 σ) := hD
    refine lv_aload_n hx hb dX3_chute_17 rfl (lv_at hl 0 rfl) ?_
    refine va_get (D := D) (ci := 3) (v := .int (zz_i (0))) (C := RX3) (T := TX3) (N := 23) hx hb hts hiX3 hown hK hP (0) rfl rfl 0 (by decide) hf63 (fun _ h9 => h9) rfl dX3_chute_18 ?_
    refine zz_if_le (tgt := 26) hx hb dX3_chute_21 (by decide) (by omega) (fun c4 => ?_) (fun c4 => ?_)
    · refine lv_aload_n hx hb dX3_chute_26 rfl (lv_at hl 0 rfl) ?_
      have h11 := j12 x
      refine va_get (D := D) (ci := 3) (v := .ref (gr 2)) (C := RX3) (T := TX3) (N := 23) hx hb hts hiX3 hown hK hP (0) rfl rfl 6 (by decide) hf17 (fun _ h9 => h9) rfl dX3_chute_27 ?_
      refine lv_iload_n hx hb dX3_chute_30 rfl (lv_at hl 1 rfl) ?_
      refine zz_zald hx hb hK hP 2 1 rfl rfl (show 0 ≤ x ∧ x < ((7 : Nat) : Int) by omega) (show 7 < 2147483648 by omega) dX3_chute_31 ?_
      refine lv_istore_n (lv' := [(3, .int (zz_i (σ 11 x))), (0, .ref (gr 0)), (1, .int (zz_i (x))), (2, .int (zz_i (f)))]) hx hb dX3_chute_32 rfl hl (by decide) rfl (fun ls hl => ?_)
      refine lv_aload_n hx hb dX3_chute_33 rfl (lv_at hl 1 rfl) ?_
      refine va_get (D := D) (ci := 3) (v := .ref (gr 2)) (C := RX3) (T := TX3) (N := 23) hx hb hts hiX3 hown hK hP (0) rfl rfl 6 (by decide) hf17 (fun _ h9 => h9) rfl dX3_chute_34 ?_
      refine lv_iload_n hx hb dX3_chute_37 rfl (lv_at hl 2 rfl) ?_
      refine lv_iload_n hx hb dX3_chute_38 rfl (lv_at hl 3 rfl) ?_
      refine zz_zast hx hb hK hP hD hS 2 1 rfl rfl (show 0 ≤ x ∧ x < ((7 : Nat) : Int) by omega) (show 7 < 2147483648 by omega) (by omega) dX3_chute_39 (fun H locs hP hD hS => ?_)
      have hP : va_P D zz_cl (rk_ cy gr 0 (up_a σ 11 (x) (f))) H := hP
      have hD : va_D A (rk_ cy gr 0 (up_a σ 11 (x) (f))) := hD
      refine lv_iload_n hx hb dX3_chute_40 rfl (lv_at hl 0 rfl) ?_
      have hv9 : an_ (k_chu σ x) (σ 11 x) = σ 11 x := by (have hk9 : k_chu σ x = 0 := by unfold k_chu; (repeat (first | rw [if_pos (by omega)] | rw [if_neg (by omega)])) <;> first | rfl | omega); rw [hk9]; show σ 11 x = σ 11 x; rfl
      have hw9 : rk_ cy gr (k_chu σ x) (nx_ (k_chu σ x) σ (up_a σ 11 x f)) = rk_ cy gr 0 (up_a σ 11 (x) (f)) := by (have hk9 : k_chu σ x = 0 := by unfold k_chu; (repeat (first | rw [if_pos (by omega)] | rw [if_neg (by omega)])) <;> first | rfl | omega); rw [hk9]; show rk_ cy gr 0 (up_a σ 11 x f) = rk_ cy gr 0 (up_a σ 11 (x) (f)); rfl
      subst hAe
      exact W.zret (v := zz_i (σ 11 x)) (ty := .boolean) hx hb hr (zz_narB (by omega)) (fun t ht hW => ⟨congrArg (fun z => Outcome.returned (some (Value.int (zz_i z)))) hv9.symm, ⟨(), trivial, by rw [ht, hw9]; exact hP, va_K.moved hW.alike hK, by rw [hw9]; exact hD⟩, hS.F ht⟩) hS.2.2 dX3_chute_41
    · exact absurd c4 (by omega)

set_option maxHeartbeats 4000000 in
set_option maxRecDepth 100000 in
theorem r_manual (l : Launch) (D : va_G) (cy gr : Nat → Nat) (kc : Int) (σ : zz_S) (sz : Nat) (hI : iv_ σ) (x y : Int) (q_x : (-2147483648 ≤ x ∧ x < 2147483648)) (q_y : (-2147483648 ≤ y ∧ y < 2147483648)) : Met l yX3_manual wsX3_manual ({ frames := 2, cells := 0, slots := 0, locals := 43 }) (ct_P D cy [.ref (gr 0), .int (zz_i (x)), .int (zz_i (y))] (rk_ cy gr kc σ) sz) (ct_Q D cy (rk_ cy gr kc σ) sz (some (.int (zz_i (an_ (k_man σ x y) (v_man σ y))))) (fun _ : Unit => True) (fun _ => rk_ cy gr (k_man σ x y) (nx_ (k_man σ x y) σ (s_man σ x y)))) 0 0 (va_A (rk_ cy gr kc σ) sz) := by
  refine Met.ofW (cc := cX3_manual) (maxL := 3) (ret := (some .boolean)) (by decide) rfl ?_
  intro p e s m args below meth c s₁ B hml hv
  obtain ⟨rfl, rfl, hP, hK, hD0, hE⟩ := hv
  have hx := B.exec
  have hb := B.bytes
  have hr := B.returns
  have hts := atoms_spec (ws := wsX3_manual) B.pre
  have hown : s.vm.findClass RX3 = some m.cls := findClass_of_methodNamed B.named
  have hlocks := B.notSynchronized
  have hD := hD0.self (sz := s.heap.size)
  obtain ⟨A, hAe⟩ : ∃ A, A = va_A (rk_ cy gr kc σ) s.heap.size := ⟨_, rfl⟩
  rw [← hAe] at hD hE
  have hA : ∀ q : Nat, s.heap.size ≤ q → A q := fun q h => by rw [hAe]; exact Or.inr h
  have hS : va_S A s.heap s.heap [] := va_S.rf
  have hP : va_P D zz_cl (rk_ cy gr kc σ) s.heap := hP
  have hl := lv_entry ([.ref (gr 0), .int (zz_i (x)), .int (zz_i (y))]) (n := 3) (Nat.le_of_ble_eq_true rfl)
  rw [lg_entry_eq]
  generalize (lg_sl ([.ref (gr 0), .int (zz_i (x)), .int (zz_i (y))]) ++ List.replicate (3 - (lg_sl ([.ref (gr 0), .int (zz_i (x)), .int (zz_i (y))])).length) Slot.unset).toArray = ls at hl ⊢
  have hl : lv_has ls 3 [(0, .ref (gr 0)), (1, .int (zz_i (x))), (2, .int (zz_i (y)))] := hl
  obtain ⟨⟨j1, j2, j3, j4, j5, j6, j7, j8, j9, j10⟩, j11, j12, j13, j14, j15, j16, j17, j18, j19, j20, j21, j22, j23, j24⟩ := id hI
  have hiX3 : ∀ w ∈ wsX30, w ∈ wsX3_manual := by decide +kernel
  have hf63 := hts (.fieldLink RX3 63 "SorterStepsModel" "code" "I") (by decide +kernel)
  have hf24 := hts (.fieldLink RX3 24 "SorterStepsModel" "state" "[I") (by decide +kernel)
  have hf17 := hts (.fieldLink RX3 17 "SorterStepsModel" "full" "[Z") (by decide +kernel)
  refine lv_aload_n hx hb dX3_manual_0 rfl (lv_at hl 0 rfl) ?_
  refine lv_aload_n hx hb dX3_manual_1 rfl (lv_at hl 0 rfl) ?_
  refine lv_iload_n hx hb dX3_manual_2 rfl (lv_at hl 1 rfl) ?_
  refine zc_v (As := [.int (zz_i (x))]) (rest := [.ref (gr 0)]) (S := Unit) (pc := 3) ⟨hx, hb, hml, hown, hts⟩ (r_isItem l D cy gr kc σ _ hI.1 (x) (by omega)) (cwV 1 hts gX3_manual_X3_isItem rfl rfl rfl (by decide +kernel) ⟨Nat.le_of_ble_eq_true rfl, Nat.le_of_ble_eq_true rfl⟩) hK hP hD hS hA hE (va_recv hK hP (ci := 3) (q0 := 0) rfl rfl) rfl hl.1 rfl (Nat.le_of_ble_eq_true rfl) dX3_manual_3 ⟨Nat.le_of_ble_eq_true rfl, Nat.le_of_ble_eq_true rfl⟩ (fun _ H locs k1 hP hD hS => ?_)
  refine W.eq (g2 := F0 m 6 ls [.int (zz_i (sp_bt (x) 1 (σ 4 0))), .ref (gr 0)]) rfl ?_
  have b1 : (sp_bt (x) 1 (σ 4 0) = 1 ∧ 1 ≤ x ∧ x ≤ σ 4 0) ∨ (sp_bt (x) 1 (σ 4 0) = 0 ∧ (x < 1 ∨ σ 4 0 < x)) := sp_bt_b (x) 1 (σ 4 0)
  refine zz_if_eq (tgt := 17) hx hb dX3_manual_6 (by decide) (by omega) (fun c2 => ?_) (fun c2 => ?_)
  · refine lv_iconst (v := zz_i (1)) hx hb dX3_manual_17 rfl ?_
    refine lv_goto (tgt := 22) hx hb dX3_manual_18 (by decide) ?_
    refine va_put (D := D) (ci := 3) (v := .int (zz_i (1))) (ty := .int) (C := RX3) (T := TX3) (N := 23) hx hb hts hiX3 tyX3 tyX3_ok nmX3 hown hK hP hD hS (0) rfl rfl 0 (by decide) hf63 (fun _ h9 => h9) rfl (by decide +kernel) rfl rfl (Nat.le_of_ble_eq_true rfl) dX3_manual_22 (fun H locs hP hD hS => ?_)
    have hP : va_P D zz_cl (rk_ cy gr 1 σ) H := hP
    have hD : va_D A (rk_ cy gr 1 σ) := hD
    refine lv_aload_n hx hb dX3_manual_25 rfl (lv_at hl 0 rfl) ?_
    refine va_get (D := D) (ci := 3) (v := .int (zz_i (1))) (C := RX3) (T := TX3) (N := 23) hx hb hts hiX3 hown hK hP (0) rfl rfl 0 (by decide) hf63 (fun _ h9 => h9) rfl dX3_manual_26 ?_
    refine zz_if_ne (tgt := 61) hx hb dX3_manual_29 (by decide) (by omega) (fun c3 => ?_) (fun c3 => ?_)
    · refine lv_aload_n hx hb dX3_manual_61 rfl (lv_at hl 0 rfl) ?_
      refine va_get (D := D) (ci := 3) (v := .int (zz_i (1))) (C := RX3) (T := TX3) (N := 23) hx hb hts hiX3 hown hK hP (0) rfl rfl 0 (by decide) hf63 (fun _ h9 => h9) rfl dX3_manual_62 ?_
      refine zz_if_gt (tgt := 77) hx hb dX3_manual_65 (by decide) (by omega) (fun c4 => ?_) (fun c4 => ?_)
      · refine lv_iconst (v := zz_i (0)) hx hb dX3_manual_77 rfl ?_
        have hv9 : an_ (k_man σ x y) (v_man σ y) = 0 := by (have hk9 : k_man σ x y = 1 := by unfold k_man; (repeat (first | rw [if_pos (by omega)] | rw [if_neg (by omega)])) <;> first | rfl | omega); rw [hk9]; rfl
        have hw9 : rk_ cy gr (k_man σ x y) (nx_ (k_man σ x y) σ (s_man σ x y)) = rk_ cy gr 1 σ := by (have hk9 : k_man σ x y = 1 := by unfold k_man; (repeat (first | rw [if_pos (by omega)] | rw [if_neg (by omega)])) <;> first | rfl | omega); rw [hk9]; rfl
        subst hAe
        exact W.zret (v := zz_i (0)) (ty := .boolean) hx hb hr (zz_narB (by omega)) (fun t ht hW => ⟨congrArg (fun z => Outcome.returned (some (Value.int (zz_i z)))) hv9.symm, ⟨(), trivial, by rw [ht, hw9]; exact hP, va_K.moved hW.alike hK, by rw [hw9]; exact hD⟩, hS.F ht⟩) hS.2.2 dX3_manual_78
      · exact absurd c4 (by omega)
    · exact absurd c3 (by omega)
  · refine lv_aload_n hx hb dX3_manual_9 rfl (lv_at hl 0 rfl) ?_
    refine lv_iload_n hx hb dX3_manual_10 rfl (lv_at hl 2 rfl) ?_
    refine zc_v (As := [.int (zz_i (y))]) (rest := [.ref (gr 0)]) (S := Unit) (pc := 11) ⟨hx, hb, hml, hown, hts⟩ (r_isChute l D cy gr kc σ _ hI.1 (y) (by omega)) (cwV 1 hts gX3_manual_X3_isChute rfl rfl rfl (by decide +kernel) ⟨Nat.le_of_ble_eq_true rfl, Nat.le_of_ble_eq_true rfl⟩) hK hP hD hS hA hE (va_recv hK hP (ci := 3) (q0 := 0) rfl rfl) rfl hl.1 rfl (Nat.le_of_ble_eq_true rfl) dX3_manual_11 ⟨Nat.le_of_ble_eq_true rfl, Nat.le_of_ble_eq_true rfl⟩ (fun _ H locs k5 hP hD hS => ?_)
    refine W.eq (g2 := F0 m 14 ls [.int (zz_i (sp_bt (y) 1 (σ 28 0))), .ref (gr 0)]) rfl ?_
    have b5 : (sp_bt (y) 1 (σ 28 0) = 1 ∧ 1 ≤ y ∧ y ≤ σ 28 0) ∨ (sp_bt (y) 1 (σ 28 0) = 0 ∧ (y < 1 ∨ σ 28 0 < y)) := sp_bt_b (y) 1 (σ 28 0)
    refine zz_if_ne (tgt := 21) hx hb dX3_manual_14 (by decide) (by omega) (fun c6 => ?_) (fun c6 => ?_)
    · refine lv_iconst (v := zz_i (0)) hx hb dX3_manual_21 rfl ?_
      refine va_put (D := D) (ci := 3) (v := .int (zz_i (0))) (ty := .int) (C := RX3) (T := TX3) (N := 23) hx hb hts hiX3 tyX3 tyX3_ok nmX3 hown hK hP hD hS (0) rfl rfl 0 (by decide) hf63 (fun _ h9 => h9) rfl (by decide +kernel) rfl rfl (Nat.le_of_ble_eq_true rfl) dX3_manual_22 (fun H locs hP hD hS => ?_)
      have hP : va_P D zz_cl (rk_ cy gr 0 σ) H := hP
      have hD : va_D A (rk_ cy gr 0 σ) := hD
      refine lv_aload_n hx hb dX3_manual_25 rfl (lv_at hl 0 rfl) ?_
      refine va_get (D := D) (ci := 3) (v := .int (zz_i (0))) (C := RX3) (T := TX3) (N := 23) hx hb hts hiX3 hown hK hP (0) rfl rfl 0 (by decide) hf63 (fun _ h9 => h9) rfl dX3_manual_26 ?_
      refine zz_if_ne (tgt := 61) hx hb dX3_manual_29 (by decide) (by omega) (fun c7 => ?_) (fun c7 => ?_)
      · exact absurd c7 (by omega)
      · refine lv_aload_n hx hb dX3_manual_32 rfl (lv_at hl 0 rfl) ?_
        have hit := j13 x (by omega) (by omega)
        refine lv_aload_n hx hb dX3_manual_33 rfl (lv_at hl 0 rfl) ?_
        refine va_get (D := D) (ci := 3) (v := .ref (gr 4)) (C := RX3) (T := TX3) (N := 23) hx hb hts hiX3 hown hK hP (0) rfl rfl 9 (by decide) hf24 (fun _ h9 => h9) rfl dX3_manual_34 ?_
        refine lv_iload_n hx hb dX3_manual_37 rfl (lv_at hl 1 rfl) ?_
        refine zz_iald hx hb hK hP 4 0 rfl rfl (show 0 ≤ x ∧ x < ((61 : Nat) : Int) by omega) (show 61 < 2147483648 by omega) dX3_manual_38 ?_
        refine lv_iconst (v := zz_i (3)) hx hb dX3_manual_39 rfl ?_
        refine zz_icmp_eq (tgt := 57) hx hb dX3_manual_40 (by decide) (by omega) (by omega) (fun c8 => ?_) (fun c8 => ?_)
        · refine lv_iconst (v := zz_i (0)) hx hb dX3_manual_57 rfl ?_
          refine va_put (D := D) (ci := 3) (v := .int (zz_i (0))) (ty := .int) (C := RX3) (T := TX3) (N := 23) hx hb hts hiX3 tyX3 tyX3_ok nmX3 hown hK hP hD hS (0) rfl rfl 0 (by decide) hf63 (fun _ h9 => h9) rfl (by decide +kernel) rfl rfl (Nat.le_of_ble_eq_true rfl) dX3_manual_58 (fun H locs hP hD hS => ?_)
          have hP : va_P D zz_cl (rk_ cy gr 0 σ) H := hP
          have hD : va_D A (rk_ cy gr 0 σ) := hD
          refine lv_aload_n hx hb dX3_manual_61 rfl (lv_at hl 0 rfl) ?_
          refine va_get (D := D) (ci := 3) (v := .int (zz_i (0))) (C := RX3) (T := TX3) (N := 23) hx hb hts hiX3 hown hK hP (0) rfl rfl 0 (by decide) hf63 (fun _ h9 => h9) rfl dX3_manual_62 ?_
          refine zz_if_gt (tgt := 77) hx hb dX3_manual_65 (by decide) (by omega) (fun c9 => ?_) (fun c9 => ?_)
          · exact absurd c9 (by omega)
          · refine lv_aload_n hx hb dX3_manual_68 rfl (lv_at hl 0 rfl) ?_
            have h11 := j12 y
            refine va_get (D := D) (ci := 3) (v := .ref (gr 2)) (C := RX3) (T := TX3) (N := 23) hx hb hts hiX3 hown hK hP (0) rfl rfl 6 (by decide) hf17 (fun _ h9 => h9) rfl dX3_manual_69 ?_
            refine lv_iload_n hx hb dX3_manual_72 rfl (lv_at hl 2 rfl) ?_
            refine zz_zald hx hb hK hP 2 1 rfl rfl (show 0 ≤ y ∧ y < ((7 : Nat) : Int) by omega) (show 7 < 2147483648 by omega) dX3_manual_73 ?_
            refine zz_if_eq (tgt := 79) hx hb dX3_manual_74 (by decide) (by omega) (fun c10 => ?_) (fun c10 => ?_)
            · refine lv_aload_n hx hb dX3_manual_79 rfl (lv_at hl 0 rfl) ?_
              refine va_get (D := D) (ci := 3) (v := .ref (gr 4)) (C := RX3) (T := TX3) (N := 23) hx hb hts hiX3 hown hK hP (0) rfl rfl 9 (by decide) hf24 (fun _ h9 => h9) rfl dX3_manual_80 ?_
              refine lv_iload_n hx hb dX3_manual_83 rfl (lv_at hl 1 rfl) ?_
              refine lv_iconst (v := zz_i (2)) hx hb dX3_manual_84 rfl ?_
              refine zz_iast hx hb hK hP hD hS 4 0 rfl rfl (show 0 ≤ x ∧ x < ((61 : Nat) : Int) by omega) (show 61 < 2147483648 by omega) dX3_manual_85 (fun H locs hP hD hS => ?_)
              have hP : va_P D zz_cl (rk_ cy gr 0 (up_a σ 13 (x) (2))) H := hP
              have hD : va_D A (rk_ cy gr 0 (up_a σ 13 (x) (2))) := hD
              refine lv_iconst (v := zz_i (1)) hx hb dX3_manual_86 rfl ?_
              have hv9 : an_ (k_man σ x y) (v_man σ y) = 1 := by (have hk9 : k_man σ x y = 0 := by unfold k_man; (repeat (first | rw [if_pos (by omega)] | rw [if_neg (by omega)])) <;> first | rfl | omega); rw [hk9]; show v_man σ y = 1; unfold v_man; (repeat (first | rw [if_pos (by omega)] | rw [if_neg (by omega)])) <;> first | rfl | omega
              have hw9 : rk_ cy gr (k_man σ x y) (nx_ (k_man σ x y) σ (s_man σ x y)) = rk_ cy gr 0 (up_a σ 13 (x) (2)) := by (have hk9 : k_man σ x y = 0 := by unfold k_man; (repeat (first | rw [if_pos (by omega)] | rw [if_neg (by omega)])) <;> first | rfl | omega); rw [hk9]; show rk_ cy gr 0 (s_man σ x y) = rk_ cy gr 0 (up_a σ 13 (x) (2)); unfold s_man; (repeat (first | rw [if_pos (by omega)] | rw [if_neg (by omega)])) <;> first | rfl | omega
              subst hAe
              exact W.zret (v := zz_i (1)) (ty := .boolean) hx hb hr (zz_narB (by omega)) (fun t ht hW => ⟨congrArg (fun z => Outcome.returned (some (Value.int (zz_i z)))) hv9.symm, ⟨(), trivial, by rw [ht, hw9]; exact hP, va_K.moved hW.alike hK, by rw [hw9]; exact hD⟩, hS.F ht⟩) hS.2.2 dX3_manual_87
            · refine lv_iconst (v := zz_i (0)) hx hb dX3_manual_77 rfl ?_
              have hv9 : an_ (k_man σ x y) (v_man σ y) = 0 := by (have hk9 : k_man σ x y = 0 := by unfold k_man; (repeat (first | rw [if_pos (by omega)] | rw [if_neg (by omega)])) <;> first | rfl | omega); rw [hk9]; show v_man σ y = 0; unfold v_man; (repeat (first | rw [if_pos (by omega)] | rw [if_neg (by omega)])) <;> first | rfl | omega
              have hw9 : rk_ cy gr (k_man σ x y) (nx_ (k_man σ x y) σ (s_man σ x y)) = rk_ cy gr 0 σ := by (have hk9 : k_man σ x y = 0 := by unfold k_man; (repeat (first | rw [if_pos (by omega)] | rw [if_neg (by omega)])) <;> first | rfl | omega); rw [hk9]; show rk_ cy gr 0 (s_man σ x y) = rk_ cy gr 0 σ; unfold s_man; (repeat (first | rw [if_pos (by omega)] | rw [if_neg (by omega)])) <;> first | rfl | omega
              subst hAe
              exact W.zret (v := zz_i (0)) (ty := .boolean) hx hb hr (zz_narB (by omega)) (fun t ht hW => ⟨congrArg (fun z => Outcome.returned (some (Value.int (zz_i z)))) hv9.symm, ⟨(), trivial, by rw [ht, hw9]; exact hP, va_K.moved hW.alike hK, by rw [hw9]; exact hD⟩, hS.F ht⟩) hS.2.2 dX3_manual_78
        · refine lv_aload_n hx hb dX3_manual_43 rfl (lv_at hl 0 rfl) ?_
          refine va_get (D := D) (ci := 3) (v := .ref (gr 4)) (C := RX3) (T := TX3) (N := 23) hx hb hts hiX3 hown hK hP (0) rfl rfl 9 (by decide) hf24 (fun _ h9 => h9) rfl dX3_manual_44 ?_
          refine lv_iload_n hx hb dX3_manual_47 rfl (lv_at hl 1 rfl) ?_
          refine zz_iald hx hb hK hP 4 0 rfl rfl (show 0 ≤ x ∧ x < ((61 : Nat) : Int) by omega) (show 61 < 2147483648 by omega) dX3_manual_48 ?_
          refine lv_iconst (v := zz_i (5)) hx hb dX3_manual_49 rfl ?_
          refine zz_icmp_eq (tgt := 57) hx hb dX3_manual_50 (by decide) (by omega) (by omega) (fun c11 => ?_) (fun c11 => ?_)
          · refine lv_iconst (v := zz_i (0)) hx hb dX3_manual_57 rfl ?_
            refine va_put (D := D) (ci := 3) (v := .int (zz_i (0))) (ty := .int) (C := RX3) (T := TX3) (N := 23) hx hb hts hiX3 tyX3 tyX3_ok nmX3 hown hK hP hD hS (0) rfl rfl 0 (by decide) hf63 (fun _ h9 => h9) rfl (by decide +kernel) rfl rfl (Nat.le_of_ble_eq_true rfl) dX3_manual_58 (fun H locs hP hD hS => ?_)
            have hP : va_P D zz_cl (rk_ cy gr 0 σ) H := hP
            have hD : va_D A (rk_ cy gr 0 σ) := hD
            refine lv_aload_n hx hb dX3_manual_61 rfl (lv_at hl 0 rfl) ?_
            refine va_get (D := D) (ci := 3) (v := .int (zz_i (0))) (C := RX3) (T := TX3) (N := 23) hx hb hts hiX3 hown hK hP (0) rfl rfl 0 (by decide) hf63 (fun _ h9 => h9) rfl dX3_manual_62 ?_
            refine zz_if_gt (tgt := 77) hx hb dX3_manual_65 (by decide) (by omega) (fun c12 => ?_) (fun c12 => ?_)
            · exact absurd c12 (by omega)
            · refine lv_aload_n hx hb dX3_manual_68 rfl (lv_at hl 0 rfl) ?_
              have h11 := j12 y
              refine va_get (D := D) (ci := 3) (v := .ref (gr 2)) (C := RX3) (T := TX3) (N := 23) hx hb hts hiX3 hown hK hP (0) rfl rfl 6 (by decide) hf17 (fun _ h9 => h9) rfl dX3_manual_69 ?_
              refine lv_iload_n hx hb dX3_manual_72 rfl (lv_at hl 2 rfl) ?_
              refine zz_zald hx hb hK hP 2 1 rfl rfl (show 0 ≤ y ∧ y < ((7 : Nat) : Int) by omega) (show 7 < 2147483648 by omega) dX3_manual_73 ?_
              refine zz_if_eq (tgt := 79) hx hb dX3_manual_74 (by decide) (by omega) (fun c13 => ?_) (fun c13 => ?_)
              · refine lv_aload_n hx hb dX3_manual_79 rfl (lv_at hl 0 rfl) ?_
                refine va_get (D := D) (ci := 3) (v := .ref (gr 4)) (C := RX3) (T := TX3) (N := 23) hx hb hts hiX3 hown hK hP (0) rfl rfl 9 (by decide) hf24 (fun _ h9 => h9) rfl dX3_manual_80 ?_
                refine lv_iload_n hx hb dX3_manual_83 rfl (lv_at hl 1 rfl) ?_
                refine lv_iconst (v := zz_i (2)) hx hb dX3_manual_84 rfl ?_
                refine zz_iast hx hb hK hP hD hS 4 0 rfl rfl (show 0 ≤ x ∧ x < ((61 : Nat) : Int) by omega) (show 61 < 2147483648 by omega) dX3_manual_85 (fun H locs hP hD hS => ?_)
                have hP : va_P D zz_cl (rk_ cy gr 0 (up_a σ 13 (x) (2))) H := hP
                have hD : va_D A (rk_ cy gr 0 (up_a σ 13 (x) (2))) := hD
                refine lv_iconst (v := zz_i (1)) hx hb dX3_manual_86 rfl ?_
                have hv9 : an_ (k_man σ x y) (v_man σ y) = 1 := by (have hk9 : k_man σ x y = 0 := by unfold k_man; (repeat (first | rw [if_pos (by omega)] | rw [if_neg (by omega)])) <;> first | rfl | omega); rw [hk9]; show v_man σ y = 1; unfold v_man; (repeat (first | rw [if_pos (by omega)] | rw [if_neg (by omega)])) <;> first | rfl | omega
                have hw9 : rk_ cy gr (k_man σ x y) (nx_ (k_man σ x y) σ (s_man σ x y)) = rk_ cy gr 0 (up_a σ 13 (x) (2)) := by (have hk9 : k_man σ x y = 0 := by unfold k_man; (repeat (first | rw [if_pos (by omega)] | rw [if_neg (by omega)])) <;> first | rfl | omega); rw [hk9]; show rk_ cy gr 0 (s_man σ x y) = rk_ cy gr 0 (up_a σ 13 (x) (2)); unfold s_man; (repeat (first | rw [if_pos (by omega)] | rw [if_neg (by omega)])) <;> first | rfl | omega
                subst hAe
                exact W.zret (v := zz_i (1)) (ty := .boolean) hx hb hr (zz_narB (by omega)) (fun t ht hW => ⟨congrArg (fun z => Outcome.returned (some (Value.int (zz_i z)))) hv9.symm, ⟨(), trivial, by rw [ht, hw9]; exact hP, va_K.moved hW.alike hK, by rw [hw9]; exact hD⟩, hS.F ht⟩) hS.2.2 dX3_manual_87
              · refine lv_iconst (v := zz_i (0)) hx hb dX3_manual_77 rfl ?_
                have hv9 : an_ (k_man σ x y) (v_man σ y) = 0 := by (have hk9 : k_man σ x y = 0 := by unfold k_man; (repeat (first | rw [if_pos (by omega)] | rw [if_neg (by omega)])) <;> first | rfl | omega); rw [hk9]; show v_man σ y = 0; unfold v_man; (repeat (first | rw [if_pos (by omega)] | rw [if_neg (by omega)])) <;> first | rfl | omega
                have hw9 : rk_ cy gr (k_man σ x y) (nx_ (k_man σ x y) σ (s_man σ x y)) = rk_ cy gr 0 σ := by (have hk9 : k_man σ x y = 0 := by unfold k_man; (repeat (first | rw [if_pos (by omega)] | rw [if_neg (by omega)])) <;> first | rfl | omega); rw [hk9]; show rk_ cy gr 0 (s_man σ x y) = rk_ cy gr 0 σ; unfold s_man; (repeat (first | rw [if_pos (by omega)] | rw [if_neg (by omega)])) <;> first | rfl | omega
                subst hAe
                exact W.zret (v := zz_i (0)) (ty := .boolean) hx hb hr (zz_narB (by omega)) (fun t ht hW => ⟨congrArg (fun z => Outcome.returned (some (Value.int (zz_i z)))) hv9.symm, ⟨(), trivial, by rw [ht, hw9]; exact hP, va_K.moved hW.alike hK, by rw [hw9]; exact hD⟩, hS.F ht⟩) hS.2.2 dX3_manual_78
          · refine lv_iconst (v := zz_i (2)) hx hb dX3_manual_53 rfl ?_
            refine lv_goto (tgt := 58) hx hb dX3_manual_54 (by decide) ?_
            refine va_put (D := D) (ci := 3) (v := .int (zz_i (2))) (ty := .int) (C := RX3) (T := TX3) (N := 23) hx hb hts hiX3 tyX3 tyX3_ok nmX3 hown hK hP hD hS (0) rfl rfl 0 (by decide) hf63 (fun _ h9 => h9) rfl (by decide +kernel) rfl rfl (Nat.le_of_ble_eq_true rfl) dX3_manual_58 (fun H locs hP hD hS => ?_)
            have hP : va_P D zz_cl (rk_ cy gr 2 σ) H := hP
            have hD : va_D A (rk_ cy gr 2 σ) := hD
            refine lv_aload_n hx hb dX3_manual_61 rfl (lv_at hl 0 rfl) ?_
            refine va_get (D := D) (ci := 3) (v := .int (zz_i (2))) (C := RX3) (T := TX3) (N := 23) hx hb hts hiX3 hown hK hP (0) rfl rfl 0 (by decide) hf63 (fun _ h9 => h9) rfl dX3_manual_62 ?_
            refine zz_if_gt (tgt := 77) hx hb dX3_manual_65 (by decide) (by omega) (fun c14 => ?_) (fun c14 => ?_)
            · refine lv_iconst (v := zz_i (0)) hx hb dX3_manual_77 rfl ?_
              have hv9 : an_ (k_man σ x y) (v_man σ y) = 0 := by (have hk9 : k_man σ x y = 2 := by unfold k_man; (repeat (first | rw [if_pos (by omega)] | rw [if_neg (by omega)])) <;> first | rfl | omega); rw [hk9]; rfl
              have hw9 : rk_ cy gr (k_man σ x y) (nx_ (k_man σ x y) σ (s_man σ x y)) = rk_ cy gr 2 σ := by (have hk9 : k_man σ x y = 2 := by unfold k_man; (repeat (first | rw [if_pos (by omega)] | rw [if_neg (by omega)])) <;> first | rfl | omega); rw [hk9]; rfl
              subst hAe
              exact W.zret (v := zz_i (0)) (ty := .boolean) hx hb hr (zz_narB (by omega)) (fun t ht hW => ⟨congrArg (fun z => Outcome.returned (some (Value.int (zz_i z)))) hv9.symm, ⟨(), trivial, by rw [ht, hw9]; exact hP, va_K.moved hW.alike hK, by rw [hw9]; exact hD⟩, hS.F ht⟩) hS.2.2 dX3_manual_78
            · exact absurd c14 (by omega)
    · refine lv_iconst (v := zz_i (1)) hx hb dX3_manual_17 rfl ?_
      refine lv_goto (tgt := 22) hx hb dX3_manual_18 (by decide) ?_
      refine va_put (D := D) (ci := 3) (v := .int (zz_i (1))) (ty := .int) (C := RX3) (T := TX3) (N := 23) hx hb hts hiX3 tyX3 tyX3_ok nmX3 hown hK hP hD hS (0) rfl rfl 0 (by decide) hf63 (fun _ h9 => h9) rfl (by decide +kernel) rfl rfl (Nat.le_of_ble_eq_true rfl) dX3_manual_22 (fun H locs hP hD hS => ?_)
      have hP : va_P D zz_cl (rk_ cy gr 1 σ) H := hP
      have hD : va_D A (rk_ cy gr 1 σ) := hD
      refine lv_aload_n hx hb dX3_manual_25 rfl (lv_at hl 0 rfl) ?_
      refine va_get (D := D) (ci := 3) (v := .int (zz_i (1))) (C := RX3) (T := TX3) (N := 23) hx hb hts hiX3 hown hK hP (0) rfl rfl 0 (by decide) hf63 (fun _ h9 => h9) rfl dX3_manual_26 ?_
      refine zz_if_ne (tgt := 61) hx hb dX3_manual_29 (by decide) (by omega) (fun c15 => ?_) (fun c15 => ?_)
      · refine lv_aload_n hx hb dX3_manual_61 rfl (lv_at hl 0 rfl) ?_
        refine va_get (D := D) (ci := 3) (v := .int (zz_i (1))) (C := RX3) (T := TX3) (N := 23) hx hb hts hiX3 hown hK hP (0) rfl rfl 0 (by decide) hf63 (fun _ h9 => h9) rfl dX3_manual_62 ?_
        refine zz_if_gt (tgt := 77) hx hb dX3_manual_65 (by decide) (by omega) (fun c16 => ?_) (fun c16 => ?_)
        · refine lv_iconst (v := zz_i (0)) hx hb dX3_manual_77 rfl ?_
          have hv9 : an_ (k_man σ x y) (v_man σ y) = 0 := by (have hk9 : k_man σ x y = 1 := by unfold k_man; (repeat (first | rw [if_pos (by omega)] | rw [if_neg (by omega)])) <;> first | rfl | omega); rw [hk9]; rfl
          have hw9 : rk_ cy gr (k_man σ x y) (nx_ (k_man σ x y) σ (s_man σ x y)) = rk_ cy gr 1 σ := by (have hk9 : k_man σ x y = 1 := by unfold k_man; (repeat (first | rw [if_pos (by omega)] | rw [if_neg (by omega)])) <;> first | rfl | omega); rw [hk9]; rfl
          subst hAe
          exact W.zret (v := zz_i (0)) (ty := .boolean) hx hb hr (zz_narB (by omega)) (fun t ht hW => ⟨congrArg (fun z => Outcome.returned (some (Value.int (zz_i z)))) hv9.symm, ⟨(), trivial, by rw [ht, hw9]; exact hP, va_K.moved hW.alike hK, by rw [hw9]; exact hD⟩, hS.F ht⟩) hS.2.2 dX3_manual_78
        · exact absurd c16 (by omega)
      · exact absurd c15 (by omega)

set_option maxHeartbeats 4000000 in
set_option maxRecDepth 100000 in
theorem r_tray (l : Launch) (D : va_G) (cy gr : Nat → Nat) (kc : Int) (σ : zz_S) (sz : Nat) (hI : iv_ σ) (x : Int) (q_x : (-2147483648 ≤ x ∧ x < 2147483648)) : Met l yX3_tray wsX3_tray ({ frames := 1, cells := 0, slots := 0, locals := 22 }) (ct_P D cy [.ref (gr 0), .int (zz_i (x))] (rk_ cy gr kc σ) sz) (ct_Q D cy (rk_ cy gr kc σ) sz (some (.int (zz_i (an_ (k_tra σ x) (σ 10 x))))) (fun _ : Unit => True) (fun _ => rk_ cy gr (k_tra σ x) (nx_ (k_tra σ x) σ σ))) 0 0 (va_A (rk_ cy gr kc σ) sz) := by
  refine Met.ofW (cc := cX3_tray) (maxL := 2) (ret := (some .int)) (by decide) rfl ?_
  intro p e s m args below meth c s₁ B hml hv
  obtain ⟨rfl, rfl, hP, hK, hD0, hE⟩ := hv
  have hx := B.exec
  have hb := B.bytes
  have hr := B.returns
  have hts := atoms_spec (ws := wsX3_tray) B.pre
  have hown : s.vm.findClass RX3 = some m.cls := findClass_of_methodNamed B.named
  have hlocks := B.notSynchronized
  have hD := hD0.self (sz := s.heap.size)
  obtain ⟨A, hAe⟩ : ∃ A, A = va_A (rk_ cy gr kc σ) s.heap.size := ⟨_, rfl⟩
  rw [← hAe] at hD hE
  have hA : ∀ q : Nat, s.heap.size ≤ q → A q := fun q h => by rw [hAe]; exact Or.inr h
  have hS : va_S A s.heap s.heap [] := va_S.rf
  have hP : va_P D zz_cl (rk_ cy gr kc σ) s.heap := hP
  have hl := lv_entry ([.ref (gr 0), .int (zz_i (x))]) (n := 2) (Nat.le_of_ble_eq_true rfl)
  rw [lg_entry_eq]
  generalize (lg_sl ([.ref (gr 0), .int (zz_i (x))]) ++ List.replicate (2 - (lg_sl ([.ref (gr 0), .int (zz_i (x))])).length) Slot.unset).toArray = ls at hl ⊢
  have hl : lv_has ls 2 [(0, .ref (gr 0)), (1, .int (zz_i (x)))] := hl
  obtain ⟨⟨j1, j2, j3, j4, j5, j6, j7, j8, j9, j10⟩, j11, j12, j13, j14, j15, j16, j17, j18, j19, j20, j21, j22, j23, j24⟩ := id hI
  have hiX3 : ∀ w ∈ wsX30, w ∈ wsX3_tray := by decide +kernel
  have hf57 := hts (.fieldLink RX3 57 "SorterStepsModel" "trays" "I") (by decide +kernel)
  have hf63 := hts (.fieldLink RX3 63 "SorterStepsModel" "code" "I") (by decide +kernel)
  have hf13 := hts (.fieldLink RX3 13 "SorterStepsModel" "on" "[I") (by decide +kernel)
  refine lv_aload_n hx hb dX3_tray_0 rfl (lv_at hl 0 rfl) ?_
  refine lv_iload_n hx hb dX3_tray_1 rfl (lv_at hl 1 rfl) ?_
  refine lv_iconst (v := zz_i (0)) hx hb dX3_tray_2 rfl ?_
  refine lv_aload_n hx hb dX3_tray_3 rfl (lv_at hl 0 rfl) ?_
  refine va_get (D := D) (ci := 3) (v := .int (zz_i (σ 0 0))) (C := RX3) (T := TX3) (N := 23) hx hb hts hiX3 hown hK hP (0) rfl rfl 1 (by decide) hf57 (fun _ h9 => h9) rfl dX3_tray_4 ?_
  refine lv_iconst (v := zz_i (1)) hx hb dX3_tray_7 rfl ?_
  refine zz_isub hx hb dX3_tray_8 ?_
  refine zc_s (As := [.int (zz_i (x)), .int (zz_i (0)), .int (zz_i ((σ 0 0) - 1))]) (rest := [.ref (gr 0)]) (S := Unit) (pc := 9) ⟨hx, hb, hml, hown, hts⟩ (r_in l D cy (rk_ cy gr kc σ) _ (x) (0) ((σ 0 0) - 1) (by omega) (by omega) (by omega)) (va_cwS 3 hts gX3_tray_X3_in rfl rfl rfl (by decide +kernel) ⟨Nat.le_of_ble_eq_true rfl, Nat.le_of_ble_eq_true rfl⟩) hK hP hD hS hA hE rfl hl.1 rfl (Nat.le_of_ble_eq_true rfl) dX3_tray_9 ⟨Nat.le_of_ble_eq_true rfl, Nat.le_of_ble_eq_true rfl⟩ (fun _ H locs k1 hP hD hS => ?_)
  refine W.eq (g2 := F0 m 12 ls [.int (zz_i (sp_bt (x) (0) ((σ 0 0) - 1))), .ref (gr 0)]) rfl ?_
  have b1 := sp_bt_b (x) (0) ((σ 0 0) - 1)
  refine zz_if_eq (tgt := 19) hx hb dX3_tray_12 (by decide) (by omega) (fun c2 => ?_) (fun c2 => ?_)
  · refine lv_iconst (v := zz_i (1)) hx hb dX3_tray_19 rfl ?_
    refine va_put (D := D) (ci := 3) (v := .int (zz_i (1))) (ty := .int) (C := RX3) (T := TX3) (N := 23) hx hb hts hiX3 tyX3 tyX3_ok nmX3 hown hK hP hD hS (0) rfl rfl 0 (by decide) hf63 (fun _ h9 => h9) rfl (by decide +kernel) rfl rfl (Nat.le_of_ble_eq_true rfl) dX3_tray_20 (fun H locs hP hD hS => ?_)
    have hP : va_P D zz_cl (rk_ cy gr 1 σ) H := hP
    have hD : va_D A (rk_ cy gr 1 σ) := hD
    refine lv_aload_n hx hb dX3_tray_23 rfl (lv_at hl 0 rfl) ?_
    refine va_get (D := D) (ci := 3) (v := .int (zz_i (1))) (C := RX3) (T := TX3) (N := 23) hx hb hts hiX3 hown hK hP (0) rfl rfl 0 (by decide) hf63 (fun _ h9 => h9) rfl dX3_tray_24 ?_
    refine zz_if_le (tgt := 34) hx hb dX3_tray_27 (by decide) (by omega) (fun c3 => ?_) (fun c3 => ?_)
    · exact absurd c3 (by omega)
    · refine lv_iconst (v := zz_i (0)) hx hb dX3_tray_30 rfl ?_
      refine lv_goto (tgt := 40) hx hb dX3_tray_31 (by decide) ?_
      have hv9 : an_ (k_tra σ x) (σ 10 x) = 0 := by (have hk9 : k_tra σ x = 1 := by unfold k_tra; (repeat (first | rw [if_pos (by omega)] | rw [if_neg (by omega)])) <;> first | rfl | omega); rw [hk9]; rfl
      have hw9 : rk_ cy gr (k_tra σ x) (nx_ (k_tra σ x) σ σ) = rk_ cy gr 1 σ := by (have hk9 : k_tra σ x = 1 := by unfold k_tra; (repeat (first | rw [if_pos (by omega)] | rw [if_neg (by omega)])) <;> first | rfl | omega); rw [hk9]; rfl
      subst hAe
      exact W.iret (v := zz_i (0)) hx hb hr (fun t ht hW => ⟨congrArg (fun z => Outcome.returned (some (Value.int (zz_i z)))) hv9.symm, ⟨(), trivial, by rw [ht, hw9]; exact hP, va_K.moved hW.alike hK, by rw [hw9]; exact hD⟩, hS.F ht⟩) hS.2.2 dX3_tray_40
  · refine lv_iconst (v := zz_i (0)) hx hb dX3_tray_15 rfl ?_
    refine lv_goto (tgt := 20) hx hb dX3_tray_16 (by decide) ?_
    refine va_put (D := D) (ci := 3) (v := .int (zz_i (0))) (ty := .int) (C := RX3) (T := TX3) (N := 23) hx hb hts hiX3 tyX3 tyX3_ok nmX3 hown hK hP hD hS (0) rfl rfl 0 (by decide) hf63 (fun _ h9 => h9) rfl (by decide +kernel) rfl rfl (Nat.le_of_ble_eq_true rfl) dX3_tray_20 (fun H locs hP hD hS => ?_)
    have hP : va_P D zz_cl (rk_ cy gr 0 σ) H := hP
    have hD : va_D A (rk_ cy gr 0 σ) := hD
    refine lv_aload_n hx hb dX3_tray_23 rfl (lv_at hl 0 rfl) ?_
    refine va_get (D := D) (ci := 3) (v := .int (zz_i (0))) (C := RX3) (T := TX3) (N := 23) hx hb hts hiX3 hown hK hP (0) rfl rfl 0 (by decide) hf63 (fun _ h9 => h9) rfl dX3_tray_24 ?_
    refine zz_if_le (tgt := 34) hx hb dX3_tray_27 (by decide) (by omega) (fun c4 => ?_) (fun c4 => ?_)
    · refine lv_aload_n hx hb dX3_tray_34 rfl (lv_at hl 0 rfl) ?_
      refine va_get (D := D) (ci := 3) (v := .ref (gr 1)) (C := RX3) (T := TX3) (N := 23) hx hb hts hiX3 hown hK hP (0) rfl rfl 5 (by decide) hf13 (fun _ h9 => h9) rfl dX3_tray_35 ?_
      refine lv_iload_n hx hb dX3_tray_38 rfl (lv_at hl 1 rfl) ?_
      refine zz_iald hx hb hK hP 1 0 rfl rfl (show 0 ≤ x ∧ x < ((40 : Nat) : Int) by omega) (show 40 < 2147483648 by omega) dX3_tray_39 ?_
      have hv9 : an_ (k_tra σ x) (σ 10 x) = σ 10 x := by (have hk9 : k_tra σ x = 0 := by unfold k_tra; (repeat (first | rw [if_pos (by omega)] | rw [if_neg (by omega)])) <;> first | rfl | omega); rw [hk9]; show σ 10 x = σ 10 x; rfl
      have hw9 : rk_ cy gr (k_tra σ x) (nx_ (k_tra σ x) σ σ) = rk_ cy gr 0 σ := by (have hk9 : k_tra σ x = 0 := by unfold k_tra; (repeat (first | rw [if_pos (by omega)] | rw [if_neg (by omega)])) <;> first | rfl | omega); rw [hk9]; show rk_ cy gr 0 σ = rk_ cy gr 0 σ; rfl
      subst hAe
      exact W.iret (v := zz_i (σ 10 x)) hx hb hr (fun t ht hW => ⟨congrArg (fun z => Outcome.returned (some (Value.int (zz_i z)))) hv9.symm, ⟨(), trivial, by rw [ht, hw9]; exact hP, va_K.moved hW.alike hK, by rw [hw9]; exact hD⟩, hS.F ht⟩) hS.2.2 dX3_tray_40
    · exact absurd c4 (by omega)

set_option maxHeartbeats 4000000 in
set_option maxRecDepth 100000 in
theorem r_doubt (l : Launch) (D : va_G) (cy gr : Nat → Nat) (kc : Int) (σ : zz_S) (sz : Nat) (hI : iv_ σ) (x : Int) (q_x : (-2147483648 ≤ x ∧ x < 2147483648)) : Met l yX3_doubt wsX3_doubt ({ frames := 1, cells := 0, slots := 0, locals := 22 }) (ct_P D cy [.ref (gr 0), .int (zz_i (x))] (rk_ cy gr kc σ) sz) (ct_Q D cy (rk_ cy gr kc σ) sz (some (.int (zz_i (v_dou σ x)))) (fun _ : Unit => True) (fun _ => rk_ cy gr 0 σ)) 0 0 (va_A (rk_ cy gr kc σ) sz) := by
  refine Met.ofW (cc := cX3_doubt) (maxL := 2) (ret := (some .int)) (by decide) rfl ?_
  intro p e s m args below meth c s₁ B hml hv
  obtain ⟨rfl, rfl, hP, hK, hD0, hE⟩ := hv
  have hx := B.exec
  have hb := B.bytes
  have hr := B.returns
  have hts := atoms_spec (ws := wsX3_doubt) B.pre
  have hown : s.vm.findClass RX3 = some m.cls := findClass_of_methodNamed B.named
  have hlocks := B.notSynchronized
  have hD := hD0.self (sz := s.heap.size)
  obtain ⟨A, hAe⟩ : ∃ A, A = va_A (rk_ cy gr kc σ) s.heap.size := ⟨_, rfl⟩
  rw [← hAe] at hD hE
  have hA : ∀ q : Nat, s.heap.size ≤ q → A q := fun q h => by rw [hAe]; exact Or.inr h
  have hS : va_S A s.heap s.heap [] := va_S.rf
  have hP : va_P D zz_cl (rk_ cy gr kc σ) s.heap := hP
  have hl := lv_entry ([.ref (gr 0), .int (zz_i (x))]) (n := 2) (Nat.le_of_ble_eq_true rfl)
  rw [lg_entry_eq]
  generalize (lg_sl ([.ref (gr 0), .int (zz_i (x))]) ++ List.replicate (2 - (lg_sl ([.ref (gr 0), .int (zz_i (x))])).length) Slot.unset).toArray = ls at hl ⊢
  have hl : lv_has ls 2 [(0, .ref (gr 0)), (1, .int (zz_i (x)))] := hl
  obtain ⟨⟨j1, j2, j3, j4, j5, j6, j7, j8, j9, j10⟩, j11, j12, j13, j14, j15, j16, j17, j18, j19, j20, j21, j22, j23, j24⟩ := id hI
  have hiX3 : ∀ w ∈ wsX30, w ∈ wsX3_doubt := by decide +kernel
  have hf63 := hts (.fieldLink RX3 63 "SorterStepsModel" "code" "I") (by decide +kernel)
  have hf112 := hts (.fieldLink RX3 112 "SorterStepsModel" "doubts" "I") (by decide +kernel)
  have hf51 := hts (.fieldLink RX3 51 "SorterStepsModel" "doubted" "[I") (by decide +kernel)
  refine lv_aload_n hx hb dX3_doubt_0 rfl (lv_at hl 0 rfl) ?_
  refine lv_iconst (v := zz_i (0)) hx hb dX3_doubt_1 rfl ?_
  refine va_put (D := D) (ci := 3) (v := .int (zz_i (0))) (ty := .int) (C := RX3) (T := TX3) (N := 23) hx hb hts hiX3 tyX3 tyX3_ok nmX3 hown hK hP hD hS (0) rfl rfl 0 (by decide) hf63 (fun _ h9 => h9) rfl (by decide +kernel) rfl rfl (Nat.le_of_ble_eq_true rfl) dX3_doubt_2 (fun H locs hP hD hS => ?_)
  have hP : va_P D zz_cl (rk_ cy gr 0 σ) H := hP
  have hD : va_D A (rk_ cy gr 0 σ) := hD
  refine lv_iload_n hx hb dX3_doubt_5 rfl (lv_at hl 1 rfl) ?_
  refine lv_iconst (v := zz_i (0)) hx hb dX3_doubt_6 rfl ?_
  refine lv_aload_n hx hb dX3_doubt_7 rfl (lv_at hl 0 rfl) ?_
  refine va_get (D := D) (ci := 3) (v := .int (zz_i (σ 7 0))) (C := RX3) (T := TX3) (N := 23) hx hb hts hiX3 hown hK hP (0) rfl rfl 20 (by decide) hf112 (fun _ h9 => h9) rfl dX3_doubt_8 ?_
  refine lv_iconst (v := zz_i (1)) hx hb dX3_doubt_11 rfl ?_
  refine zz_isub hx hb dX3_doubt_12 ?_
  refine zc_s (As := [.int (zz_i (x)), .int (zz_i (0)), .int (zz_i ((σ 7 0) - 1))]) (rest := []) (S := Unit) (pc := 13) ⟨hx, hb, hml, hown, hts⟩ (r_in l D cy (rk_ cy gr 0 σ) _ (x) (0) ((σ 7 0) - 1) (by omega) (by omega) (by omega)) (va_cwS 3 hts gX3_doubt_X3_in rfl rfl rfl (by decide +kernel) ⟨Nat.le_of_ble_eq_true rfl, Nat.le_of_ble_eq_true rfl⟩) hK hP hD hS hA hE rfl hl.1 rfl (Nat.le_of_ble_eq_true rfl) dX3_doubt_13 ⟨Nat.le_of_ble_eq_true rfl, Nat.le_of_ble_eq_true rfl⟩ (fun _ H locs k1 hP hD hS => ?_)
  refine W.eq (g2 := F0 m 16 ls [.int (zz_i (sp_bt (x) (0) ((σ 7 0) - 1)))]) rfl ?_
  have b1 := sp_bt_b (x) (0) ((σ 7 0) - 1)
  refine zz_if_eq (tgt := 28) hx hb dX3_doubt_16 (by decide) (by omega) (fun c2 => ?_) (fun c2 => ?_)
  · refine lv_iconst (v := zz_i (-1)) hx hb dX3_doubt_28 rfl ?_
    have hv9 : v_dou σ x = -1 := by unfold v_dou; (repeat (first | rw [if_pos (by omega)] | rw [if_neg (by omega)])) <;> first | rfl | omega
    have hw9 : rk_ cy gr 0 σ = rk_ cy gr 0 σ := by rfl
    subst hAe
    exact W.iret (v := zz_i (-1)) hx hb hr (fun t ht hW => ⟨congrArg (fun z => Outcome.returned (some (Value.int (zz_i z)))) hv9.symm, ⟨(), trivial, by rw [ht, hw9]; exact hP, va_K.moved hW.alike hK, by rw [hw9]; exact hD⟩, hS.F ht⟩) hS.2.2 dX3_doubt_29
  · refine lv_aload_n hx hb dX3_doubt_19 rfl (lv_at hl 0 rfl) ?_
    refine va_get (D := D) (ci := 3) (v := .ref (gr 13)) (C := RX3) (T := TX3) (N := 23) hx hb hts hiX3 hown hK hP (0) rfl rfl 21 (by decide) hf51 (fun _ h9 => h9) rfl dX3_doubt_20 ?_
    refine lv_iload_n hx hb dX3_doubt_23 rfl (lv_at hl 1 rfl) ?_
    refine zz_iald hx hb hK hP 13 0 rfl rfl (show 0 ≤ x ∧ x < ((40 : Nat) : Int) by omega) (show 40 < 2147483648 by omega) dX3_doubt_24 ?_
    refine lv_goto (tgt := 29) hx hb dX3_doubt_25 (by decide) ?_
    have hv9 : v_dou σ x = σ 27 x := by unfold v_dou; (repeat (first | rw [if_pos (by omega)] | rw [if_neg (by omega)])) <;> first | rfl | omega
    have hw9 : rk_ cy gr 0 σ = rk_ cy gr 0 σ := by rfl
    subst hAe
    exact W.iret (v := zz_i (σ 27 x)) hx hb hr (fun t ht hW => ⟨congrArg (fun z => Outcome.returned (some (Value.int (zz_i z)))) hv9.symm, ⟨(), trivial, by rw [ht, hw9]; exact hP, va_K.moved hW.alike hK, by rw [hw9]; exact hD⟩, hS.F ht⟩) hS.2.2 dX3_doubt_29
end
