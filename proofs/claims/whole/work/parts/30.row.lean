section
set_option maxHeartbeats 4000000 in
set_option maxRecDepth 100000 in
theorem c_size_it (l : Launch) (D : va_G) (cy ga : Nat → Nat) (ad : Int → Nat) (σ : zz_S) (sz : Nat) : Met l yX1_size wsX1_size ({ frames := 0, cells := 0, slots := 0, locals := 0 }) (ct_P D cy [.ref (ga 3)] (cw_ cy ga ad σ) sz) (ct_Q D cy (cw_ cy ga ad σ) sz (some (.int (zz_i (σ 4 0)))) (fun _ : Unit => True) (fun _ => cw_ cy ga ad σ)) 0 0 (va_A (cw_ cy ga ad σ) sz) := by
  refine Met.ofW (cc := cX1_size) (maxL := 1) (ret := (some .int)) (by decide) rfl ?_
  intro p e s m args below meth c s₁ B hml hv
  obtain ⟨rfl, rfl, hP, hK, hD0, hE⟩ := hv
  have hx := B.exec
  have hb := B.bytes
  have hr := B.returns
  have hts := atoms_spec (ws := wsX1_size) B.pre
  have hown : s.vm.findClass RX1 = some m.cls := findClass_of_methodNamed B.named
  have hlocks := B.notSynchronized
  have hD := hD0.self (sz := s.heap.size)
  obtain ⟨A, hAe⟩ : ∃ A, A = va_A (cw_ cy ga ad σ) s.heap.size := ⟨_, rfl⟩
  rw [← hAe] at hD hE
  have hA : ∀ q : Nat, s.heap.size ≤ q → A q := fun q h => by rw [hAe]; exact Or.inr h
  have hS : va_S A s.heap s.heap [] := va_S.rf
  have hP : va_P D zz_cl (cw_ cy ga ad σ) s.heap := hP
  have hl := lv_entry ([.ref (ga 3)]) (n := 1) (Nat.le_of_ble_eq_true rfl)
  rw [lg_entry_eq]
  generalize (lg_sl ([.ref (ga 3)]) ++ List.replicate (1 - (lg_sl ([.ref (ga 3)])).length) Slot.unset).toArray = ls at hl ⊢
  have hl : lv_has ls 1 [(0, .ref (ga 3))] := hl
  have hiX1 : ∀ w ∈ wsX10, w ∈ wsX1_size := by decide +kernel
  have hf21 := hts (.fieldLink RX1 21 "SorterSteps$ItemRow" "size" "I") (by decide +kernel)
  refine lv_aload_n hx hb dX1_size_0 rfl (lv_at hl 0 rfl) ?_
  refine va_get (D := D) (ci := 1) (v := .int (zz_i (σ 4 0))) (C := RX1) (T := TX1) (N := 2) hx hb hts hiX1 hown hK hP (3) rfl rfl 1 (by decide) hf21 (fun _ h9 => h9) rfl dX1_size_1 ?_
  have hv9 : σ 4 0 = σ 4 0 := by rfl
  have hw9 : cw_ cy ga ad σ = cw_ cy ga ad σ := by rfl
  subst hAe
  exact W.iret (v := zz_i (σ 4 0)) hx hb hr (fun t ht hW => ⟨congrArg (fun z => Outcome.returned (some (Value.int (zz_i z)))) hv9.symm, ⟨(), trivial, by rw [ht, hw9]; exact hP, va_K.moved hW.alike hK, by rw [hw9]; exact hD⟩, hS.F ht⟩) hS.2.2 dX1_size_4

set_option maxHeartbeats 4000000 in
set_option maxRecDepth 100000 in
theorem c_filled_it (l : Launch) (D : va_G) (cy ga : Nat → Nat) (ad : Int → Nat) (σ : zz_S) (sz : Nat) (hI : iw_ σ) : Met l yX1_isFilled wsX1_isFilled ({ frames := 0, cells := 0, slots := 0, locals := 0 }) (ct_P D cy [.ref (ga 3)] (cw_ cy ga ad σ) sz) (ct_Q D cy (cw_ cy ga ad σ) sz (some (.int (zz_i (sp_fl σ 4 60)))) (fun _ : Unit => True) (fun _ => cw_ cy ga ad σ)) 0 0 (va_A (cw_ cy ga ad σ) sz) := by
  refine Met.ofW (cc := cX1_isFilled) (maxL := 1) (ret := (some .boolean)) (by decide) rfl ?_
  intro p e s m args below meth c s₁ B hml hv
  obtain ⟨rfl, rfl, hP, hK, hD0, hE⟩ := hv
  have hx := B.exec
  have hb := B.bytes
  have hr := B.returns
  have hts := atoms_spec (ws := wsX1_isFilled) B.pre
  have hown : s.vm.findClass RX1 = some m.cls := findClass_of_methodNamed B.named
  have hlocks := B.notSynchronized
  have hD := hD0.self (sz := s.heap.size)
  obtain ⟨A, hAe⟩ : ∃ A, A = va_A (cw_ cy ga ad σ) s.heap.size := ⟨_, rfl⟩
  rw [← hAe] at hD hE
  have hA : ∀ q : Nat, s.heap.size ≤ q → A q := fun q h => by rw [hAe]; exact Or.inr h
  have hS : va_S A s.heap s.heap [] := va_S.rf
  have hP : va_P D zz_cl (cw_ cy ga ad σ) s.heap := hP
  have hl := lv_entry ([.ref (ga 3)]) (n := 1) (Nat.le_of_ble_eq_true rfl)
  rw [lg_entry_eq]
  generalize (lg_sl ([.ref (ga 3)]) ++ List.replicate (1 - (lg_sl ([.ref (ga 3)])).length) Slot.unset).toArray = ls at hl ⊢
  have hl : lv_has ls 1 [(0, .ref (ga 3))] := hl
  obtain ⟨j1, j2, j3, j4, j5, j6, j7, j8, j9, j10⟩ := id hI
  have hiX1 : ∀ w ∈ wsX10, w ∈ wsX1_isFilled := by decide +kernel
  have hf21 := hts (.fieldLink RX1 21 "SorterSteps$ItemRow" "size" "I") (by decide +kernel)
  have hf15 := hts (.fieldLink RX1 15 "SorterSteps$ItemRow" "places" "[LSorterSteps$Item;") (by decide +kernel)
  refine lv_aload_n hx hb dX1_isFilled_0 rfl (lv_at hl 0 rfl) ?_
  refine va_get (D := D) (ci := 1) (v := .int (zz_i (σ 4 0))) (C := RX1) (T := TX1) (N := 2) hx hb hts hiX1 hown hK hP (3) rfl rfl 1 (by decide) hf21 (fun _ h9 => h9) rfl dX1_isFilled_1 ?_
  refine lv_aload_n hx hb dX1_isFilled_4 rfl (lv_at hl 0 rfl) ?_
  refine va_get (D := D) (ci := 1) (v := .ref (ga 6)) (C := RX1) (T := TX1) (N := 2) hx hb hts hiX1 hown hK hP (3) rfl rfl 0 (by decide) hf15 (fun _ h9 => h9) rfl dX1_isFilled_5 ?_
  refine va_alen hx hb hK hP 6 2 rfl rfl (v := zz_i (60)) rfl dX1_isFilled_8 ?_
  refine zz_icmp_lt (tgt := 16) hx hb dX1_isFilled_9 (by decide) (by omega) (by omega) (fun c1 => ?_) (fun c1 => ?_)
  · refine lv_iconst (v := zz_i (0)) hx hb dX1_isFilled_16 rfl ?_
    have hv9 : sp_fl σ 4 60 = 0 := by unfold sp_fl; (repeat (first | rw [if_pos (by omega)] | rw [if_neg (by omega)])) <;> first | rfl | omega
    have hw9 : cw_ cy ga ad σ = cw_ cy ga ad σ := by rfl
    subst hAe
    exact W.zret (v := zz_i (0)) (ty := .boolean) hx hb hr (zz_narB (by omega)) (fun t ht hW => ⟨congrArg (fun z => Outcome.returned (some (Value.int (zz_i z)))) hv9.symm, ⟨(), trivial, by rw [ht, hw9]; exact hP, va_K.moved hW.alike hK, by rw [hw9]; exact hD⟩, hS.F ht⟩) hS.2.2 dX1_isFilled_17
  · refine lv_iconst (v := zz_i (1)) hx hb dX1_isFilled_12 rfl ?_
    refine lv_goto (tgt := 17) hx hb dX1_isFilled_13 (by decide) ?_
    have hv9 : sp_fl σ 4 60 = 1 := by unfold sp_fl; (repeat (first | rw [if_pos (by omega)] | rw [if_neg (by omega)])) <;> first | rfl | omega
    have hw9 : cw_ cy ga ad σ = cw_ cy ga ad σ := by rfl
    subst hAe
    exact W.zret (v := zz_i (1)) (ty := .boolean) hx hb hr (zz_narB (by omega)) (fun t ht hW => ⟨congrArg (fun z => Outcome.returned (some (Value.int (zz_i z)))) hv9.symm, ⟨(), trivial, by rw [ht, hw9]; exact hP, va_K.moved hW.alike hK, by rw [hw9]; exact hD⟩, hS.F ht⟩) hS.2.2 dX1_isFilled_17

set_option maxHeartbeats 4000000 in
set_option maxRecDepth 100000 in
theorem c_at_it (l : Launch) (D : va_G) (cy ga : Nat → Nat) (ad : Int → Nat) (σ : zz_S) (sz : Nat) (hI : iw_ σ) (x : Int) (q_x : (-2147483648 ≤ x ∧ x < 2147483648)) : Met l yX1_at wsX1_at ({ frames := 0, cells := 0, slots := 0, locals := 0 }) (ct_P D cy [.ref (ga 3), .int (zz_i (x))] (cw_ cy ga ad σ) sz) (ct_Q D cy (cw_ cy ga ad σ) sz (some (va_rf (aq_ ad (sp_ai σ x)))) (fun _ : Unit => True) (fun _ => cw_ cy ga ad σ)) 0 0 (va_A (cw_ cy ga ad σ) sz) := by
  refine Met.ofW (cc := cX1_at) (maxL := 2) (ret := (some (.object "SorterSteps$Item"))) (by decide) rfl ?_
  intro p e s m args below meth c s₁ B hml hv
  obtain ⟨rfl, rfl, hP, hK, hD0, hE⟩ := hv
  have hx := B.exec
  have hb := B.bytes
  have hr := B.returns
  have hts := atoms_spec (ws := wsX1_at) B.pre
  have hown : s.vm.findClass RX1 = some m.cls := findClass_of_methodNamed B.named
  have hlocks := B.notSynchronized
  have hD := hD0.self (sz := s.heap.size)
  obtain ⟨A, hAe⟩ : ∃ A, A = va_A (cw_ cy ga ad σ) s.heap.size := ⟨_, rfl⟩
  rw [← hAe] at hD hE
  have hA : ∀ q : Nat, s.heap.size ≤ q → A q := fun q h => by rw [hAe]; exact Or.inr h
  have hS : va_S A s.heap s.heap [] := va_S.rf
  have hP : va_P D zz_cl (cw_ cy ga ad σ) s.heap := hP
  have hl := lv_entry ([.ref (ga 3), .int (zz_i (x))]) (n := 2) (Nat.le_of_ble_eq_true rfl)
  rw [lg_entry_eq]
  generalize (lg_sl ([.ref (ga 3), .int (zz_i (x))]) ++ List.replicate (2 - (lg_sl ([.ref (ga 3), .int (zz_i (x))])).length) Slot.unset).toArray = ls at hl ⊢
  have hl : lv_has ls 2 [(0, .ref (ga 3)), (1, .int (zz_i (x)))] := hl
  obtain ⟨j1, j2, j3, j4, j5, j6, j7, j8, j9, j10⟩ := id hI
  have hiX1 : ∀ w ∈ wsX10, w ∈ wsX1_at := by decide +kernel
  have hf21 := hts (.fieldLink RX1 21 "SorterSteps$ItemRow" "size" "I") (by decide +kernel)
  have hf15 := hts (.fieldLink RX1 15 "SorterSteps$ItemRow" "places" "[LSorterSteps$Item;") (by decide +kernel)
  refine lv_iload_n hx hb dX1_at_0 rfl (lv_at hl 1 rfl) ?_
  refine zz_if_lt (tgt := 21) hx hb dX1_at_1 (by decide) (by omega) (fun c1 => ?_) (fun c1 => ?_)
  · refine lv_null hx hb dX1_at_21 ?_
    have hv9 : sp_ai σ x = 0 := by unfold sp_ai; (repeat (first | rw [if_pos (by omega)] | rw [if_neg (by omega)])) <;> first | rfl | omega
    have hw9 : cw_ cy ga ad σ = cw_ cy ga ad σ := by rfl
    subst hAe
    exact W.aret (v := .null) hx hb hr (Or.inl ⟨_, rfl⟩) (Or.inl rfl) (fun t ht hW => ⟨by rw [hv9]; exact congrArg (fun z => Outcome.returned (some z)) rfl, ⟨(), trivial, by rw [ht, hw9]; exact hP, va_K.moved hW.alike hK, by rw [hw9]; exact hD⟩, hS.F ht⟩) hS.2.2 dX1_at_22
  · refine lv_iload_n hx hb dX1_at_4 rfl (lv_at hl 1 rfl) ?_
    refine lv_aload_n hx hb dX1_at_5 rfl (lv_at hl 0 rfl) ?_
    refine va_get (D := D) (ci := 1) (v := .int (zz_i (σ 4 0))) (C := RX1) (T := TX1) (N := 2) hx hb hts hiX1 hown hK hP (3) rfl rfl 1 (by decide) hf21 (fun _ h9 => h9) rfl dX1_at_6 ?_
    refine zz_icmp_ge (tgt := 21) hx hb dX1_at_9 (by decide) (by omega) (by omega) (fun c2 => ?_) (fun c2 => ?_)
    · refine lv_null hx hb dX1_at_21 ?_
      have hv9 : sp_ai σ x = 0 := by unfold sp_ai; (repeat (first | rw [if_pos (by omega)] | rw [if_neg (by omega)])) <;> first | rfl | omega
      have hw9 : cw_ cy ga ad σ = cw_ cy ga ad σ := by rfl
      subst hAe
      exact W.aret (v := .null) hx hb hr (Or.inl ⟨_, rfl⟩) (Or.inl rfl) (fun t ht hW => ⟨by rw [hv9]; exact congrArg (fun z => Outcome.returned (some z)) rfl, ⟨(), trivial, by rw [ht, hw9]; exact hP, va_K.moved hW.alike hK, by rw [hw9]; exact hD⟩, hS.F ht⟩) hS.2.2 dX1_at_22
    · refine lv_aload_n hx hb dX1_at_12 rfl (lv_at hl 0 rfl) ?_
      refine va_get (D := D) (ci := 1) (v := .ref (ga 6)) (C := RX1) (T := TX1) (N := 2) hx hb hts hiX1 hown hK hP (3) rfl rfl 0 (by decide) hf15 (fun _ h9 => h9) rfl dX1_at_13 ?_
      refine lv_iload_n hx hb dX1_at_16 rfl (lv_at hl 1 rfl) ?_
      refine zz_aaldI hx hb hK hP 6 2 rfl rfl (by omega) (by omega) dX1_at_17 ?_
      refine lv_goto (tgt := 22) hx hb dX1_at_18 (by decide) ?_
      have hv9 : sp_ai σ x = x + 1 := by unfold sp_ai; (repeat (first | rw [if_pos (by omega)] | rw [if_neg (by omega)])) <;> first | rfl | omega
      have hw9 : cw_ cy ga ad σ = cw_ cy ga ad σ := by rfl
      subst hAe
      exact W.aret (v := .ref (ad (x + 1))) hx hb hr (Or.inl ⟨_, rfl⟩) (Or.inr ⟨_, rfl⟩) (fun t ht hW => ⟨by rw [hv9]; exact congrArg (fun z => Outcome.returned (some z)) (by rw [aq_n (by omega)]; rfl), ⟨(), trivial, by rw [ht, hw9]; exact hP, va_K.moved hW.alike hK, by rw [hw9]; exact hD⟩, hS.F ht⟩) hS.2.2 dX1_at_22

set_option maxHeartbeats 4000000 in
set_option maxRecDepth 100000 in
theorem c_size_lf (l : Launch) (D : va_G) (cy ga : Nat → Nat) (ad : Int → Nat) (σ : zz_S) (sz : Nat) : Met l yX1_size wsX1_size ({ frames := 0, cells := 0, slots := 0, locals := 0 }) (ct_P D cy [.ref (ga 4)] (cw_ cy ga ad σ) sz) (ct_Q D cy (cw_ cy ga ad σ) sz (some (.int (zz_i (σ 5 0)))) (fun _ : Unit => True) (fun _ => cw_ cy ga ad σ)) 0 0 (va_A (cw_ cy ga ad σ) sz) := by
  refine Met.ofW (cc := cX1_size) (maxL := 1) (ret := (some .int)) (by decide) rfl ?_
  intro p e s m args below meth c s₁ B hml hv
  obtain ⟨rfl, rfl, hP, hK, hD0, hE⟩ := hv
  have hx := B.exec
  have hb := B.bytes
  have hr := B.returns
  have hts := atoms_spec (ws := wsX1_size) B.pre
  have hown : s.vm.findClass RX1 = some m.cls := findClass_of_methodNamed B.named
  have hlocks := B.notSynchronized
  have hD := hD0.self (sz := s.heap.size)
  obtain ⟨A, hAe⟩ : ∃ A, A = va_A (cw_ cy ga ad σ) s.heap.size := ⟨_, rfl⟩
  rw [← hAe] at hD hE
  have hA : ∀ q : Nat, s.heap.size ≤ q → A q := fun q h => by rw [hAe]; exact Or.inr h
  have hS : va_S A s.heap s.heap [] := va_S.rf
  have hP : va_P D zz_cl (cw_ cy ga ad σ) s.heap := hP
  have hl := lv_entry ([.ref (ga 4)]) (n := 1) (Nat.le_of_ble_eq_true rfl)
  rw [lg_entry_eq]
  generalize (lg_sl ([.ref (ga 4)]) ++ List.replicate (1 - (lg_sl ([.ref (ga 4)])).length) Slot.unset).toArray = ls at hl ⊢
  have hl : lv_has ls 1 [(0, .ref (ga 4))] := hl
  have hiX1 : ∀ w ∈ wsX10, w ∈ wsX1_size := by decide +kernel
  have hf21 := hts (.fieldLink RX1 21 "SorterSteps$ItemRow" "size" "I") (by decide +kernel)
  refine lv_aload_n hx hb dX1_size_0 rfl (lv_at hl 0 rfl) ?_
  refine va_get (D := D) (ci := 1) (v := .int (zz_i (σ 5 0))) (C := RX1) (T := TX1) (N := 2) hx hb hts hiX1 hown hK hP (4) rfl rfl 1 (by decide) hf21 (fun _ h9 => h9) rfl dX1_size_1 ?_
  have hv9 : σ 5 0 = σ 5 0 := by rfl
  have hw9 : cw_ cy ga ad σ = cw_ cy ga ad σ := by rfl
  subst hAe
  exact W.iret (v := zz_i (σ 5 0)) hx hb hr (fun t ht hW => ⟨congrArg (fun z => Outcome.returned (some (Value.int (zz_i z)))) hv9.symm, ⟨(), trivial, by rw [ht, hw9]; exact hP, va_K.moved hW.alike hK, by rw [hw9]; exact hD⟩, hS.F ht⟩) hS.2.2 dX1_size_4

set_option maxHeartbeats 4000000 in
set_option maxRecDepth 100000 in
theorem c_filled_lf (l : Launch) (D : va_G) (cy ga : Nat → Nat) (ad : Int → Nat) (σ : zz_S) (sz : Nat) (hI : iw_ σ) : Met l yX1_isFilled wsX1_isFilled ({ frames := 0, cells := 0, slots := 0, locals := 0 }) (ct_P D cy [.ref (ga 4)] (cw_ cy ga ad σ) sz) (ct_Q D cy (cw_ cy ga ad σ) sz (some (.int (zz_i (sp_fl σ 5 60)))) (fun _ : Unit => True) (fun _ => cw_ cy ga ad σ)) 0 0 (va_A (cw_ cy ga ad σ) sz) := by
  refine Met.ofW (cc := cX1_isFilled) (maxL := 1) (ret := (some .boolean)) (by decide) rfl ?_
  intro p e s m args below meth c s₁ B hml hv
  obtain ⟨rfl, rfl, hP, hK, hD0, hE⟩ := hv
  have hx := B.exec
  have hb := B.bytes
  have hr := B.returns
  have hts := atoms_spec (ws := wsX1_isFilled) B.pre
  have hown : s.vm.findClass RX1 = some m.cls := findClass_of_methodNamed B.named
  have hlocks := B.notSynchronized
  have hD := hD0.self (sz := s.heap.size)
  obtain ⟨A, hAe⟩ : ∃ A, A = va_A (cw_ cy ga ad σ) s.heap.size := ⟨_, rfl⟩
  rw [← hAe] at hD hE
  have hA : ∀ q : Nat, s.heap.size ≤ q → A q := fun q h => by rw [hAe]; exact Or.inr h
  have hS : va_S A s.heap s.heap [] := va_S.rf
  have hP : va_P D zz_cl (cw_ cy ga ad σ) s.heap := hP
  have hl := lv_entry ([.ref (ga 4)]) (n := 1) (Nat.le_of_ble_eq_true rfl)
  rw [lg_entry_eq]
  generalize (lg_sl ([.ref (ga 4)]) ++ List.replicate (1 - (lg_sl ([.ref (ga 4)])).length) Slot.unset).toArray = ls at hl ⊢
  have hl : lv_has ls 1 [(0, .ref (ga 4))] := hl
  obtain ⟨j1, j2, j3, j4, j5, j6, j7, j8, j9, j10⟩ := id hI
  have hiX1 : ∀ w ∈ wsX10, w ∈ wsX1_isFilled := by decide +kernel
  have hf21 := hts (.fieldLink RX1 21 "SorterSteps$ItemRow" "size" "I") (by decide +kernel)
  have hf15 := hts (.fieldLink RX1 15 "SorterSteps$ItemRow" "places" "[LSorterSteps$Item;") (by decide +kernel)
  refine lv_aload_n hx hb dX1_isFilled_0 rfl (lv_at hl 0 rfl) ?_
  refine va_get (D := D) (ci := 1) (v := .int (zz_i (σ 5 0))) (C := RX1) (T := TX1) (N := 2) hx hb hts hiX1 hown hK hP (4) rfl rfl 1 (by decide) hf21 (fun _ h9 => h9) rfl dX1_isFilled_1 ?_
  refine lv_aload_n hx hb dX1_isFilled_4 rfl (lv_at hl 0 rfl) ?_
  refine va_get (D := D) (ci := 1) (v := .ref (ga 7)) (C := RX1) (T := TX1) (N := 2) hx hb hts hiX1 hown hK hP (4) rfl rfl 0 (by decide) hf15 (fun _ h9 => h9) rfl dX1_isFilled_5 ?_
  refine va_alen hx hb hK hP 7 2 rfl rfl (v := zz_i (60)) rfl dX1_isFilled_8 ?_
  refine zz_icmp_lt (tgt := 16) hx hb dX1_isFilled_9 (by decide) (by omega) (by omega) (fun c1 => ?_) (fun c1 => ?_)
  · refine lv_iconst (v := zz_i (0)) hx hb dX1_isFilled_16 rfl ?_
    have hv9 : sp_fl σ 5 60 = 0 := by unfold sp_fl; (repeat (first | rw [if_pos (by omega)] | rw [if_neg (by omega)])) <;> first | rfl | omega
    have hw9 : cw_ cy ga ad σ = cw_ cy ga ad σ := by rfl
    subst hAe
    exact W.zret (v := zz_i (0)) (ty := .boolean) hx hb hr (zz_narB (by omega)) (fun t ht hW => ⟨congrArg (fun z => Outcome.returned (some (Value.int (zz_i z)))) hv9.symm, ⟨(), trivial, by rw [ht, hw9]; exact hP, va_K.moved hW.alike hK, by rw [hw9]; exact hD⟩, hS.F ht⟩) hS.2.2 dX1_isFilled_17
  · refine lv_iconst (v := zz_i (1)) hx hb dX1_isFilled_12 rfl ?_
    refine lv_goto (tgt := 17) hx hb dX1_isFilled_13 (by decide) ?_
    have hv9 : sp_fl σ 5 60 = 1 := by unfold sp_fl; (repeat (first | rw [if_pos (by omega)] | rw [if_neg (by omega)])) <;> first | rfl | omega
    have hw9 : cw_ cy ga ad σ = cw_ cy ga ad σ := by rfl
    subst hAe
    exact W.zret (v := zz_i (1)) (ty := .boolean) hx hb hr (zz_narB (by omega)) (fun t ht hW => ⟨congrArg (fun z => Outcome.returned (some (Value.int (zz_i z)))) hv9.symm, ⟨(), trivial, by rw [ht, hw9]; exact hP, va_K.moved hW.alike hK, by rw [hw9]; exact hD⟩, hS.F ht⟩) hS.2.2 dX1_isFilled_17

set_option maxHeartbeats 4000000 in
set_option maxRecDepth 100000 in
theorem c_at_lf (l : Launch) (D : va_G) (cy ga : Nat → Nat) (ad : Int → Nat) (σ : zz_S) (sz : Nat) (hI : iw_ σ) (x : Int) (q_x : (-2147483648 ≤ x ∧ x < 2147483648)) : Met l yX1_at wsX1_at ({ frames := 0, cells := 0, slots := 0, locals := 0 }) (ct_P D cy [.ref (ga 4), .int (zz_i (x))] (cw_ cy ga ad σ) sz) (ct_Q D cy (cw_ cy ga ad σ) sz (some (va_rf (aq_ ad (sp_al σ x)))) (fun _ : Unit => True) (fun _ => cw_ cy ga ad σ)) 0 0 (va_A (cw_ cy ga ad σ) sz) := by
  refine Met.ofW (cc := cX1_at) (maxL := 2) (ret := (some (.object "SorterSteps$Item"))) (by decide) rfl ?_
  intro p e s m args below meth c s₁ B hml hv
  obtain ⟨rfl, rfl, hP, hK, hD0, hE⟩ := hv
  have hx := B.exec
  have hb := B.bytes
  have hr := B.returns
  have hts := atoms_spec (ws := wsX1_at) B.pre
  have hown : s.vm.findClass RX1 = some m.cls := findClass_of_methodNamed B.named
  have hlocks := B.notSynchronized
  have hD := hD0.self (sz := s.heap.size)
  obtain ⟨A, hAe⟩ : ∃ A, A = va_A (cw_ cy ga ad σ) s.heap.size := ⟨_, rfl⟩
  rw [← hAe] at hD hE
  have hA : ∀ q : Nat, s.heap.size ≤ q → A q := fun q h => by rw [hAe]; exact Or.inr h
  have hS : va_S A s.heap s.heap [] := va_S.rf
  have hP : va_P D zz_cl (cw_ cy ga ad σ) s.heap := hP
  have hl := lv_entry ([.ref (ga 4), .int (zz_i (x))]) (n := 2) (Nat.le_of_ble_eq_true rfl)
  rw [lg_entry_eq]
  generalize (lg_sl ([.ref (ga 4), .int (zz_i (x))]) ++ List.replicate (2 - (lg_sl ([.ref (ga 4), .int (zz_i (x))])).length) Slot.unset).toArray = ls at hl ⊢
  have hl : lv_has ls 2 [(0, .ref (ga 4)), (1, .int (zz_i (x)))] := hl
  obtain ⟨j1, j2, j3, j4, j5, j6, j7, j8, j9, j10⟩ := id hI
  have hiX1 : ∀ w ∈ wsX10, w ∈ wsX1_at := by decide +kernel
  have hf21 := hts (.fieldLink RX1 21 "SorterSteps$ItemRow" "size" "I") (by decide +kernel)
  have hf15 := hts (.fieldLink RX1 15 "SorterSteps$ItemRow" "places" "[LSorterSteps$Item;") (by decide +kernel)
  refine lv_iload_n hx hb dX1_at_0 rfl (lv_at hl 1 rfl) ?_
  refine zz_if_lt (tgt := 21) hx hb dX1_at_1 (by decide) (by omega) (fun c1 => ?_) (fun c1 => ?_)
  · refine lv_null hx hb dX1_at_21 ?_
    have hv9 : sp_al σ x = 0 := by unfold sp_al; (repeat (first | rw [if_pos (by omega)] | rw [if_neg (by omega)])) <;> first | rfl | omega
    have hw9 : cw_ cy ga ad σ = cw_ cy ga ad σ := by rfl
    subst hAe
    exact W.aret (v := .null) hx hb hr (Or.inl ⟨_, rfl⟩) (Or.inl rfl) (fun t ht hW => ⟨by rw [hv9]; exact congrArg (fun z => Outcome.returned (some z)) rfl, ⟨(), trivial, by rw [ht, hw9]; exact hP, va_K.moved hW.alike hK, by rw [hw9]; exact hD⟩, hS.F ht⟩) hS.2.2 dX1_at_22
  · refine lv_iload_n hx hb dX1_at_4 rfl (lv_at hl 1 rfl) ?_
    refine lv_aload_n hx hb dX1_at_5 rfl (lv_at hl 0 rfl) ?_
    refine va_get (D := D) (ci := 1) (v := .int (zz_i (σ 5 0))) (C := RX1) (T := TX1) (N := 2) hx hb hts hiX1 hown hK hP (4) rfl rfl 1 (by decide) hf21 (fun _ h9 => h9) rfl dX1_at_6 ?_
    refine zz_icmp_ge (tgt := 21) hx hb dX1_at_9 (by decide) (by omega) (by omega) (fun c2 => ?_) (fun c2 => ?_)
    · refine lv_null hx hb dX1_at_21 ?_
      have hv9 : sp_al σ x = 0 := by unfold sp_al; (repeat (first | rw [if_pos (by omega)] | rw [if_neg (by omega)])) <;> first | rfl | omega
      have hw9 : cw_ cy ga ad σ = cw_ cy ga ad σ := by rfl
      subst hAe
      exact W.aret (v := .null) hx hb hr (Or.inl ⟨_, rfl⟩) (Or.inl rfl) (fun t ht hW => ⟨by rw [hv9]; exact congrArg (fun z => Outcome.returned (some z)) rfl, ⟨(), trivial, by rw [ht, hw9]; exact hP, va_K.moved hW.alike hK, by rw [hw9]; exact hD⟩, hS.F ht⟩) hS.2.2 dX1_at_22
    · refine lv_aload_n hx hb dX1_at_12 rfl (lv_at hl 0 rfl) ?_
      refine va_get (D := D) (ci := 1) (v := .ref (ga 7)) (C := RX1) (T := TX1) (N := 2) hx hb hts hiX1 hown hK hP (4) rfl rfl 0 (by decide) hf15 (fun _ h9 => h9) rfl dX1_at_13 ?_
      refine lv_iload_n hx hb dX1_at_16 rfl (lv_at hl 1 rfl) ?_
      refine zz_aald hx hb hK hP 7 2 rfl rfl (show 0 ≤ x ∧ x < ((60 : Nat) : Int) by omega) (show 60 < 2147483648 by omega) dX1_at_17 ?_
      rcases aq_or ad (σ 23 x) with ⟨c3, hv⟩ | ⟨c3, hv⟩
      · refine W.eq (g2 := F0 m 18 ls [.null]) (congrArg (fun z => F0 m 18 ls (z :: [])) hv) ?_
        refine lv_goto (tgt := 22) hx hb dX1_at_18 (by decide) ?_
        have hv9 : sp_al σ x = 0 := by unfold sp_al; (repeat (first | rw [if_pos (by omega)] | rw [if_neg (by omega)])) <;> first | rfl | omega
        have hw9 : cw_ cy ga ad σ = cw_ cy ga ad σ := by rfl
        subst hAe
        exact W.aret (v := .null) hx hb hr (Or.inl ⟨_, rfl⟩) (Or.inl rfl) (fun t ht hW => ⟨by rw [hv9]; exact congrArg (fun z => Outcome.returned (some z)) rfl, ⟨(), trivial, by rw [ht, hw9]; exact hP, va_K.moved hW.alike hK, by rw [hw9]; exact hD⟩, hS.F ht⟩) hS.2.2 dX1_at_22
      · refine W.eq (g2 := F0 m 18 ls [.ref (ad (σ 23 x))]) (congrArg (fun z => F0 m 18 ls (z :: [])) hv) ?_
        refine lv_goto (tgt := 22) hx hb dX1_at_18 (by decide) ?_
        have hv9 : sp_al σ x = σ 23 x := by unfold sp_al; (repeat (first | rw [if_pos (by omega)] | rw [if_neg (by omega)])) <;> first | rfl | omega
        have hw9 : cw_ cy ga ad σ = cw_ cy ga ad σ := by rfl
        subst hAe
        exact W.aret (v := .ref (ad (σ 23 x))) hx hb hr (Or.inl ⟨_, rfl⟩) (Or.inr ⟨_, rfl⟩) (fun t ht hW => ⟨by rw [hv9]; exact congrArg (fun z => Outcome.returned (some z)) (by rw [aq_n (by omega)]; rfl), ⟨(), trivial, by rw [ht, hw9]; exact hP, va_K.moved hW.alike hK, by rw [hw9]; exact hD⟩, hS.F ht⟩) hS.2.2 dX1_at_22

set_option maxHeartbeats 4000000 in
set_option maxRecDepth 100000 in
theorem c_size_db (l : Launch) (D : va_G) (cy ga : Nat → Nat) (ad : Int → Nat) (σ : zz_S) (sz : Nat) : Met l yX1_size wsX1_size ({ frames := 0, cells := 0, slots := 0, locals := 0 }) (ct_P D cy [.ref (ga 5)] (cw_ cy ga ad σ) sz) (ct_Q D cy (cw_ cy ga ad σ) sz (some (.int (zz_i (σ 7 0)))) (fun _ : Unit => True) (fun _ => cw_ cy ga ad σ)) 0 0 (va_A (cw_ cy ga ad σ) sz) := by
  refine Met.ofW (cc := cX1_size) (maxL := 1) (ret := (some .int)) (by decide) rfl ?_
  intro p e s m args below meth c s₁ B hml hv
  obtain ⟨rfl, rfl, hP, hK, hD0, hE⟩ := hv
  have hx := B.exec
  have hb := B.bytes
  have hr := B.returns
  have hts := atoms_spec (ws := wsX1_size) B.pre
  have hown : s.vm.findClass RX1 = some m.cls := findClass_of_methodNamed B.named
  have hlocks := B.notSynchronized
  have hD := hD0.self (sz := s.heap.size)
  obtain ⟨A, hAe⟩ : ∃ A, A = va_A (cw_ cy ga ad σ) s.heap.size := ⟨_, rfl⟩
  rw [← hAe] at hD hE
  have hA : ∀ q : Nat, s.heap.size ≤ q → A q := fun q h => by rw [hAe]; exact Or.inr h
  have hS : va_S A s.heap s.heap [] := va_S.rf
  have hP : va_P D zz_cl (cw_ cy ga ad σ) s.heap := hP
  have hl := lv_entry ([.ref (ga 5)]) (n := 1) (Nat.le_of_ble_eq_true rfl)
  rw [lg_entry_eq]
  generalize (lg_sl ([.ref (ga 5)]) ++ List.replicate (1 - (lg_sl ([.ref (ga 5)])).length) Slot.unset).toArray = ls at hl ⊢
  have hl : lv_has ls 1 [(0, .ref (ga 5))] := hl
  have hiX1 : ∀ w ∈ wsX10, w ∈ wsX1_size := by decide +kernel
  have hf21 := hts (.fieldLink RX1 21 "SorterSteps$ItemRow" "size" "I") (by decide +kernel)
  refine lv_aload_n hx hb dX1_size_0 rfl (lv_at hl 0 rfl) ?_
  refine va_get (D := D) (ci := 1) (v := .int (zz_i (σ 7 0))) (C := RX1) (T := TX1) (N := 2) hx hb hts hiX1 hown hK hP (5) rfl rfl 1 (by decide) hf21 (fun _ h9 => h9) rfl dX1_size_1 ?_
  have hv9 : σ 7 0 = σ 7 0 := by rfl
  have hw9 : cw_ cy ga ad σ = cw_ cy ga ad σ := by rfl
  subst hAe
  exact W.iret (v := zz_i (σ 7 0)) hx hb hr (fun t ht hW => ⟨congrArg (fun z => Outcome.returned (some (Value.int (zz_i z)))) hv9.symm, ⟨(), trivial, by rw [ht, hw9]; exact hP, va_K.moved hW.alike hK, by rw [hw9]; exact hD⟩, hS.F ht⟩) hS.2.2 dX1_size_4

set_option maxHeartbeats 4000000 in
set_option maxRecDepth 100000 in
theorem c_filled_db (l : Launch) (D : va_G) (cy ga : Nat → Nat) (ad : Int → Nat) (σ : zz_S) (sz : Nat) (hI : iw_ σ) : Met l yX1_isFilled wsX1_isFilled ({ frames := 0, cells := 0, slots := 0, locals := 0 }) (ct_P D cy [.ref (ga 5)] (cw_ cy ga ad σ) sz) (ct_Q D cy (cw_ cy ga ad σ) sz (some (.int (zz_i (sp_fl σ 7 40)))) (fun _ : Unit => True) (fun _ => cw_ cy ga ad σ)) 0 0 (va_A (cw_ cy ga ad σ) sz) := by
  refine Met.ofW (cc := cX1_isFilled) (maxL := 1) (ret := (some .boolean)) (by decide) rfl ?_
  intro p e s m args below meth c s₁ B hml hv
  obtain ⟨rfl, rfl, hP, hK, hD0, hE⟩ := hv
  have hx := B.exec
  have hb := B.bytes
  have hr := B.returns
  have hts := atoms_spec (ws := wsX1_isFilled) B.pre
  have hown : s.vm.findClass RX1 = some m.cls := findClass_of_methodNamed B.named
  have hlocks := B.notSynchronized
  have hD := hD0.self (sz := s.heap.size)
  obtain ⟨A, hAe⟩ : ∃ A, A = va_A (cw_ cy ga ad σ) s.heap.size := ⟨_, rfl⟩
  rw [← hAe] at hD hE
  have hA : ∀ q : Nat, s.heap.size ≤ q → A q := fun q h => by rw [hAe]; exact Or.inr h
  have hS : va_S A s.heap s.heap [] := va_S.rf
  have hP : va_P D zz_cl (cw_ cy ga ad σ) s.heap := hP
  have hl := lv_entry ([.ref (ga 5)]) (n := 1) (Nat.le_of_ble_eq_true rfl)
  rw [lg_entry_eq]
  generalize (lg_sl ([.ref (ga 5)]) ++ List.replicate (1 - (lg_sl ([.ref (ga 5)])).length) Slot.unset).toArray = ls at hl ⊢
  have hl : lv_has ls 1 [(0, .ref (ga 5))] := hl
  obtain ⟨j1, j2, j3, j4, j5, j6, j7, j8, j9, j10⟩ := id hI
  have hiX1 : ∀ w ∈ wsX10, w ∈ wsX1_isFilled := by decide +kernel
  have hf21 := hts (.fieldLink RX1 21 "SorterSteps$ItemRow" "size" "I") (by decide +kernel)
  have hf15 := hts (.fieldLink RX1 15 "SorterSteps$ItemRow" "places" "[LSorterSteps$Item;") (by decide +kernel)
  refine lv_aload_n hx hb dX1_isFilled_0 rfl (lv_at hl 0 rfl) ?_
  refine va_get (D := D) (ci := 1) (v := .int (zz_i (σ 7 0))) (C := RX1) (T := TX1) (N := 2) hx hb hts hiX1 hown hK hP (5) rfl rfl 1 (by decide) hf21 (fun _ h9 => h9) rfl dX1_isFilled_1 ?_
  refine lv_aload_n hx hb dX1_isFilled_4 rfl (lv_at hl 0 rfl) ?_
  refine va_get (D := D) (ci := 1) (v := .ref (ga 8)) (C := RX1) (T := TX1) (N := 2) hx hb hts hiX1 hown hK hP (5) rfl rfl 0 (by decide) hf15 (fun _ h9 => h9) rfl dX1_isFilled_5 ?_
  refine va_alen hx hb hK hP 8 2 rfl rfl (v := zz_i (40)) rfl dX1_isFilled_8 ?_
  refine zz_icmp_lt (tgt := 16) hx hb dX1_isFilled_9 (by decide) (by omega) (by omega) (fun c1 => ?_) (fun c1 => ?_)
  · refine lv_iconst (v := zz_i (0)) hx hb dX1_isFilled_16 rfl ?_
    have hv9 : sp_fl σ 7 40 = 0 := by unfold sp_fl; (repeat (first | rw [if_pos (by omega)] | rw [if_neg (by omega)])) <;> first | rfl | omega
    have hw9 : cw_ cy ga ad σ = cw_ cy ga ad σ := by rfl
    subst hAe
    exact W.zret (v := zz_i (0)) (ty := .boolean) hx hb hr (zz_narB (by omega)) (fun t ht hW => ⟨congrArg (fun z => Outcome.returned (some (Value.int (zz_i z)))) hv9.symm, ⟨(), trivial, by rw [ht, hw9]; exact hP, va_K.moved hW.alike hK, by rw [hw9]; exact hD⟩, hS.F ht⟩) hS.2.2 dX1_isFilled_17
  · refine lv_iconst (v := zz_i (1)) hx hb dX1_isFilled_12 rfl ?_
    refine lv_goto (tgt := 17) hx hb dX1_isFilled_13 (by decide) ?_
    have hv9 : sp_fl σ 7 40 = 1 := by unfold sp_fl; (repeat (first | rw [if_pos (by omega)] | rw [if_neg (by omega)])) <;> first | rfl | omega
    have hw9 : cw_ cy ga ad σ = cw_ cy ga ad σ := by rfl
    subst hAe
    exact W.zret (v := zz_i (1)) (ty := .boolean) hx hb hr (zz_narB (by omega)) (fun t ht hW => ⟨congrArg (fun z => Outcome.returned (some (Value.int (zz_i z)))) hv9.symm, ⟨(), trivial, by rw [ht, hw9]; exact hP, va_K.moved hW.alike hK, by rw [hw9]; exact hD⟩, hS.F ht⟩) hS.2.2 dX1_isFilled_17

set_option maxHeartbeats 4000000 in
set_option maxRecDepth 100000 in
theorem c_at_db (l : Launch) (D : va_G) (cy ga : Nat → Nat) (ad : Int → Nat) (σ : zz_S) (sz : Nat) (hI : iw_ σ) (x : Int) (q_x : (-2147483648 ≤ x ∧ x < 2147483648)) : Met l yX1_at wsX1_at ({ frames := 0, cells := 0, slots := 0, locals := 0 }) (ct_P D cy [.ref (ga 5), .int (zz_i (x))] (cw_ cy ga ad σ) sz) (ct_Q D cy (cw_ cy ga ad σ) sz (some (va_rf (aq_ ad (sp_ad σ x)))) (fun _ : Unit => True) (fun _ => cw_ cy ga ad σ)) 0 0 (va_A (cw_ cy ga ad σ) sz) := by
  refine Met.ofW (cc := cX1_at) (maxL := 2) (ret := (some (.object "SorterSteps$Item"))) (by decide) rfl ?_
  intro p e s m args below meth c s₁ B hml hv
  obtain ⟨rfl, rfl, hP, hK, hD0, hE⟩ := hv
  have hx := B.exec
  have hb := B.bytes
  have hr := B.returns
  have hts := atoms_spec (ws := wsX1_at) B.pre
  have hown : s.vm.findClass RX1 = some m.cls := findClass_of_methodNamed B.named
  have hlocks := B.notSynchronized
  have hD := hD0.self (sz := s.heap.size)
  obtain ⟨A, hAe⟩ : ∃ A, A = va_A (cw_ cy ga ad σ) s.heap.size := ⟨_, rfl⟩
  rw [← hAe] at hD hE
  have hA : ∀ q : Nat, s.heap.size ≤ q → A q := fun q h => by rw [hAe]; exact Or.inr h
  have hS : va_S A s.heap s.heap [] := va_S.rf
  have hP : va_P D zz_cl (cw_ cy ga ad σ) s.heap := hP
  have hl := lv_entry ([.ref (ga 5), .int (zz_i (x))]) (n := 2) (Nat.le_of_ble_eq_true rfl)
  rw [lg_entry_eq]
  generalize (lg_sl ([.ref (ga 5), .int (zz_i (x))]) ++ List.replicate (2 - (lg_sl ([.ref (ga 5), .int (zz_i (x))])).length) Slot.unset).toArray = ls at hl ⊢
  have hl : lv_has ls 2 [(0, .ref (ga 5)), (1, .int (zz_i (x)))] := hl
  obtain ⟨j1, j2, j3, j4, j5, j6, j7, j8, j9, j10⟩ := id hI
  have hiX1 : ∀ w ∈ wsX10, w ∈ wsX1_at := by decide +kernel
  have hf21 := hts (.fieldLink RX1 21 "SorterSteps$ItemRow" "size" "I") (by decide +kernel)
  have hf15 := hts (.fieldLink RX1 15 "SorterSteps$ItemRow" "places" "[LSorterSteps$Item;") (by decide +kernel)
  refine lv_iload_n hx hb dX1_at_0 rfl (lv_at hl 1 rfl) ?_
  refine zz_if_lt (tgt := 21) hx hb dX1_at_1 (by decide) (by omega) (fun c1 => ?_) (fun c1 => ?_)
  · refine lv_null hx hb dX1_at_21 ?_
    have hv9 : sp_ad σ x = 0 := by unfold sp_ad; (repeat (first | rw [if_pos (by omega)] | rw [if_neg (by omega)])) <;> first | rfl | omega
    have hw9 : cw_ cy ga ad σ = cw_ cy ga ad σ := by rfl
    subst hAe
    exact W.aret (v := .null) hx hb hr (Or.inl ⟨_, rfl⟩) (Or.inl rfl) (fun t ht hW => ⟨by rw [hv9]; exact congrArg (fun z => Outcome.returned (some z)) rfl, ⟨(), trivial, by rw [ht, hw9]; exact hP, va_K.moved hW.alike hK, by rw [hw9]; exact hD⟩, hS.F ht⟩) hS.2.2 dX1_at_22
  · refine lv_iload_n hx hb dX1_at_4 rfl (lv_at hl 1 rfl) ?_
    refine lv_aload_n hx hb dX1_at_5 rfl (lv_at hl 0 rfl) ?_
    refine va_get (D := D) (ci := 1) (v := .int (zz_i (σ 7 0))) (C := RX1) (T := TX1) (N := 2) hx hb hts hiX1 hown hK hP (5) rfl rfl 1 (by decide) hf21 (fun _ h9 => h9) rfl dX1_at_6 ?_
    refine zz_icmp_ge (tgt := 21) hx hb dX1_at_9 (by decide) (by omega) (by omega) (fun c2 => ?_) (fun c2 => ?_)
    · refine lv_null hx hb dX1_at_21 ?_
      have hv9 : sp_ad σ x = 0 := by unfold sp_ad; (repeat (first | rw [if_pos (by omega)] | rw [if_neg (by omega)])) <;> first | rfl | omega
      have hw9 : cw_ cy ga ad σ = cw_ cy ga ad σ := by rfl
      subst hAe
      exact W.aret (v := .null) hx hb hr (Or.inl ⟨_, rfl⟩) (Or.inl rfl) (fun t ht hW => ⟨by rw [hv9]; exact congrArg (fun z => Outcome.returned (some z)) rfl, ⟨(), trivial, by rw [ht, hw9]; exact hP, va_K.moved hW.alike hK, by rw [hw9]; exact hD⟩, hS.F ht⟩) hS.2.2 dX1_at_22
    · refine lv_aload_n hx hb dX1_at_12 rfl (lv_at hl 0 rfl) ?_
      refine va_get (D := D) (ci := 1) (v := .ref (ga 8)) (C := RX1) (T := TX1) (N := 2) hx hb hts hiX1 hown hK hP (5) rfl rfl 0 (by decide) hf15 (fun _ h9 => h9) rfl dX1_at_13 ?_
      refine lv_iload_n hx hb dX1_at_16 rfl (lv_at hl 1 rfl) ?_
      refine zz_aald hx hb hK hP 8 2 rfl rfl (show 0 ≤ x ∧ x < ((40 : Nat) : Int) by omega) (show 40 < 2147483648 by omega) dX1_at_17 ?_
      rcases aq_or ad (σ 27 x) with ⟨c3, hv⟩ | ⟨c3, hv⟩
      · refine W.eq (g2 := F0 m 18 ls [.null]) (congrArg (fun z => F0 m 18 ls (z :: [])) hv) ?_
        refine lv_goto (tgt := 22) hx hb dX1_at_18 (by decide) ?_
        have hv9 : sp_ad σ x = 0 := by unfold sp_ad; (repeat (first | rw [if_pos (by omega)] | rw [if_neg (by omega)])) <;> first | rfl | omega
        have hw9 : cw_ cy ga ad σ = cw_ cy ga ad σ := by rfl
        subst hAe
        exact W.aret (v := .null) hx hb hr (Or.inl ⟨_, rfl⟩) (Or.inl rfl) (fun t ht hW => ⟨by rw [hv9]; exact congrArg (fun z => Outcome.returned (some z)) rfl, ⟨(), trivial, by rw [ht, hw9]; exact hP, va_K.moved hW.alike hK, by rw [hw9]; exact hD⟩, hS.F ht⟩) hS.2.2 dX1_at_22
      · refine W.eq (g2 := F0 m 18 ls [.ref (ad (σ 27 x))]) (congrArg (fun z => F0 m 18 ls (z :: [])) hv) ?_
        refine lv_goto (tgt := 22) hx hb dX1_at_18 (by decide) ?_
        have hv9 : sp_ad σ x = σ 27 x := by unfold sp_ad; (repeat (first | rw [if_pos (by omega)] | rw [if_neg (by omega)])) <;> first | rfl | omega
        have hw9 : cw_ cy ga ad σ = cw_ cy ga ad σ := by rfl
        subst hAe
        exact W.aret (v := .ref (ad (σ 27 x))) hx hb hr (Or.inl ⟨_, rfl⟩) (Or.inr ⟨_, rfl⟩) (fun t ht hW => ⟨by rw [hv9]; exact congrArg (fun z => Outcome.returned (some z)) (by rw [aq_n (by omega)]; rfl), ⟨(), trivial, by rw [ht, hw9]; exact hP, va_K.moved hW.alike hK, by rw [hw9]; exact hD⟩, hS.F ht⟩) hS.2.2 dX1_at_22
end
