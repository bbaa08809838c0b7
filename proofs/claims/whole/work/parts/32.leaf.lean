section
set_option maxHeartbeats 4000000 in
set_option maxRecDepth 100000 in
theorem c_isInLoop (l : Launch) (D : va_G) (cy ga : Nat → Nat) (ad : Int → Nat) (σ : zz_S) (sz : Nat) (hI : iw_ σ) (x : Int) (q_x : (-2147483648 ≤ x ∧ x < 2147483648)) : Met l yX2_isInLoop wsX2_isInLoop ({ frames := 0, cells := 0, slots := 0, locals := 0 }) (ct_P D cy [.ref (ga 0), .int (zz_i (x))] (cw_ cy ga ad σ) sz) (ct_Q D cy (cw_ cy ga ad σ) sz (some (.int (zz_i (sp_il σ x)))) (fun _ : Unit => True) (fun _ => cw_ cy ga ad σ)) 0 0 (va_A (cw_ cy ga ad σ) sz) := by
  refine Met.ofW (cc := cX2_isInLoop) (maxL := 2) (ret := (some .boolean)) (by decide) rfl ?_
  intro p e s m args below meth c s₁ B hml hv
  obtain ⟨rfl, rfl, hP, hK, hD0, hE⟩ := hv
  have hx := B.exec
  have hb := B.bytes
  have hr := B.returns
  have hts := atoms_spec (ws := wsX2_isInLoop) B.pre
  have hown : s.vm.findClass RX2 = some m.cls := findClass_of_methodNamed B.named
  have hlocks := B.notSynchronized
  have hD := hD0.self (sz := s.heap.size)
  obtain ⟨A, hAe⟩ : ∃ A, A = va_A (cw_ cy ga ad σ) s.heap.size := ⟨_, rfl⟩
  rw [← hAe] at hD hE
  have hA : ∀ q : Nat, s.heap.size ≤ q → A q := fun q h => by rw [hAe]; exact Or.inr h
  have hS : va_S A s.heap s.heap [] := va_S.rf
  have hP : va_P D zz_cl (cw_ cy ga ad σ) s.heap := hP
  have hl := lv_entry ([.ref (ga 0), .int (zz_i (x))]) (n := 2) (Nat.le_of_ble_eq_true rfl)
  rw [lg_entry_eq]
  generalize (lg_sl ([.ref (ga 0), .int (zz_i (x))]) ++ List.replicate (2 - (lg_sl ([.ref (ga 0), .int (zz_i (x))])).length) Slot.unset).toArray = ls at hl ⊢
  have hl : lv_has ls 2 [(0, .ref (ga 0)), (1, .int (zz_i (x)))] := hl
  obtain ⟨j1, j2, j3, j4, j5, j6, j7, j8, j9, j10⟩ := id hI
  have hiX2 : ∀ w ∈ wsX20, w ∈ wsX2_isInLoop := by decide +kernel
  have hf39 := hts (.fieldLink RX2 39 "SorterSteps" "onTrays" "[LSorterSteps$Item;") (by decide +kernel)
  refine lv_iload_n hx hb dX2_isInLoop_0 rfl (lv_at hl 1 rfl) ?_
  refine zz_if_lt (tgt := 17) hx hb dX2_isInLoop_1 (by decide) (by omega) (fun c1 => ?_) (fun c1 => ?_)
  · refine lv_iconst (v := zz_i (0)) hx hb dX2_isInLoop_17 rfl ?_
    have hv9 : sp_il σ x = 0 := by unfold sp_il; (repeat (first | rw [if_pos (by omega)] | rw [if_neg (by omega)])) <;> first | rfl | omega
    have hw9 : cw_ cy ga ad σ = cw_ cy ga ad σ := by rfl
    subst hAe
    exact W.zret (v := zz_i (0)) (ty := .boolean) hx hb hr (zz_narB (by omega)) (fun t ht hW => ⟨congrArg (fun z => Outcome.returned (some (Value.int (zz_i z)))) hv9.symm, ⟨(), trivial, by rw [ht, hw9]; exact hP, va_K.moved hW.alike hK, by rw [hw9]; exact hD⟩, hS.F ht⟩) hS.2.2 dX2_isInLoop_18
  · refine lv_iload_n hx hb dX2_isInLoop_4 rfl (lv_at hl 1 rfl) ?_
    refine lv_aload_n hx hb dX2_isInLoop_5 rfl (lv_at hl 0 rfl) ?_
    refine va_get (D := D) (ci := 2) (v := .ref (ga 1)) (C := RX2) (T := TX2) (N := 10) hx hb hts hiX2 hown hK hP (0) rfl rfl 0 (by decide) hf39 (fun _ h9 => h9) rfl dX2_isInLoop_6 ?_
    refine va_alen hx hb hK hP 1 2 rfl rfl (v := zz_i (σ 0 0)) (zz_len (show 0 ≤ σ 0 0 ∧ σ 0 0 < 2147483648 by omega)) dX2_isInLoop_9 ?_
    refine zz_icmp_ge (tgt := 17) hx hb dX2_isInLoop_10 (by decide) (by omega) (by omega) (fun c2 => ?_) (fun c2 => ?_)
    · refine lv_iconst (v := zz_i (0)) hx hb dX2_isInLoop_17 rfl ?_
      have hv9 : sp_il σ x = 0 := by unfold sp_il; (repeat (first | rw [if_pos (by omega)] | rw [if_neg (by omega)])) <;> first | rfl | omega
      have hw9 : cw_ cy ga ad σ = cw_ cy ga ad σ := by rfl
      subst hAe
      exact W.zret (v := zz_i (0)) (ty := .boolean) hx hb hr (zz_narB (by omega)) (fun t ht hW => ⟨congrArg (fun z => Outcome.returned (some (Value.int (zz_i z)))) hv9.symm, ⟨(), trivial, by rw [ht, hw9]; exact hP, va_K.moved hW.alike hK, by rw [hw9]; exact hD⟩, hS.F ht⟩) hS.2.2 dX2_isInLoop_18
    · refine lv_iconst (v := zz_i (1)) hx hb dX2_isInLoop_13 rfl ?_
      refine lv_goto (tgt := 18) hx hb dX2_isInLoop_14 (by decide) ?_
      have hv9 : sp_il σ x = 1 := by unfold sp_il; (repeat (first | rw [if_pos (by omega)] | rw [if_neg (by omega)])) <;> first | rfl | omega
      have hw9 : cw_ cy ga ad σ = cw_ cy ga ad σ := by rfl
      subst hAe
      exact W.zret (v := zz_i (1)) (ty := .boolean) hx hb hr (zz_narB (by omega)) (fun t ht hW => ⟨congrArg (fun z => Outcome.returned (some (Value.int (zz_i z)))) hv9.symm, ⟨(), trivial, by rw [ht, hw9]; exact hP, va_K.moved hW.alike hK, by rw [hw9]; exact hD⟩, hS.F ht⟩) hS.2.2 dX2_isInLoop_18

set_option maxHeartbeats 4000000 in
set_option maxRecDepth 100000 in
theorem c_intoLoop (l : Launch) (D : va_G) (cy ga : Nat → Nat) (ad : Int → Nat) (σ : zz_S) (sz : Nat) (hI : iw_ σ) (x : Int) (q_x : (-2147483648 ≤ x ∧ x < 2147483648)) : Met l yX2_intoLoop wsX2_intoLoop ({ frames := 0, cells := 0, slots := 0, locals := 0 }) (ct_P D cy [.ref (ga 0), .int (zz_i (x))] (cw_ cy ga ad σ) sz) (ct_Q D cy (cw_ cy ga ad σ) sz (some (.int (zz_i (sp_in σ x)))) (fun _ : Unit => True) (fun _ => cw_ cy ga ad σ)) 0 0 (va_A (cw_ cy ga ad σ) sz) := by
  refine Met.ofW (cc := cX2_intoLoop) (maxL := 2) (ret := (some .int)) (by decide) rfl ?_
  intro p e s m args below meth c s₁ B hml hv
  obtain ⟨rfl, rfl, hP, hK, hD0, hE⟩ := hv
  have hx := B.exec
  have hb := B.bytes
  have hr := B.returns
  have hts := atoms_spec (ws := wsX2_intoLoop) B.pre
  have hown : s.vm.findClass RX2 = some m.cls := findClass_of_methodNamed B.named
  have hlocks := B.notSynchronized
  have hD := hD0.self (sz := s.heap.size)
  obtain ⟨A, hAe⟩ : ∃ A, A = va_A (cw_ cy ga ad σ) s.heap.size := ⟨_, rfl⟩
  rw [← hAe] at hD hE
  have hA : ∀ q : Nat, s.heap.size ≤ q → A q := fun q h => by rw [hAe]; exact Or.inr h
  have hS : va_S A s.heap s.heap [] := va_S.rf
  have hP : va_P D zz_cl (cw_ cy ga ad σ) s.heap := hP
  have hl := lv_entry ([.ref (ga 0), .int (zz_i (x))]) (n := 2) (Nat.le_of_ble_eq_true rfl)
  rw [lg_entry_eq]
  generalize (lg_sl ([.ref (ga 0), .int (zz_i (x))]) ++ List.replicate (2 - (lg_sl ([.ref (ga 0), .int (zz_i (x))])).length) Slot.unset).toArray = ls at hl ⊢
  have hl : lv_has ls 2 [(0, .ref (ga 0)), (1, .int (zz_i (x)))] := hl
  obtain ⟨j1, j2, j3, j4, j5, j6, j7, j8, j9, j10⟩ := id hI
  have hiX2 : ∀ w ∈ wsX20, w ∈ wsX2_intoLoop := by decide +kernel
  have hf39 := hts (.fieldLink RX2 39 "SorterSteps" "onTrays" "[LSorterSteps$Item;") (by decide +kernel)
  refine lv_iload_n hx hb dX2_intoLoop_0 rfl (lv_at hl 1 rfl) ?_
  refine zz_if_ge (tgt := 12) hx hb dX2_intoLoop_1 (by decide) (by omega) (fun c1 => ?_) (fun c1 => ?_)
  · refine lv_iload_n hx hb dX2_intoLoop_12 rfl (lv_at hl 1 rfl) ?_
    refine lv_aload_n hx hb dX2_intoLoop_13 rfl (lv_at hl 0 rfl) ?_
    refine va_get (D := D) (ci := 2) (v := .ref (ga 1)) (C := RX2) (T := TX2) (N := 10) hx hb hts hiX2 hown hK hP (0) rfl rfl 0 (by decide) hf39 (fun _ h9 => h9) rfl dX2_intoLoop_14 ?_
    refine va_alen hx hb hK hP 1 2 rfl rfl (v := zz_i (σ 0 0)) (zz_len (show 0 ≤ σ 0 0 ∧ σ 0 0 < 2147483648 by omega)) dX2_intoLoop_17 ?_
    refine zz_icmp_ge (tgt := 25) hx hb dX2_intoLoop_18 (by decide) (by omega) (by omega) (fun c2 => ?_) (fun c2 => ?_)
    · refine lv_iload_n hx hb dX2_intoLoop_25 rfl (lv_at hl 1 rfl) ?_
      refine lv_aload_n hx hb dX2_intoLoop_26 rfl (lv_at hl 0 rfl) ?_
      refine va_get (D := D) (ci := 2) (v := .ref (ga 1)) (C := RX2) (T := TX2) (N := 10) hx hb hts hiX2 hown hK hP (0) rfl rfl 0 (by decide) hf39 (fun _ h9 => h9) rfl dX2_intoLoop_27 ?_
      refine va_alen hx hb hK hP 1 2 rfl rfl (v := zz_i (σ 0 0)) (zz_len (show 0 ≤ σ 0 0 ∧ σ 0 0 < 2147483648 by omega)) dX2_intoLoop_30 ?_
      refine zz_isub hx hb dX2_intoLoop_31 ?_
      have hv9 : sp_in σ x = x - (σ 0 0) := by unfold sp_in; (repeat (first | rw [if_pos (by omega)] | rw [if_neg (by omega)])) <;> first | rfl | omega
      have hw9 : cw_ cy ga ad σ = cw_ cy ga ad σ := by rfl
      subst hAe
      exact W.iret (v := zz_i (x - (σ 0 0))) hx hb hr (fun t ht hW => ⟨congrArg (fun z => Outcome.returned (some (Value.int (zz_i z)))) hv9.symm, ⟨(), trivial, by rw [ht, hw9]; exact hP, va_K.moved hW.alike hK, by rw [hw9]; exact hD⟩, hS.F ht⟩) hS.2.2 dX2_intoLoop_32
    · refine lv_iload_n hx hb dX2_intoLoop_21 rfl (lv_at hl 1 rfl) ?_
      refine lv_goto (tgt := 32) hx hb dX2_intoLoop_22 (by decide) ?_
      have hv9 : sp_in σ x = x := by unfold sp_in; (repeat (first | rw [if_pos (by omega)] | rw [if_neg (by omega)])) <;> first | rfl | omega
      have hw9 : cw_ cy ga ad σ = cw_ cy ga ad σ := by rfl
      subst hAe
      exact W.iret (v := zz_i (x)) hx hb hr (fun t ht hW => ⟨congrArg (fun z => Outcome.returned (some (Value.int (zz_i z)))) hv9.symm, ⟨(), trivial, by rw [ht, hw9]; exact hP, va_K.moved hW.alike hK, by rw [hw9]; exact hD⟩, hS.F ht⟩) hS.2.2 dX2_intoLoop_32
  · refine lv_iload_n hx hb dX2_intoLoop_4 rfl (lv_at hl 1 rfl) ?_
    refine lv_aload_n hx hb dX2_intoLoop_5 rfl (lv_at hl 0 rfl) ?_
    refine va_get (D := D) (ci := 2) (v := .ref (ga 1)) (C := RX2) (T := TX2) (N := 10) hx hb hts hiX2 hown hK hP (0) rfl rfl 0 (by decide) hf39 (fun _ h9 => h9) rfl dX2_intoLoop_6 ?_
    refine va_alen hx hb hK hP 1 2 rfl rfl (v := zz_i (σ 0 0)) (zz_len (show 0 ≤ σ 0 0 ∧ σ 0 0 < 2147483648 by omega)) dX2_intoLoop_9 ?_
    refine zz_iadd hx hb dX2_intoLoop_10 ?_
    have hv9 : sp_in σ x = x + (σ 0 0) := by unfold sp_in; (repeat (first | rw [if_pos (by omega)] | rw [if_neg (by omega)])) <;> first | rfl | omega
    have hw9 : cw_ cy ga ad σ = cw_ cy ga ad σ := by rfl
    subst hAe
    exact W.iret (v := zz_i (x + (σ 0 0))) hx hb hr (fun t ht hW => ⟨congrArg (fun z => Outcome.returned (some (Value.int (zz_i z)))) hv9.symm, ⟨(), trivial, by rw [ht, hw9]; exact hP, va_K.moved hW.alike hK, by rw [hw9]; exact hD⟩, hS.F ht⟩) hS.2.2 dX2_intoLoop_11

set_option maxHeartbeats 4000000 in
set_option maxRecDepth 100000 in
theorem c_trayAt (l : Launch) (D : va_G) (cy ga : Nat → Nat) (ad : Int → Nat) (σ : zz_S) (sz : Nat) (hI : iw_ σ) (x : Int) (q_x : -1000000 ≤ x ∧ x ≤ 1000000) : Met l yX2_trayAt wsX2_trayAt ({ frames := 1, cells := 0, slots := 0, locals := 21 }) (ct_P D cy [.ref (ga 0), .int (zz_i (x))] (cw_ cy ga ad σ) sz) (ct_Q D cy (cw_ cy ga ad σ) sz (some (.int (zz_i (sp_tr σ x)))) (fun _ : Unit => True) (fun _ => cw_ cy ga ad σ)) 0 0 (va_A (cw_ cy ga ad σ) sz) := by
  refine Met.ofW (cc := cX2_trayAt) (maxL := 2) (ret := (some .int)) (by decide) rfl ?_
  intro p e s m args below meth c s₁ B hml hv
  obtain ⟨rfl, rfl, hP, hK, hD0, hE⟩ := hv
  have hx := B.exec
  have hb := B.bytes
  have hr := B.returns
  have hts := atoms_spec (ws := wsX2_trayAt) B.pre
  have hown : s.vm.findClass RX2 = some m.cls := findClass_of_methodNamed B.named
  have hlocks := B.notSynchronized
  have hD := hD0.self (sz := s.heap.size)
  obtain ⟨A, hAe⟩ : ∃ A, A = va_A (cw_ cy ga ad σ) s.heap.size := ⟨_, rfl⟩
  rw [← hAe] at hD hE
  have hA : ∀ q : Nat, s.heap.size ≤ q → A q := fun q h => by rw [hAe]; exact Or.inr h
  have hS : va_S A s.heap s.heap [] := va_S.rf
  have hP : va_P D zz_cl (cw_ cy ga ad σ) s.heap := hP
  have hl := lv_entry ([.ref (ga 0), .int (zz_i (x))]) (n := 2) (Nat.le_of_ble_eq_true rfl)
  rw [lg_entry_eq]
  generalize (lg_sl ([.ref (ga 0), .int (zz_i (x))]) ++ List.replicate (2 - (lg_sl ([.ref (ga 0), .int (zz_i (x))])).length) Slot.unset).toArray = ls at hl ⊢
  have hl : lv_has ls 2 [(0, .ref (ga 0)), (1, .int (zz_i (x)))] := hl
  obtain ⟨j1, j2, j3, j4, j5, j6, j7, j8, j9, j10⟩ := id hI
  have hiX2 : ∀ w ∈ wsX20, w ∈ wsX2_trayAt := by decide +kernel
  have hf238 := hts (.fieldLink RX2 238 "SorterSteps" "positionOfFirstTray" "I") (by decide +kernel)
  refine lv_aload_n hx hb dX2_trayAt_0 rfl (lv_at hl 0 rfl) ?_
  refine lv_iload_n hx hb dX2_trayAt_1 rfl (lv_at hl 1 rfl) ?_
  refine lv_aload_n hx hb dX2_trayAt_2 rfl (lv_at hl 0 rfl) ?_
  refine va_get (D := D) (ci := 2) (v := .int (zz_i (σ 8 0))) (C := RX2) (T := TX2) (N := 10) hx hb hts hiX2 hown hK hP (0) rfl rfl 8 (by decide) hf238 (fun _ h9 => h9) rfl dX2_trayAt_3 ?_
  refine zz_isub hx hb dX2_trayAt_6 ?_
  refine zc_v (As := [.int (zz_i (x - (σ 8 0)))]) (rest := []) (S := Unit) (pc := 7) ⟨hx, hb, hml, hown, hts⟩ (c_intoLoop l D cy ga ad σ _ hI (x - (σ 8 0)) (by omega)) (cwV 1 hts gX2_trayAt_X2_intoLoop rfl rfl rfl (by decide +kernel) ⟨Nat.le_of_ble_eq_true rfl, Nat.le_of_ble_eq_true rfl⟩) hK hP hD hS hA hE (va_recv hK hP (ci := 2) (q0 := 0) rfl rfl) rfl hl.1 rfl (Nat.le_of_ble_eq_true rfl) dX2_trayAt_7 ⟨Nat.le_of_ble_eq_true rfl, Nat.le_of_ble_eq_true rfl⟩ (fun _ H locs k1 hP hD hS => ?_)
  refine W.eq (g2 := F0 m 10 ls [.int (zz_i (sp_in σ (x - (σ 8 0))))]) rfl ?_
  have b1_0 := sp_in_b σ (x - (σ 8 0))
  have hv9 : sp_tr σ x = sp_in σ (x - (σ 8 0)) := by rfl
  have hw9 : cw_ cy ga ad σ = cw_ cy ga ad σ := by rfl
  subst hAe
  exact W.iret (v := zz_i (sp_in σ (x - (σ 8 0)))) hx hb hr (fun t ht hW => ⟨congrArg (fun z => Outcome.returned (some (Value.int (zz_i z)))) hv9.symm, ⟨(), trivial, by rw [ht, hw9]; exact hP, va_K.moved hW.alike hK, by rw [hw9]; exact hD⟩, hS.F ht⟩) hS.2.2 dX2_trayAt_10

set_option maxHeartbeats 4000000 in
set_option maxRecDepth 100000 in
theorem c_isChute (l : Launch) (D : va_G) (cy ga : Nat → Nat) (ad : Int → Nat) (σ : zz_S) (sz : Nat) (hI : iw_ σ) (x : Int) (q_x : (-2147483648 ≤ x ∧ x < 2147483648)) : Met l yX2_isChute wsX2_isChute ({ frames := 0, cells := 0, slots := 0, locals := 0 }) (ct_P D cy [.ref (ga 0), .int (zz_i (x))] (cw_ cy ga ad σ) sz) (ct_Q D cy (cw_ cy ga ad σ) sz (some (.int (zz_i (sp_ch σ x)))) (fun _ : Unit => True) (fun _ => cw_ cy ga ad σ)) 0 0 (va_A (cw_ cy ga ad σ) sz) := by
  refine Met.ofW (cc := cX2_isChute) (maxL := 2) (ret := (some .boolean)) (by decide) rfl ?_
  intro p e s m args below meth c s₁ B hml hv
  obtain ⟨rfl, rfl, hP, hK, hD0, hE⟩ := hv
  have hx := B.exec
  have hb := B.bytes
  have hr := B.returns
  have hts := atoms_spec (ws := wsX2_isChute) B.pre
  have hown : s.vm.findClass RX2 = some m.cls := findClass_of_methodNamed B.named
  have hlocks := B.notSynchronized
  have hD := hD0.self (sz := s.heap.size)
  obtain ⟨A, hAe⟩ : ∃ A, A = va_A (cw_ cy ga ad σ) s.heap.size := ⟨_, rfl⟩
  rw [← hAe] at hD hE
  have hA : ∀ q : Nat, s.heap.size ≤ q → A q := fun q h => by rw [hAe]; exact Or.inr h
  have hS : va_S A s.heap s.heap [] := va_S.rf
  have hP : va_P D zz_cl (cw_ cy ga ad σ) s.heap := hP
  have hl := lv_entry ([.ref (ga 0), .int (zz_i (x))]) (n := 2) (Nat.le_of_ble_eq_true rfl)
  rw [lg_entry_eq]
  generalize (lg_sl ([.ref (ga 0), .int (zz_i (x))]) ++ List.replicate (2 - (lg_sl ([.ref (ga 0), .int (zz_i (x))])).length) Slot.unset).toArray = ls at hl ⊢
  have hl : lv_has ls 2 [(0, .ref (ga 0)), (1, .int (zz_i (x)))] := hl
  obtain ⟨j1, j2, j3, j4, j5, j6, j7, j8, j9, j10⟩ := id hI
  have hiX2 : ∀ w ∈ wsX20, w ∈ wsX2_isChute := by decide +kernel
  have hf43 := hts (.fieldLink RX2 43 "SorterSteps" "fullChutes" "[Z") (by decide +kernel)
  refine lv_iload_n hx hb dX2_isChute_0 rfl (lv_at hl 1 rfl) ?_
  refine lv_iconst (v := zz_i (1)) hx hb dX2_isChute_1 rfl ?_
  refine zz_icmp_lt (tgt := 18) hx hb dX2_isChute_2 (by decide) (by omega) (by omega) (fun c1 => ?_) (fun c1 => ?_)
  · refine lv_iconst (v := zz_i (0)) hx hb dX2_isChute_18 rfl ?_
    have hv9 : sp_ch σ x = 0 := by unfold sp_ch; (repeat (first | rw [if_pos (by omega)] | rw [if_neg (by omega)])) <;> first | rfl | omega
    have hw9 : cw_ cy ga ad σ = cw_ cy ga ad σ := by rfl
    subst hAe
    exact W.zret (v := zz_i (0)) (ty := .boolean) hx hb hr (zz_narB (by omega)) (fun t ht hW => ⟨congrArg (fun z => Outcome.returned (some (Value.int (zz_i z)))) hv9.symm, ⟨(), trivial, by rw [ht, hw9]; exact hP, va_K.moved hW.alike hK, by rw [hw9]; exact hD⟩, hS.F ht⟩) hS.2.2 dX2_isChute_19
  · refine lv_iload_n hx hb dX2_isChute_5 rfl (lv_at hl 1 rfl) ?_
    refine lv_aload_n hx hb dX2_isChute_6 rfl (lv_at hl 0 rfl) ?_
    refine va_get (D := D) (ci := 2) (v := .ref (ga 2)) (C := RX2) (T := TX2) (N := 10) hx hb hts hiX2 hown hK hP (0) rfl rfl 1 (by decide) hf43 (fun _ h9 => h9) rfl dX2_isChute_7 ?_
    refine va_alen hx hb hK hP 2 1 rfl rfl (v := zz_i (σ 28 0 + 1)) (zz_len (show 0 ≤ σ 28 0 + 1 ∧ σ 28 0 + 1 < 2147483648 by omega)) dX2_isChute_10 ?_
    refine zz_icmp_ge (tgt := 18) hx hb dX2_isChute_11 (by decide) (by omega) (by omega) (fun c2 => ?_) (fun c2 => ?_)
    · refine lv_iconst (v := zz_i (0)) hx hb dX2_isChute_18 rfl ?_
      have hv9 : sp_ch σ x = 0 := by unfold sp_ch; (repeat (first | rw [if_pos (by omega)] | rw [if_neg (by omega)])) <;> first | rfl | omega
      have hw9 : cw_ cy ga ad σ = cw_ cy ga ad σ := by rfl
      subst hAe
      exact W.zret (v := zz_i (0)) (ty := .boolean) hx hb hr (zz_narB (by omega)) (fun t ht hW => ⟨congrArg (fun z => Outcome.returned (some (Value.int (zz_i z)))) hv9.symm, ⟨(), trivial, by rw [ht, hw9]; exact hP, va_K.moved hW.alike hK, by rw [hw9]; exact hD⟩, hS.F ht⟩) hS.2.2 dX2_isChute_19
    · refine lv_iconst (v := zz_i (1)) hx hb dX2_isChute_14 rfl ?_
      refine lv_goto (tgt := 19) hx hb dX2_isChute_15 (by decide) ?_
      have hv9 : sp_ch σ x = 1 := by unfold sp_ch; (repeat (first | rw [if_pos (by omega)] | rw [if_neg (by omega)])) <;> first | rfl | omega
      have hw9 : cw_ cy ga ad σ = cw_ cy ga ad σ := by rfl
      subst hAe
      exact W.zret (v := zz_i (1)) (ty := .boolean) hx hb hr (zz_narB (by omega)) (fun t ht hW => ⟨congrArg (fun z => Outcome.returned (some (Value.int (zz_i z)))) hv9.symm, ⟨(), trivial, by rw [ht, hw9]; exact hP, va_K.moved hW.alike hK, by rw [hw9]; exact hD⟩, hS.F ht⟩) hS.2.2 dX2_isChute_19

set_option maxHeartbeats 4000000 in
set_option maxRecDepth 100000 in
theorem c_isFull (l : Launch) (D : va_G) (cy ga : Nat → Nat) (ad : Int → Nat) (σ : zz_S) (sz : Nat) (hI : iw_ σ) (j12 : ∀ c, σ 11 c = 0 ∨ σ 11 c = 1) (x : Int) (q_x : (-2147483648 ≤ x ∧ x < 2147483648)) : Met l yX2_isFull wsX2_isFull ({ frames := 1, cells := 0, slots := 0, locals := 21 }) (ct_P D cy [.ref (ga 0), .int (zz_i (x))] (cw_ cy ga ad σ) sz) (ct_Q D cy (cw_ cy ga ad σ) sz (some (.int (zz_i (sp_fu σ x)))) (fun _ : Unit => True) (fun _ => cw_ cy ga ad σ)) 0 0 (va_A (cw_ cy ga ad σ) sz) := by
  refine Met.ofW (cc := cX2_isFull) (maxL := 2) (ret := (some .boolean)) (by decide) rfl ?_
  intro p e s m args below meth c s₁ B hml hv
  obtain ⟨rfl, rfl, hP, hK, hD0, hE⟩ := hv
  have hx := B.exec
  have hb := B.bytes
  have hr := B.returns
  have hts := atoms_spec (ws := wsX2_isFull) B.pre
  have hown : s.vm.findClass RX2 = some m.cls := findClass_of_methodNamed B.named
  have hlocks := B.notSynchronized
  have hD := hD0.self (sz := s.heap.size)
  obtain ⟨A, hAe⟩ : ∃ A, A = va_A (cw_ cy ga ad σ) s.heap.size := ⟨_, rfl⟩
  rw [← hAe] at hD hE
  have hA : ∀ q : Nat, s.heap.size ≤ q → A q := fun q h => by rw [hAe]; exact Or.inr h
  have hS : va_S A s.heap s.heap [] := va_S.rf
  have hP : va_P D zz_cl (cw_ cy ga ad σ) s.heap := hP
  have hl := lv_entry ([.ref (ga 0), .int (zz_i (x))]) (n := 2) (Nat.le_of_ble_eq_true rfl)
  rw [lg_entry_eq]
  generalize (lg_sl ([.ref (ga 0), .int (zz_i (x))]) ++ List.replicate (2 - (lg_sl ([.ref (ga 0), .int (zz_i (x))])).length) Slot.unset).toArray = ls at hl ⊢
  have hl : lv_has ls 2 [(0, .ref (ga 0)), (1, .int (zz_i (x)))] := hl
  obtain ⟨j1, j2, j3, j4, j5, j6, j7, j8, j9, j10⟩ := id hI
  have j12x := j12 x
  have hiX2 : ∀ w ∈ wsX20, w ∈ wsX2_isFull := by decide +kernel
  have hf43 := hts (.fieldLink RX2 43 "SorterSteps" "fullChutes" "[Z") (by decide +kernel)
  refine lv_aload_n hx hb dX2_isFull_0 rfl (lv_at hl 0 rfl) ?_
  refine lv_iload_n hx hb dX2_isFull_1 rfl (lv_at hl 1 rfl) ?_
  refine zc_v (As := [.int (zz_i (x))]) (rest := []) (S := Unit) (pc := 2) ⟨hx, hb, hml, hown, hts⟩ (c_isChute l D cy ga ad σ _ hI (x) (by omega)) (cwV 1 hts gX2_isFull_X2_isChute rfl rfl rfl (by decide +kernel) ⟨Nat.le_of_ble_eq_true rfl, Nat.le_of_ble_eq_true rfl⟩) hK hP hD hS hA hE (va_recv hK hP (ci := 2) (q0 := 0) rfl rfl) rfl hl.1 rfl (Nat.le_of_ble_eq_true rfl) dX2_isFull_2 ⟨Nat.le_of_ble_eq_true rfl, Nat.le_of_ble_eq_true rfl⟩ (fun _ H locs k1 hP hD hS => ?_)
  refine W.eq (g2 := F0 m 5 ls [.int (zz_i (sp_ch σ (x)))]) rfl ?_
  have b1_0 := sp_ch_b σ (x)
  refine zz_if_eq (tgt := 21) hx hb dX2_isFull_5 (by decide) (by omega) (fun c2 => ?_) (fun c2 => ?_)
  · refine lv_iconst (v := zz_i (0)) hx hb dX2_isFull_21 rfl ?_
    have hv9 : sp_fu σ x = 0 := by unfold sp_fu; (repeat (first | rw [if_pos (by omega)] | rw [if_neg (by omega)])) <;> first | rfl | omega
    have hw9 : cw_ cy ga ad σ = cw_ cy ga ad σ := by rfl
    subst hAe
    exact W.zret (v := zz_i (0)) (ty := .boolean) hx hb hr (zz_narB (by omega)) (fun t ht hW => ⟨congrArg (fun z => Outcome.returned (some (Value.int (zz_i z)))) hv9.symm, ⟨(), trivial, by rw [ht, hw9]; exact hP, va_K.moved hW.alike hK, by rw [hw9]; exact hD⟩, hS.F ht⟩) hS.2.2 dX2_isFull_22
  · refine lv_aload_n hx hb dX2_isFull_8 rfl (lv_at hl 0 rfl) ?_
    refine va_get (D := D) (ci := 2) (v := .ref (ga 2)) (C := RX2) (T := TX2) (N := 10) hx hb hts hiX2 hown hK hP (0) rfl rfl 1 (by decide) hf43 (fun _ h9 => h9) rfl dX2_isFull_9 ?_
    refine lv_iload_n hx hb dX2_isFull_12 rfl (lv_at hl 1 rfl) ?_
    refine zz_zald hx hb hK hP 2 1 rfl rfl (show 0 ≤ x ∧ x < (((σ 28 0 + 1).toNat : Nat) : Int) by omega) (show (σ 28 0 + 1).toNat < 2147483648 by omega) dX2_isFull_13 ?_
    refine zz_if_eq (tgt := 21) hx hb dX2_isFull_14 (by decide) (by omega) (fun c3 => ?_) (fun c3 => ?_)
    · refine lv_iconst (v := zz_i (0)) hx hb dX2_isFull_21 rfl ?_
      have hv9 : sp_fu σ x = 0 := by unfold sp_fu; (repeat (first | rw [if_pos (by omega)] | rw [if_neg (by omega)])) <;> first | rfl | omega
      have hw9 : cw_ cy ga ad σ = cw_ cy ga ad σ := by rfl
      subst hAe
      exact W.zret (v := zz_i (0)) (ty := .boolean) hx hb hr (zz_narB (by omega)) (fun t ht hW => ⟨congrArg (fun z => Outcome.returned (some (Value.int (zz_i z)))) hv9.symm, ⟨(), trivial, by rw [ht, hw9]; exact hP, va_K.moved hW.alike hK, by rw [hw9]; exact hD⟩, hS.F ht⟩) hS.2.2 dX2_isFull_22
    · refine lv_iconst (v := zz_i (1)) hx hb dX2_isFull_17 rfl ?_
      refine lv_goto (tgt := 22) hx hb dX2_isFull_18 (by decide) ?_
      have hv9 : sp_fu σ x = 1 := by unfold sp_fu; (repeat (first | rw [if_pos (by omega)] | rw [if_neg (by omega)])) <;> first | rfl | omega
      have hw9 : cw_ cy ga ad σ = cw_ cy ga ad σ := by rfl
      subst hAe
      exact W.zret (v := zz_i (1)) (ty := .boolean) hx hb hr (zz_narB (by omega)) (fun t ht hW => ⟨congrArg (fun z => Outcome.returned (some (Value.int (zz_i z)))) hv9.symm, ⟨(), trivial, by rw [ht, hw9]; exact hP, va_K.moved hW.alike hK, by rw [hw9]; exact hD⟩, hS.F ht⟩) hS.2.2 dX2_isFull_22

set_option maxHeartbeats 4000000 in
set_option maxRecDepth 100000 in
theorem c_setFull (l : Launch) (D : va_G) (cy ga : Nat → Nat) (ad : Int → Nat) (σ : zz_S) (sz : Nat) (hI : iw_ σ) (x f : Int) (q_x : 1 ≤ x ∧ x ≤ σ 28 0) (q_f : f = 0 ∨ f = 1) : Met l yX2_setFull wsX2_setFull ({ frames := 1, cells := 0, slots := 0, locals := 21 }) (ct_P D cy [.ref (ga 0), .int (zz_i (x)), .int (zz_i (f))] (cw_ cy ga ad σ) sz) (ct_Q D cy (cw_ cy ga ad σ) sz none (fun _ : Unit => True) (fun _ => cw_ cy ga ad (up_a σ 11 x f))) 0 0 (va_A (cw_ cy ga ad σ) sz) := by
  refine Met.ofW (cc := cX2_setFull) (maxL := 3) (ret := none) (by decide) rfl ?_
  intro p e s m args below meth c s₁ B hml hv
  obtain ⟨rfl, rfl, hP, hK, hD0, hE⟩ := hv
  have hx := B.exec
  have hb := B.bytes
  have hr := B.returns
  have hts := atoms_spec (ws := wsX2_setFull) B.pre
  have hown : s.vm.findClass RX2 = some m.cls := findClass_of_methodNamed B.named
  have hlocks := B.notSynchronized
  have hD := hD0.self (sz := s.heap.size)
  obtain ⟨A, hAe⟩ : ∃ A, A = va_A (cw_ cy ga ad σ) s.heap.size := ⟨_, rfl⟩
  rw [← hAe] at hD hE
  have hA : ∀ q : Nat, s.heap.size ≤ q → A q := fun q h => by rw [hAe]; exact Or.inr h
  have hS : va_S A s.heap s.heap [] := va_S.rf
  have hP : va_P D zz_cl (cw_ cy ga ad σ) s.heap := hP
  have hl := lv_entry ([.ref (ga 0), .int (zz_i (x)), .int (zz_i (f))]) (n := 3) (Nat.le_of_ble_eq_true rfl)
  rw [lg_entry_eq]
  generalize (lg_sl ([.ref (ga 0), .int (zz_i (x)), .int (zz_i (f))]) ++ List.replicate (3 - (lg_sl ([.ref (ga 0), .int (zz_i (x)), .int (zz_i (f))])).length) Slot.unset).toArray = ls at hl ⊢
  have hl : lv_has ls 3 [(0, .ref (ga 0)), (1, .int (zz_i (x))), (2, .int (zz_i (f)))] := hl
  obtain ⟨j1, j2, j3, j4, j5, j6, j7, j8, j9, j10⟩ := id hI
  have hiX2 : ∀ w ∈ wsX20, w ∈ wsX2_setFull := by decide +kernel
  have hf43 := hts (.fieldLink RX2 43 "SorterSteps" "fullChutes" "[Z") (by decide +kernel)
  refine lv_aload_n hx hb dX2_setFull_0 rfl (lv_at hl 0 rfl) ?_
  refine lv_iload_n hx hb dX2_setFull_1 rfl (lv_at hl 1 rfl) ?_
  refine zc_v (As := [.int (zz_i (x))]) (rest := []) (S := Unit) (pc := 2) ⟨hx, hb, hml, hown, hts⟩ (c_isChute l D cy ga ad σ _ hI (x) (by omega)) (cwV 1 hts gX2_setFull_X2_isChute rfl rfl rfl (by decide +kernel) ⟨Nat.le_of_ble_eq_true rfl, Nat.le_of_ble_eq_true rfl⟩) hK hP hD hS hA hE (va_recv hK hP (ci := 2) (q0 := 0) rfl rfl) rfl hl.1 rfl (Nat.le_of_ble_eq_true rfl) dX2_setFull_2 ⟨Nat.le_of_ble_eq_true rfl, Nat.le_of_ble_eq_true rfl⟩ (fun _ H locs k1 hP hD hS => ?_)
  refine W.eq (g2 := F0 m 5 ls [.int (zz_i (sp_ch σ (x)))]) rfl ?_
  have b1_0 := sp_ch_b σ (x)
  refine zz_if_eq (tgt := 15) hx hb dX2_setFull_5 (by decide) (by omega) (fun c2 => ?_) (fun c2 => ?_)
  · exact absurd c2 (by omega)
  · refine lv_aload_n hx hb dX2_setFull_8 rfl (lv_at hl 0 rfl) ?_
    refine va_get (D := D) (ci := 2) (v := .ref (ga 2)) (C := RX2) (T := TX2) (N := 10) hx hb hts hiX2 hown hK hP (0) rfl rfl 1 (by decide) hf43 (fun _ h9 => h9) rfl dX2_setFull_9 ?_
    refine lv_iload_n hx hb dX2_setFull_12 rfl (lv_at hl 1 rfl) ?_
    refine lv_iload_n hx hb dX2_setFull_13 rfl (lv_at hl 2 rfl) ?_
    refine zz_zast hx hb hK hP hD hS 2 1 rfl rfl (show 0 ≤ x ∧ x < (((σ 28 0 + 1).toNat : Nat) : Int) by omega) (show (σ 28 0 + 1).toNat < 2147483648 by omega) (by omega) dX2_setFull_14 (fun H locs hP hD hS => ?_)
    have hP : va_P D zz_cl (cw_ cy ga ad (up_a σ 11 (x) (f))) H := hP
    have hD : va_D A (cw_ cy ga ad (up_a σ 11 (x) (f))) := hD
    have hw9 : cw_ cy ga ad (up_a σ 11 x f) = cw_ cy ga ad (up_a σ 11 (x) (f)) := by rfl
    subst hAe
    exact W.vret hx hb hr (fun t ht hW => ⟨rfl, ⟨(), trivial, by rw [ht, hw9]; exact hP, va_K.moved hW.alike hK, by rw [hw9]; exact hD⟩, hS.F ht⟩) hS.2.2 dX2_setFull_15

set_option maxHeartbeats 4000000 in
set_option maxRecDepth 100000 in
theorem c_itemAt (l : Launch) (D : va_G) (cy ga : Nat → Nat) (ad : Int → Nat) (σ : zz_S) (sz : Nat) (hI : iw_ σ) (x : Int) (q_x : 0 ≤ x ∧ x < σ 0 0) : Met l yX2_itemAt wsX2_itemAt ({ frames := 2, cells := 0, slots := 0, locals := 42 }) (ct_P D cy [.ref (ga 0), .int (zz_i (x))] (cw_ cy ga ad σ) sz) (ct_Q D cy (cw_ cy ga ad σ) sz (some (va_rf (aq_ ad (σ 10 (sp_tr σ x))))) (fun _ : Unit => True) (fun _ => cw_ cy ga ad σ)) 0 0 (va_A (cw_ cy ga ad σ) sz) := by
  refine Met.ofW (cc := cX2_itemAt) (maxL := 3) (ret := (some (.object "SorterSteps$Item"))) (by decide) rfl ?_
  intro p e s m args below meth c s₁ B hml hv
  obtain ⟨rfl, rfl, hP, hK, hD0, hE⟩ := hv
  have hx := B.exec
  have hb := B.bytes
  have hr := B.returns
  have hts := atoms_spec (ws := wsX2_itemAt) B.pre
  have hown : s.vm.findClass RX2 = some m.cls := findClass_of_methodNamed B.named
  have hlocks := B.notSynchronized
  have hD := hD0.self (sz := s.heap.size)
  obtain ⟨A, hAe⟩ : ∃ A, A = va_A (cw_ cy ga ad σ) s.heap.size := ⟨_, rfl⟩
  rw [← hAe] at hD hE
  have hA : ∀ q : Nat, s.heap.size ≤ q → A q := fun q h => by rw [hAe]; exact Or.inr h
  have hS : va_S A s.heap s.heap [] := va_S.rf
  have hP : va_P D zz_cl (cw_ cy ga ad σ) s.heap := hP
  have hl := lv_entry ([.ref (ga 0), .int (zz_i (x))]) (n := 3) (Nat.le_of_ble_eq_true rfl)
  rw [lg_entry_eq]
  generalize (lg_sl ([.ref (ga 0), .int (zz_i (x))]) ++ List.replicate (3 - (lg_sl ([.ref (ga 0), .int (zz_i (x))])).length) Slot.unset).toArray = ls at hl ⊢
  have hl : lv_has ls 3 [(0, .ref (ga 0)), (1, .int (zz_i (x)))] := hl
  obtain ⟨j1, j2, j3, j4, j5, j6, j7, j8, j9, j10⟩ := id hI
  have hiX2 : ∀ w ∈ wsX20, w ∈ wsX2_itemAt := by decide +kernel
  have hf39 := hts (.fieldLink RX2 39 "SorterSteps" "onTrays" "[LSorterSteps$Item;") (by decide +kernel)
  refine lv_aload_n hx hb dX2_itemAt_0 rfl (lv_at hl 0 rfl) ?_
  refine lv_iload_n hx hb dX2_itemAt_1 rfl (lv_at hl 1 rfl) ?_
  refine zc_v (As := [.int (zz_i (x))]) (rest := []) (S := Unit) (pc := 2) ⟨hx, hb, hml, hown, hts⟩ (c_trayAt l D cy ga ad σ _ hI (x) (by omega)) (cwV 1 hts gX2_itemAt_X2_trayAt rfl rfl rfl (by decide +kernel) ⟨Nat.le_of_ble_eq_true rfl, Nat.le_of_ble_eq_true rfl⟩) hK hP hD hS hA hE (va_recv hK hP (ci := 2) (q0 := 0) rfl rfl) rfl hl.1 rfl (Nat.le_of_ble_eq_true rfl) dX2_itemAt_2 ⟨Nat.le_of_ble_eq_true rfl, Nat.le_of_ble_eq_true rfl⟩ (fun _ H locs k1 hP hD hS => ?_)
  refine W.eq (g2 := F0 m 5 ls [.int (zz_i (sp_tr σ (x)))]) rfl ?_
  have b1_0 := sp_tr_b σ (x)
  have b1_1 := sp_in_b σ (x - σ 8 0)
  refine lv_istore_n (lv' := [(2, .int (zz_i (sp_tr σ (x)))), (0, .ref (ga 0)), (1, .int (zz_i (x)))]) hx hb dX2_itemAt_5 rfl hl (by decide) rfl (fun ls hl => ?_)
  refine lv_aload_n hx hb dX2_itemAt_6 rfl (lv_at hl 1 rfl) ?_
  refine lv_iload_n hx hb dX2_itemAt_7 rfl (lv_at hl 0 rfl) ?_
  refine zc_v (As := [.int (zz_i (sp_tr σ (x)))]) (rest := []) (S := Unit) (pc := 8) ⟨hx, hb, hml, hown, hts⟩ (c_isInLoop l D cy ga ad σ _ hI (sp_tr σ (x)) (by omega)) (cwV 1 hts gX2_itemAt_X2_isInLoop rfl rfl rfl (by decide +kernel) ⟨Nat.le_of_ble_eq_true rfl, Nat.le_of_ble_eq_true rfl⟩) hK hP hD hS hA hE (va_recv hK hP (ci := 2) (q0 := 0) rfl rfl) rfl hl.1 rfl (Nat.le_of_ble_eq_true rfl) dX2_itemAt_8 ⟨Nat.le_of_ble_eq_true rfl, Nat.le_of_ble_eq_true rfl⟩ (fun _ H locs k2 hP hD hS => ?_)
  refine W.eq (g2 := F0 m 11 ls [.int (zz_i (sp_il σ (sp_tr σ (x))))]) rfl ?_
  have b2_0 := sp_il_b σ (sp_tr σ (x))
  refine zz_if_eq (tgt := 23) hx hb dX2_itemAt_11 (by decide) (by omega) (fun c3 => ?_) (fun c3 => ?_)
  · exact absurd c3 (by omega)
  · refine lv_aload_n hx hb dX2_itemAt_14 rfl (lv_at hl 1 rfl) ?_
    refine va_get (D := D) (ci := 2) (v := .ref (ga 1)) (C := RX2) (T := TX2) (N := 10) hx hb hts hiX2 hown hK hP (0) rfl rfl 0 (by decide) hf39 (fun _ h9 => h9) rfl dX2_itemAt_15 ?_
    refine lv_iload_n hx hb dX2_itemAt_18 rfl (lv_at hl 0 rfl) ?_
    refine zz_aald hx hb hK hP 1 2 rfl rfl (show 0 ≤ sp_tr σ (x) ∧ sp_tr σ (x) < (((σ 0 0).toNat : Nat) : Int) by omega) (show (σ 0 0).toNat < 2147483648 by omega) dX2_itemAt_19 ?_
    rcases aq_or ad (σ 10 (sp_tr σ (x))) with ⟨c4, hv⟩ | ⟨c4, hv⟩
    · refine W.eq (g2 := F0 m 20 ls [.null]) (congrArg (fun z => F0 m 20 ls (z :: [])) hv) ?_
      refine lv_goto (tgt := 24) hx hb dX2_itemAt_20 (by decide) ?_
      have hv9 : σ 10 (sp_tr σ x) = 0 := by omega
      have hw9 : cw_ cy ga ad σ = cw_ cy ga ad σ := by rfl
      subst hAe
      exact W.aret (v := .null) hx hb hr (Or.inl ⟨_, rfl⟩) (Or.inl rfl) (fun t ht hW => ⟨by rw [hv9]; exact congrArg (fun z => Outcome.returned (some z)) rfl, ⟨(), trivial, by rw [ht, hw9]; exact hP, va_K.moved hW.alike hK, by rw [hw9]; exact hD⟩, hS.F ht⟩) hS.2.2 dX2_itemAt_24
    · refine W.eq (g2 := F0 m 20 ls [.ref (ad (σ 10 (sp_tr σ (x))))]) (congrArg (fun z => F0 m 20 ls (z :: [])) hv) ?_
      refine lv_goto (tgt := 24) hx hb dX2_itemAt_20 (by decide) ?_
      have hv9 : σ 10 (sp_tr σ x) = σ 10 (sp_tr σ (x)) := by omega
      have hw9 : cw_ cy ga ad σ = cw_ cy ga ad σ := by rfl
      subst hAe
      exact W.aret (v := .ref (ad (σ 10 (sp_tr σ (x))))) hx hb hr (Or.inl ⟨_, rfl⟩) (Or.inr ⟨_, rfl⟩) (fun t ht hW => ⟨by rw [hv9]; exact congrArg (fun z => Outcome.returned (some z)) (by rw [aq_n (by omega)]; rfl), ⟨(), trivial, by rw [ht, hw9]; exact hP, va_K.moved hW.alike hK, by rw [hw9]; exact hD⟩, hS.F ht⟩) hS.2.2 dX2_itemAt_24

set_option maxHeartbeats 4000000 in
set_option maxRecDepth 100000 in
theorem c_positionOf (l : Launch) (D : va_G) (cy ga : Nat → Nat) (ad : Int → Nat) (σ : zz_S) (sz : Nat) (hI : iw_ σ) (i : Int) (hi : 1 ≤ i ∧ i ≤ σ 4 0) (hq : -1 ≤ σ 18 i ∧ σ 18 i < σ 0 0) : Met l yX2_positionOf wsX2_positionOf ({ frames := 1, cells := 0, slots := 0, locals := 21 }) (ct_P D cy [.ref (ga 0), .ref (ad i)] (cw_ cy ga ad σ) sz) (ct_Q D cy (cw_ cy ga ad σ) sz (some (.int (zz_i (sp_po σ i)))) (fun _ : Unit => True) (fun _ => cw_ cy ga ad σ)) 0 0 (va_A (cw_ cy ga ad σ) sz) := by
  refine Met.ofW (cc := cX2_positionOf) (maxL := 2) (ret := (some .int)) (by decide) rfl ?_
  intro p e s m args below meth c s₁ B hml hv
  obtain ⟨rfl, rfl, hP, hK, hD0, hE⟩ := hv
  have hx := B.exec
  have hb := B.bytes
  have hr := B.returns
  have hts := atoms_spec (ws := wsX2_positionOf) B.pre
  have hown : s.vm.findClass RX2 = some m.cls := findClass_of_methodNamed B.named
  have hlocks := B.notSynchronized
  have hD := hD0.self (sz := s.heap.size)
  obtain ⟨A, hAe⟩ : ∃ A, A = va_A (cw_ cy ga ad σ) s.heap.size := ⟨_, rfl⟩
  rw [← hAe] at hD hE
  have hA : ∀ q : Nat, s.heap.size ≤ q → A q := fun q h => by rw [hAe]; exact Or.inr h
  have hS : va_S A s.heap s.heap [] := va_S.rf
  have hP : va_P D zz_cl (cw_ cy ga ad σ) s.heap := hP
  have hl := lv_entry ([.ref (ga 0), .ref (ad i)]) (n := 2) (Nat.le_of_ble_eq_true rfl)
  rw [lg_entry_eq]
  generalize (lg_sl ([.ref (ga 0), .ref (ad i)]) ++ List.replicate (2 - (lg_sl ([.ref (ga 0), .ref (ad i)])).length) Slot.unset).toArray = ls at hl ⊢
  have hl : lv_has ls 2 [(0, .ref (ga 0)), (1, .ref (ad i))] := hl
  obtain ⟨j1, j2, j3, j4, j5, j6, j7, j8, j9, j10⟩ := id hI
  have hiX0 : ∀ w ∈ wsX00, w ∈ wsX2_positionOf := by decide +kernel
  have hf115 := hts (.fieldLink RX2 115 "SorterSteps$Item" "tray" "I") (by decide +kernel)
  have hiX2 : ∀ w ∈ wsX20, w ∈ wsX2_positionOf := by decide +kernel
  have hf238 := hts (.fieldLink RX2 238 "SorterSteps" "positionOfFirstTray" "I") (by decide +kernel)
  refine lv_aload_n hx hb dX2_positionOf_0 rfl (lv_at hl 1 rfl) ?_
  refine va_get (D := D) (ci := 0) (v := .int (zz_i (σ 18 i))) (C := RX0) (T := TX0) (N := 12) hx hb hts hiX0 hown hK hP (9 + (i - 1).toNat) (cw_it (show 1 ≤ i ∧ i ≤ σ 4 0 by omega)) rfl 5 (by decide) hf115 (fun _ h9 => h9) rfl dX2_positionOf_1 ?_
  refine lv_iconst (v := zz_i (-1)) hx hb dX2_positionOf_4 rfl ?_
  refine zz_icmp_ne (tgt := 12) hx hb dX2_positionOf_5 (by decide) (by omega) (by omega) (fun c1 => ?_) (fun c1 => ?_)
  · refine lv_aload_n hx hb dX2_positionOf_12 rfl (lv_at hl 0 rfl) ?_
    refine lv_aload_n hx hb dX2_positionOf_13 rfl (lv_at hl 1 rfl) ?_
    refine va_get (D := D) (ci := 0) (v := .int (zz_i (σ 18 i))) (C := RX0) (T := TX0) (N := 12) hx hb hts hiX0 hown hK hP (9 + (i - 1).toNat) (cw_it (show 1 ≤ i ∧ i ≤ σ 4 0 by omega)) rfl 5 (by decide) hf115 (fun _ h9 => h9) rfl dX2_positionOf_14 ?_
    refine lv_aload_n hx hb dX2_positionOf_17 rfl (lv_at hl 0 rfl) ?_
    refine va_get (D := D) (ci := 2) (v := .int (zz_i (σ 8 0))) (C := RX2) (T := TX2) (N := 10) hx hb hts hiX2 hown hK hP (0) rfl rfl 8 (by decide) hf238 (fun _ h9 => h9) rfl dX2_positionOf_18 ?_
    refine zz_iadd hx hb dX2_positionOf_21 ?_
    refine zc_v (As := [.int (zz_i ((σ 18 i) + (σ 8 0)))]) (rest := []) (S := Unit) (pc := 22) ⟨hx, hb, hml, hown, hts⟩ (c_intoLoop l D cy ga ad σ _ hI ((σ 18 i) + (σ 8 0)) (by omega)) (cwV 1 hts gX2_positionOf_X2_intoLoop rfl rfl rfl (by decide +kernel) ⟨Nat.le_of_ble_eq_true rfl, Nat.le_of_ble_eq_true rfl⟩) hK hP hD hS hA hE (va_recv hK hP (ci := 2) (q0 := 0) rfl rfl) rfl hl.1 rfl (Nat.le_of_ble_eq_true rfl) dX2_positionOf_22 ⟨Nat.le_of_ble_eq_true rfl, Nat.le_of_ble_eq_true rfl⟩ (fun _ H locs k2 hP hD hS => ?_)
    refine W.eq (g2 := F0 m 25 ls [.int (zz_i (sp_in σ ((σ 18 i) + (σ 8 0))))]) rfl ?_
    have b2_0 := sp_in_b σ ((σ 18 i) + (σ 8 0))
    have hv9 : sp_po σ i = sp_in σ ((σ 18 i) + (σ 8 0)) := by unfold sp_po; (repeat (first | rw [if_pos (by omega)] | rw [if_neg (by omega)])) <;> first | rfl | omega
    have hw9 : cw_ cy ga ad σ = cw_ cy ga ad σ := by rfl
    subst hAe
    exact W.iret (v := zz_i (sp_in σ ((σ 18 i) + (σ 8 0)))) hx hb hr (fun t ht hW => ⟨congrArg (fun z => Outcome.returned (some (Value.int (zz_i z)))) hv9.symm, ⟨(), trivial, by rw [ht, hw9]; exact hP, va_K.moved hW.alike hK, by rw [hw9]; exact hD⟩, hS.F ht⟩) hS.2.2 dX2_positionOf_25
  · refine lv_iconst (v := zz_i (-1)) hx hb dX2_positionOf_8 rfl ?_
    refine lv_goto (tgt := 25) hx hb dX2_positionOf_9 (by decide) ?_
    have hv9 : sp_po σ i = -1 := by unfold sp_po; (repeat (first | rw [if_pos (by omega)] | rw [if_neg (by omega)])) <;> first | rfl | omega
    have hw9 : cw_ cy ga ad σ = cw_ cy ga ad σ := by rfl
    subst hAe
    exact W.iret (v := zz_i (-1)) hx hb hr (fun t ht hW => ⟨congrArg (fun z => Outcome.returned (some (Value.int (zz_i z)))) hv9.symm, ⟨(), trivial, by rw [ht, hw9]; exact hP, va_K.moved hW.alike hK, by rw [hw9]; exact hD⟩, hS.F ht⟩) hS.2.2 dX2_positionOf_25

set_option maxHeartbeats 4000000 in
set_option maxRecDepth 100000 in
theorem c_putOnTray (l : Launch) (D : va_G) (cy ga : Nat → Nat) (ad : Int → Nat) (σ : zz_S) (sz : Nat) (hI : iw_ σ) (i t : Int) (hi : 1 ≤ i ∧ i ≤ σ 4 0) (ht : 0 ≤ t ∧ t < σ 0 0) : Met l yX2_putOnTray wsX2_putOnTray ({ frames := 1, cells := 0, slots := 0, locals := 21 }) (ct_P D cy [.ref (ga 0), .ref (ad i), .int (zz_i (t))] (cw_ cy ga ad σ) sz) (ct_Q D cy (cw_ cy ga ad σ) sz none (fun _ : Unit => True) (fun _ => cw_ cy ga ad (sp_pu σ i t))) 0 0 (va_A (cw_ cy ga ad σ) sz) := by
  refine Met.ofW (cc := cX2_putOnTray) (maxL := 3) (ret := none) (by decide) rfl ?_
  intro p e s m args below meth c s₁ B hml hv
  obtain ⟨rfl, rfl, hP, hK, hD0, hE⟩ := hv
  have hx := B.exec
  have hb := B.bytes
  have hr := B.returns
  have hts := atoms_spec (ws := wsX2_putOnTray) B.pre
  have hown : s.vm.findClass RX2 = some m.cls := findClass_of_methodNamed B.named
  have hlocks := B.notSynchronized
  have hD := hD0.self (sz := s.heap.size)
  obtain ⟨A, hAe⟩ : ∃ A, A = va_A (cw_ cy ga ad σ) s.heap.size := ⟨_, rfl⟩
  rw [← hAe] at hD hE
  have hA : ∀ q : Nat, s.heap.size ≤ q → A q := fun q h => by rw [hAe]; exact Or.inr h
  have hS : va_S A s.heap s.heap [] := va_S.rf
  have hP : va_P D zz_cl (cw_ cy ga ad σ) s.heap := hP
  have hl := lv_entry ([.ref (ga 0), .ref (ad i), .int (zz_i (t))]) (n := 3) (Nat.le_of_ble_eq_true rfl)
  rw [lg_entry_eq]
  generalize (lg_sl ([.ref (ga 0), .ref (ad i), .int (zz_i (t))]) ++ List.replicate (3 - (lg_sl ([.ref (ga 0), .ref (ad i), .int (zz_i (t))])).length) Slot.unset).toArray = ls at hl ⊢
  have hl : lv_has ls 3 [(0, .ref (ga 0)), (1, .ref (ad i)), (2, .int (zz_i (t)))] := hl
  obtain ⟨j1, j2, j3, j4, j5, j6, j7, j8, j9, j10⟩ := id hI
  have hiX2 : ∀ w ∈ wsX20, w ∈ wsX2_putOnTray := by decide +kernel
  have hf39 := hts (.fieldLink RX2 39 "SorterSteps" "onTrays" "[LSorterSteps$Item;") (by decide +kernel)
  have hiX0 : ∀ w ∈ wsX00, w ∈ wsX2_putOnTray := by decide +kernel
  have hf115 := hts (.fieldLink RX2 115 "SorterSteps$Item" "tray" "I") (by decide +kernel)
  have hf123 := hts (.fieldLink RX2 123 "SorterSteps$Item" "state" "I") (by decide +kernel)
  refine lv_aload_n hx hb dX2_putOnTray_0 rfl (lv_at hl 0 rfl) ?_
  refine lv_iload_n hx hb dX2_putOnTray_1 rfl (lv_at hl 2 rfl) ?_
  refine zc_v (As := [.int (zz_i (t))]) (rest := []) (S := Unit) (pc := 2) ⟨hx, hb, hml, hown, hts⟩ (c_isInLoop l D cy ga ad σ _ hI (t) (by omega)) (cwV 1 hts gX2_putOnTray_X2_isInLoop rfl rfl rfl (by decide +kernel) ⟨Nat.le_of_ble_eq_true rfl, Nat.le_of_ble_eq_true rfl⟩) hK hP hD hS hA hE (va_recv hK hP (ci := 2) (q0 := 0) rfl rfl) rfl hl.1 rfl (Nat.le_of_ble_eq_true rfl) dX2_putOnTray_2 ⟨Nat.le_of_ble_eq_true rfl, Nat.le_of_ble_eq_true rfl⟩ (fun _ H locs k1 hP hD hS => ?_)
  refine W.eq (g2 := F0 m 5 ls [.int (zz_i (sp_il σ (t)))]) rfl ?_
  have b1_0 := sp_il_b σ (t)
  refine zz_if_eq (tgt := 25) hx hb dX2_putOnTray_5 (by decide) (by omega) (fun c2 => ?_) (fun c2 => ?_)
  · exact absurd c2 (by omega)
  · refine lv_aload_n hx hb dX2_putOnTray_8 rfl (lv_at hl 0 rfl) ?_
    refine va_get (D := D) (ci := 2) (v := .ref (ga 1)) (C := RX2) (T := TX2) (N := 10) hx hb hts hiX2 hown hK hP (0) rfl rfl 0 (by decide) hf39 (fun _ h9 => h9) rfl dX2_putOnTray_9 ?_
    refine lv_iload_n hx hb dX2_putOnTray_12 rfl (lv_at hl 2 rfl) ?_
    refine lv_aload_n hx hb dX2_putOnTray_13 rfl (lv_at hl 1 rfl) ?_
    refine zz_aast hx hb hK hP hD hS 1 2 (9 + (i - 1).toNat) 0 rfl rfl (cw_it (show 1 ≤ i ∧ i ≤ σ 4 0 by omega)) rfl (show 0 ≤ t ∧ t < (((σ 0 0).toNat : Nat) : Int) by omega) (show (σ 0 0).toNat < 2147483648 by omega) (by omega) dX2_putOnTray_14 (fun H locs hP hD hS => ?_)
    have hP : va_P D zz_cl (cw_ cy ga ad (up_a σ 10 (t) (i))) H := hP
    have hD : va_D A (cw_ cy ga ad (up_a σ 10 (t) (i))) := hD
    refine lv_aload_n hx hb dX2_putOnTray_15 rfl (lv_at hl 1 rfl) ?_
    refine lv_iload_n hx hb dX2_putOnTray_16 rfl (lv_at hl 2 rfl) ?_
    refine va_put (D := D) (ci := 0) (v := .int (zz_i (t))) (ty := .int) (C := RX0) (T := TX0) (N := 12) hx hb hts hiX0 tyX0 tyX0_ok nmX0 hown hK hP hD hS (9 + (i - 1).toNat) (cw_it (show 1 ≤ i ∧ i ≤ σ 4 0 by omega)) rfl 5 (by decide) hf115 (fun _ h9 => h9) rfl (by decide +kernel) rfl rfl (Nat.le_of_ble_eq_true rfl) dX2_putOnTray_17 (fun H locs hP hD hS => ?_)
    rw [cw_si18 (σ := (up_a σ 10 (t) (i))) (show 1 ≤ i ∧ i ≤ σ 4 0 by omega)] at hP hD
    refine lv_aload_n hx hb dX2_putOnTray_20 rfl (lv_at hl 1 rfl) ?_
    refine lv_iconst (v := zz_i (1)) hx hb dX2_putOnTray_21 rfl ?_
    refine va_put (D := D) (ci := 0) (v := .int (zz_i (1))) (ty := .int) (C := RX0) (T := TX0) (N := 12) hx hb hts hiX0 tyX0 tyX0_ok nmX0 hown hK hP hD hS (9 + (i - 1).toNat) (cw_it (show 1 ≤ i ∧ i ≤ σ 4 0 by omega)) rfl 2 (by decide) hf123 (fun _ h9 => h9) rfl (by decide +kernel) rfl rfl (Nat.le_of_ble_eq_true rfl) dX2_putOnTray_22 (fun H locs hP hD hS => ?_)
    rw [cw_si13 (σ := (up_a (up_a σ 10 (t) (i)) 18 (i) (t))) (show 1 ≤ i ∧ i ≤ σ 4 0 by omega)] at hP hD
    have hw9 : cw_ cy ga ad (sp_pu σ i t) = cw_ cy ga ad (up_a (up_a (up_a σ 10 (t) (i)) 18 (i) (t)) 13 (i) (1)) := by rfl
    subst hAe
    exact W.vret hx hb hr (fun t ht hW => ⟨rfl, ⟨(), trivial, by rw [ht, hw9]; exact hP, va_K.moved hW.alike hK, by rw [hw9]; exact hD⟩, hS.F ht⟩) hS.2.2 dX2_putOnTray_25

set_option maxHeartbeats 4000000 in
set_option maxRecDepth 100000 in
theorem c_takeOffTray (l : Launch) (D : va_G) (cy ga : Nat → Nat) (ad : Int → Nat) (σ : zz_S) (sz : Nat) (hI : iw_ σ) (i st lt : Int) (hi : 1 ≤ i ∧ i ≤ σ 4 0) (ht : 0 ≤ σ 18 i ∧ σ 18 i < σ 0 0) (hf : σ 5 0 < 60) : Met l yX2_takeOffTray wsX2_takeOffTray ({ frames := 2, cells := 0, slots := 0, locals := 41 }) (ct_P D cy [.ref (ga 0), .ref (ad i), .int (zz_i (st)), .int (zz_i (lt))] (cw_ cy ga ad σ) sz) (ct_Q D cy (cw_ cy ga ad σ) sz none (fun _ : Unit => True) (fun _ => cw_ cy ga ad (sp_lv σ i st lt))) 0 0 (va_A (cw_ cy ga ad σ) sz) := by
  refine Met.ofW (cc := cX2_takeOffTray) (maxL := 4) (ret := none) (by decide) rfl ?_
  intro p e s m args below meth c s₁ B hml hv
  obtain ⟨rfl, rfl, hP, hK, hD0, hE⟩ := hv
  have hx := B.exec
  have hb := B.bytes
  have hr := B.returns
  have hts := atoms_spec (ws := wsX2_takeOffTray) B.pre
  have hown : s.vm.findClass RX2 = some m.cls := findClass_of_methodNamed B.named
  have hlocks := B.notSynchronized
  have hD := hD0.self (sz := s.heap.size)
  obtain ⟨A, hAe⟩ : ∃ A, A = va_A (cw_ cy ga ad σ) s.heap.size := ⟨_, rfl⟩
  rw [← hAe] at hD hE
  have hA : ∀ q : Nat, s.heap.size ≤ q → A q := fun q h => by rw [hAe]; exact Or.inr h
  have hS : va_S A s.heap s.heap [] := va_S.rf
  have hP : va_P D zz_cl (cw_ cy ga ad σ) s.heap := hP
  have hl := lv_entry ([.ref (ga 0), .ref (ad i), .int (zz_i (st)), .int (zz_i (lt))]) (n := 4) (Nat.le_of_ble_eq_true rfl)
  rw [lg_entry_eq]
  generalize (lg_sl ([.ref (ga 0), .ref (ad i), .int (zz_i (st)), .int (zz_i (lt))]) ++ List.replicate (4 - (lg_sl ([.ref (ga 0), .ref (ad i), .int (zz_i (st)), .int (zz_i (lt))])).length) Slot.unset).toArray = ls at hl ⊢
  have hl : lv_has ls 4 [(0, .ref (ga 0)), (1, .ref (ad i)), (2, .int (zz_i (st))), (3, .int (zz_i (lt)))] := hl
  obtain ⟨j1, j2, j3, j4, j5, j6, j7, j8, j9, j10⟩ := id hI
  have hiX0 : ∀ w ∈ wsX00, w ∈ wsX2_takeOffTray := by decide +kernel
  have hf115 := hts (.fieldLink RX2 115 "SorterSteps$Item" "tray" "I") (by decide +kernel)
  have hiX2 : ∀ w ∈ wsX20, w ∈ wsX2_takeOffTray := by decide +kernel
  have hf39 := hts (.fieldLink RX2 39 "SorterSteps" "onTrays" "[LSorterSteps$Item;") (by decide +kernel)
  have hf123 := hts (.fieldLink RX2 123 "SorterSteps$Item" "state" "I") (by decide +kernel)
  have hf146 := hts (.fieldLink RX2 146 "SorterSteps$Item" "leftTo" "I") (by decide +kernel)
  have hf215 := hts (.fieldLink RX2 215 "SorterSteps" "steps" "I") (by decide +kernel)
  have hf149 := hts (.fieldLink RX2 149 "SorterSteps$Item" "leftAtStep" "I") (by decide +kernel)
  have hf18 := hts (.fieldLink RX2 18 "SorterSteps" "left" "LSorterSteps$ItemRow;") (by decide +kernel)
  refine lv_aload_n hx hb dX2_takeOffTray_0 rfl (lv_at hl 0 rfl) ?_
  refine lv_aload_n hx hb dX2_takeOffTray_1 rfl (lv_at hl 1 rfl) ?_
  refine va_get (D := D) (ci := 0) (v := .int (zz_i (σ 18 i))) (C := RX0) (T := TX0) (N := 12) hx hb hts hiX0 hown hK hP (9 + (i - 1).toNat) (cw_it (show 1 ≤ i ∧ i ≤ σ 4 0 by omega)) rfl 5 (by decide) hf115 (fun _ h9 => h9) rfl dX2_takeOffTray_2 ?_
  refine zc_v (As := [.int (zz_i (σ 18 i))]) (rest := []) (S := Unit) (pc := 5) ⟨hx, hb, hml, hown, hts⟩ (c_isInLoop l D cy ga ad σ _ hI (σ 18 i) (by omega)) (cwV 1 hts gX2_takeOffTray_X2_isInLoop rfl rfl rfl (by decide +kernel) ⟨Nat.le_of_ble_eq_true rfl, Nat.le_of_ble_eq_true rfl⟩) hK hP hD hS hA hE (va_recv hK hP (ci := 2) (q0 := 0) rfl rfl) rfl hl.1 rfl (Nat.le_of_ble_eq_true rfl) dX2_takeOffTray_5 ⟨Nat.le_of_ble_eq_true rfl, Nat.le_of_ble_eq_true rfl⟩ (fun _ H locs k1 hP hD hS => ?_)
  refine W.eq (g2 := F0 m 8 ls [.int (zz_i (sp_il σ (σ 18 i)))]) rfl ?_
  have b1_0 := sp_il_b σ (σ 18 i)
  refine zz_if_eq (tgt := 21) hx hb dX2_takeOffTray_8 (by decide) (by omega) (fun c2 => ?_) (fun c2 => ?_)
  · exact absurd c2 (by omega)
  · refine lv_aload_n hx hb dX2_takeOffTray_11 rfl (lv_at hl 0 rfl) ?_
    refine va_get (D := D) (ci := 2) (v := .ref (ga 1)) (C := RX2) (T := TX2) (N := 10) hx hb hts hiX2 hown hK hP (0) rfl rfl 0 (by decide) hf39 (fun _ h9 => h9) rfl dX2_takeOffTray_12 ?_
    refine lv_aload_n hx hb dX2_takeOffTray_15 rfl (lv_at hl 1 rfl) ?_
    refine va_get (D := D) (ci := 0) (v := .int (zz_i (σ 18 i))) (C := RX0) (T := TX0) (N := 12) hx hb hts hiX0 hown hK hP (9 + (i - 1).toNat) (cw_it (show 1 ≤ i ∧ i ≤ σ 4 0 by omega)) rfl 5 (by decide) hf115 (fun _ h9 => h9) rfl dX2_takeOffTray_16 ?_
    refine lv_null hx hb dX2_takeOffTray_19 ?_
    refine zz_aastN hx hb hK hP hD hS 1 2 rfl rfl (show 0 ≤ σ 18 i ∧ σ 18 i < (((σ 0 0).toNat : Nat) : Int) by omega) (show (σ 0 0).toNat < 2147483648 by omega) dX2_takeOffTray_20 (fun H locs hP hD hS => ?_)
    have hP : va_P D zz_cl (cw_ cy ga ad (up_a σ 10 (σ 18 i) (0))) H := hP
    have hD : va_D A (cw_ cy ga ad (up_a σ 10 (σ 18 i) (0))) := hD
    refine lv_aload_n hx hb dX2_takeOffTray_21 rfl (lv_at hl 1 rfl) ?_
    refine lv_iconst (v := zz_i (-1)) hx hb dX2_takeOffTray_22 rfl ?_
    refine va_put (D := D) (ci := 0) (v := .int (zz_i (-1))) (ty := .int) (C := RX0) (T := TX0) (N := 12) hx hb hts hiX0 tyX0 tyX0_ok nmX0 hown hK hP hD hS (9 + (i - 1).toNat) (cw_it (show 1 ≤ i ∧ i ≤ σ 4 0 by omega)) rfl 5 (by decide) hf115 (fun _ h9 => h9) rfl (by decide +kernel) rfl rfl (Nat.le_of_ble_eq_true rfl) dX2_takeOffTray_23 (fun H locs hP hD hS => ?_)
    rw [cw_si18 (σ := (up_a σ 10 (σ 18 i) (0))) (show 1 ≤ i ∧ i ≤ σ 4 0 by omega)] at hP hD
    refine lv_aload_n hx hb dX2_takeOffTray_26 rfl (lv_at hl 1 rfl) ?_
    refine lv_iload_n hx hb dX2_takeOffTray_27 rfl (lv_at hl 2 rfl) ?_
    refine va_put (D := D) (ci := 0) (v := .int (zz_i (st))) (ty := .int) (C := RX0) (T := TX0) (N := 12) hx hb hts hiX0 tyX0 tyX0_ok nmX0 hown hK hP hD hS (9 + (i - 1).toNat) (cw_it (show 1 ≤ i ∧ i ≤ σ 4 0 by omega)) rfl 2 (by decide) hf123 (fun _ h9 => h9) rfl (by decide +kernel) rfl rfl (Nat.le_of_ble_eq_true rfl) dX2_takeOffTray_28 (fun H locs hP hD hS => ?_)
    rw [cw_si13 (σ := (up_a (up_a σ 10 (σ 18 i) (0)) 18 (i) (-1))) (show 1 ≤ i ∧ i ≤ σ 4 0 by omega)] at hP hD
    refine lv_aload_n hx hb dX2_takeOffTray_31 rfl (lv_at hl 1 rfl) ?_
    refine lv_iload_n hx hb dX2_takeOffTray_32 rfl (lv_at hl 3 rfl) ?_
    refine va_put (D := D) (ci := 0) (v := .int (zz_i (lt))) (ty := .int) (C := RX0) (T := TX0) (N := 12) hx hb hts hiX0 tyX0 tyX0_ok nmX0 hown hK hP hD hS (9 + (i - 1).toNat) (cw_it (show 1 ≤ i ∧ i ≤ σ 4 0 by omega)) rfl 10 (by decide) hf146 (fun _ h9 => h9) rfl (by decide +kernel) rfl rfl (Nat.le_of_ble_eq_true rfl) dX2_takeOffTray_33 (fun H locs hP hD hS => ?_)
    rw [cw_si21 (σ := (up_a (up_a (up_a σ 10 (σ 18 i) (0)) 18 (i) (-1)) 13 (i) (st))) (show 1 ≤ i ∧ i ≤ σ 4 0 by omega)] at hP hD
    refine lv_aload_n hx hb dX2_takeOffTray_36 rfl (lv_at hl 1 rfl) ?_
    refine lv_aload_n hx hb dX2_takeOffTray_37 rfl (lv_at hl 0 rfl) ?_
    refine va_get (D := D) (ci := 2) (v := .int (zz_i (σ 2 0))) (C := RX2) (T := TX2) (N := 10) hx hb hts hiX2 hown hK hP (0) rfl rfl 7 (by decide) hf215 (fun _ h9 => h9) rfl dX2_takeOffTray_38 ?_
    refine va_put (D := D) (ci := 0) (v := .int (zz_i (σ 2 0))) (ty := .int) (C := RX0) (T := TX0) (N := 12) hx hb hts hiX0 tyX0 tyX0_ok nmX0 hown hK hP hD hS (9 + (i - 1).toNat) (cw_it (show 1 ≤ i ∧ i ≤ σ 4 0 by omega)) rfl 11 (by decide) hf149 (fun _ h9 => h9) rfl (by decide +kernel) rfl rfl (Nat.le_of_ble_eq_true rfl) dX2_takeOffTray_41 (fun H locs hP hD hS => ?_)
    rw [cw_si22 (σ := (up_a (up_a (up_a (up_a σ 10 (σ 18 i) (0)) 18 (i) (-1)) 13 (i) (st)) 21 (i) (lt))) (show 1 ≤ i ∧ i ≤ σ 4 0 by omega)] at hP hD
    refine lv_aload_n hx hb dX2_takeOffTray_44 rfl (lv_at hl 0 rfl) ?_
    refine va_get (D := D) (ci := 2) (v := .ref (ga 4)) (C := RX2) (T := TX2) (N := 10) hx hb hts hiX2 hown hK hP (0) rfl rfl 3 (by decide) hf18 (fun _ h9 => h9) rfl dX2_takeOffTray_45 ?_
    refine lv_aload_n hx hb dX2_takeOffTray_48 rfl (lv_at hl 1 rfl) ?_
    refine zc_v (As := [.ref (ad i)]) (rest := []) (S := Unit) (pc := 49) ⟨hx, hb, hml, hown, hts⟩ (c_add_lf l D cy ga ad (up_a (up_a (up_a (up_a (up_a σ 10 (σ 18 i) (0)) 18 (i) (-1)) 13 (i) (st)) 21 (i) (lt)) 22 (i) (σ 2 0)) _ hI (i) (show 1 ≤ i ∧ i ≤ σ 4 0 by omega) (show σ 5 0 < 60 by omega)) (cwV 1 hts gX2_takeOffTray_X1_add rfl rfl rfl (by decide +kernel) ⟨Nat.le_of_ble_eq_true rfl, Nat.le_of_ble_eq_true rfl⟩) hK hP hD hS hA hE (va_recv hK hP (ci := 1) (q0 := 4) rfl rfl) rfl hl.1 rfl (Nat.le_of_ble_eq_true rfl) dX2_takeOffTray_49 ⟨Nat.le_of_ble_eq_true rfl, Nat.le_of_ble_eq_true rfl⟩ (fun _ H locs k3 hP hD hS => ?_)
    refine W.eq (g2 := F0 m 52 ls []) rfl ?_
    have hw9 : cw_ cy ga ad (sp_lv σ i st lt) = cw_ cy ga ad (up_s (up_a (up_a (up_a (up_a (up_a (up_a σ 10 (σ 18 i) (0)) 18 (i) (-1)) 13 (i) (st)) 21 (i) (lt)) 22 (i) (σ 2 0)) 23 (σ 5 0) (i)) 5 (σ 5 0 + 1)) := by rfl
    subst hAe
    exact W.vret hx hb hr (fun t ht hW => ⟨rfl, ⟨(), trivial, by rw [ht, hw9]; exact hP, va_K.moved hW.alike hK, by rw [hw9]; exact hD⟩, hS.F ht⟩) hS.2.2 dX2_takeOffTray_52
end
