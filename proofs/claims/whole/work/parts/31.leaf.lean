section
set_option maxHeartbeats 4000000 in
set_option maxRecDepth 100000 in
theorem c_isInLoop (l : Launch) (D : va_G) (cy ga : Nat → Nat) (ad : Int → Nat) (σ : zz_S) (sz : Nat) (hI : iv_ σ) (x : Int) (q_x : (-2147483648 ≤ x ∧ x < 2147483648)) : Met l yX2_isInLoop wsX2_isInLoop ({ frames := 0, cells := 0, slots := 0, locals := 0 }) (ct_P D cy [.ref (ga 0), .int (zz_i (x))] (cw_ cy ga ad σ) sz) (ct_Q D cy (cw_ cy ga ad σ) sz (some (.int (zz_i (sp_il σ x)))) (fun _ : Unit => True) (fun _ => cw_ cy ga ad σ)) 0 0 (va_A (cw_ cy ga ad σ) sz) := by
  refine Met.ofW (cc := cX2_isInLoop) (maxL := 2) (ret := (some .boolean)) (by decide) rfl ?_
  intro p e s m args below meth c s₁ B hml hv
  obtain ⟨rfl, rfl, hP, hK, hD0, hE⟩ := hv
  have hx := B.exec
  have hb := B.bytes
  have hr := B.returns
  have hts := atoms_spec (ws := wsX2_isInLoop) B.pre
  have hown : s.vm.findClass RX2 = some m.cls := findClass_of_methodNamed B.named
  have hlocks := B.notSynchronized
  have hD := hD0.self (sz := s.heap.size)
  obtain ⟨A, hAe⟩ : ∃ A, A = va_A (cw_ cy ga ad σ) s.heap.size := ⟨_, rfl⟩
  rw [← hAe] at hD hE
  have hA : ∀ q : Nat, s.heap.size ≤ q → A q := fun q h => by rw [hAe]; exact Or.inr h
  have hS : va_S A s.heap s.heap [] := va_S.rf
  have hP : va_P D zz_cl (cw_ cy ga ad σ) s.heap := hP
  have hl := lv_entry ([.ref (ga 0), .int (zz_i (x))]) (n := 2) (Nat.le_of_ble_eq_true rfl)
  rw [lg_entry_eq]
  generalize (lg_sl ([.ref (ga 0), .int (zz_i (x))]) ++ List.replicate (2 - (lg_sl ([.ref (ga 0), .int (zz_i (x))])).length) Slot.unset).toArray = ls at hl ⊢
  have hl : lv_has ls 2 [(0, .ref (ga 0)), (1, .int (zz_i (x)))] := hl
  obtain ⟨j1, j2, j3, j4, j5, j6, j7, j8, j9, j10, j11, j12, j13, j14, j15, j16, j17, j18, j19, j20, j21⟩ := id hI
  have hiX2 : ∀ w ∈ wsX20, w ∈ wsX2_isInLoop := by decide +kernel
  have hf39 := hts (.fieldLink RX2 39 "SorterSteps" "onTrays" "[LSorterSteps$Item;") (by decide +kernel)
  refine lv_iload_n hx hb dX2_isInLoop_0 rfl (lv_at hl 1 rfl) ?_
  refine zz_if_lt (tgt := 17) hx hb dX2_isInLoop_1 (by decide) (by omega) (fun c1 => ?_) (fun c1 => ?_)
  · refine lv_iconst (v := zz_i (0)) hx hb dX2_isInLoop_17 rfl ?_
    have hv9 : sp_il σ x = 0 := by unfold sp_il; (repeat (first | rw [if_pos (by omega)] | rw [if_neg (by omega)]))
    have hw9 : σ = σ := by rfl
    subst hAe
    exact W.zret (v := zz_i (0)) (ty := .boolean) hx hb hr (zz_narB (by omega)) (fun t ht hW => ⟨by rw [hv9], ⟨(), trivial, by rw [ht, hw9]; exact hP, va_K.moved hW.alike hK, by rw [hw9]; exact hD⟩, hS.F ht⟩) hS.2.2 dX2_isInLoop_18
  · refine lv_iload_n hx hb dX2_isInLoop_4 rfl (lv_at hl 1 rfl) ?_
    refine lv_aload_n hx hb dX2_isInLoop_5 rfl (lv_at hl 0 rfl) ?_
    refine va_get (D := D) (ci := 2) (v := .ref (ga 1)) (C := RX2) (T := TX2) (N := 10) hx hb hts hiX2 hown hK hP (0) rfl rfl 0 (by decide) hf39 (fun _ h9 => h9) rfl dX2_isInLoop_6 ?_
    refine va_alen hx hb hK hP 1 2 rfl rfl (v := zz_i (σ 0 0)) (zz_len (by omega)) dX2_isInLoop_9 ?_
    refine zz_icmp_ge (tgt := 17) hx hb dX2_isInLoop_10 (by decide) (by omega) (by omega) (fun c2 => ?_) (fun c2 => ?_)
    · refine lv_iconst (v := zz_i (0)) hx hb dX2_isInLoop_17 rfl ?_
      have hv9 : sp_il σ x = 0 := by unfold sp_il; (repeat (first | rw [if_pos (by omega)] | rw [if_neg (by omega)]))
      have hw9 : σ = σ := by rfl
      subst hAe
      exact W.zret (v := zz_i (0)) (ty := .boolean) hx hb hr (zz_narB (by omega)) (fun t ht hW => ⟨by rw [hv9], ⟨(), trivial, by rw [ht, hw9]; exact hP, va_K.moved hW.alike hK, by rw [hw9]; exact hD⟩, hS.F ht⟩) hS.2.2 dX2_isInLoop_18
    · refine lv_iconst (v := zz_i (1)) hx hb dX2_isInLoop_13 rfl ?_
      refine lv_goto (tgt := 18) hx hb dX2_isInLoop_14 (by decide) ?_
      have hv9 : sp_il σ x = 1 := by unfold sp_il; (repeat (first | rw [if_pos (by omega)] | rw [if_neg (by omega)]))
      have hw9 : σ = σ := by rfl
      subst hAe
      exact W.zret (v := zz_i (1)) (ty := .boolean) hx hb hr (zz_narB (by omega)) (fun t ht hW => ⟨by rw [hv9], ⟨(), trivial, by rw [ht, hw9]; exact hP, va_K.moved hW.alike hK, by rw [hw9]; exact hD⟩, hS.F ht⟩) hS.2.2 dX2_isInLoop_18

set_option maxHeartbeats 4000000 in
set_option maxRecDepth 100000 in
theorem c_intoLoop (l : Launch) (D : va_G) (cy ga : Nat → Nat) (ad : Int → Nat) (σ : zz_S) (sz : Nat) (hI : iv_ σ) (x : Int) (q_x : (-2147483648 ≤ x ∧ x < 2147483648)) : Met l yX2_intoLoop wsX2_intoLoop ({ frames := 0, cells := 0, slots := 0, locals := 0 }) (ct_P D cy [.ref (ga 0), .int (zz_i (x))] (cw_ cy ga ad σ) sz) (ct_Q D cy (cw_ cy ga ad σ) sz (some (.int (zz_i (sp_in σ x)))) (fun _ : Unit => True) (fun _ => cw_ cy ga ad σ)) 0 0 (va_A (cw_ cy ga ad σ) sz) := by
  refine Met.ofW (cc := cX2_intoLoop) (maxL := 2) (ret := (some .int)) (by decide) rfl ?_
  intro p e s m args below meth c s₁ B hml hv
  obtain ⟨rfl, rfl, hP, hK, hD0, hE⟩ := hv
  have hx := B.exec
  have hb := B.bytes
  have hr := B.returns
  have hts := atoms_spec (ws := wsX2_intoLoop) B.pre
  have hown : s.vm.findClass RX2 = some m.cls := findClass_of_methodNamed B.named
  have hlocks := B.notSynchronized
  have hD := hD0.self (sz := s.heap.size)
  obtain ⟨A, hAe⟩ : ∃ A, A = va_A (cw_ cy ga ad σ) s.heap.size := ⟨_, rfl⟩
  rw [← hAe] at hD hE
  have hA : ∀ q : Nat, s.heap.size ≤ q → A q := fun q h => by rw [hAe]; exact Or.inr h
  have hS : va_S A s.heap s.heap [] := va_S.rf
  have hP : va_P D zz_cl (cw_ cy ga ad σ) s.heap := hP
  have hl := lv_entry ([.ref (ga 0), .int (zz_i (x))]) (n := 2) (Nat.le_of_ble_eq_true rfl)
  rw [lg_entry_eq]
  generalize (lg_sl ([.ref (ga 0), .int (zz_i (x))]) ++ List.replicate (2 - (lg_sl ([.ref (ga 0), .int (zz_i (x))])).length) Slot.unset).toArray = ls at hl ⊢
  have hl : lv_has ls 2 [(0, .ref (ga 0)), (1, .int (zz_i (x)))] := hl
  obtain ⟨j1, j2, j3, j4, j5, j6, j7, j8, j9, j10, j11, j12, j13, j14, j15, j16, j17, j18, j19, j20, j21⟩ := id hI
  have hiX2 : ∀ w ∈ wsX20, w ∈ wsX2_intoLoop := by decide +kernel
  have hf39 := hts (.fieldLink RX2 39 "SorterSteps" "onTrays" "[LSorterSteps$Item;") (by decide +kernel)
  refine lv_iload_n hx hb dX2_intoLoop_0 rfl (lv_at hl 1 rfl) ?_
  refine zz_if_ge (tgt := 12) hx hb dX2_intoLoop_1 (by decide) (by omega) (fun c1 => ?_) (fun c1 => ?_)
  · refine lv_iload_n hx hb dX2_intoLoop_12 rfl (lv_at hl 1 rfl) ?_
    refine lv_aload_n hx hb dX2_intoLoop_13 rfl (lv_at hl 0 rfl) ?_
    refine va_get (D := D) (ci := 2) (v := .ref (ga 1)) (C := RX2) (T := TX2) (N := 10) hx hb hts hiX2 hown hK hP (0) rfl rfl 0 (by decide) hf39 (fun _ h9 => h9) rfl dX2_intoLoop_14 ?_
    refine va_alen hx hb hK hP 1 2 rfl rfl (v := zz_i (σ 0 0)) (zz_len (by omega)) dX2_intoLoop_17 ?_
    refine zz_icmp_ge (tgt := 25) hx hb dX2_intoLoop_18 (by decide) (by omega) (by omega) (fun c2 => ?_) (fun c2 => ?_)
    · refine lv_iload_n hx hb dX2_intoLoop_25 rfl (lv_at hl 1 rfl) ?_
      refine lv_aload_n hx hb dX2_intoLoop_26 rfl (lv_at hl 0 rfl) ?_
      refine va_get (D := D) (ci := 2) (v := .ref (ga 1)) (C := RX2) (T := TX2) (N := 10) hx hb hts hiX2 hown hK hP (0) rfl rfl 0 (by decide) hf39 (fun _ h9 => h9) rfl dX2_intoLoop_27 ?_
      refine va_alen hx hb hK hP 1 2 rfl rfl (v := zz_i (σ 0 0)) (zz_len (by omega)) dX2_intoLoop_30 ?_
      refine zz_isub hx hb dX2_intoLoop_31 ?_
      have hv9 : sp_in σ x = x - (σ 0 0) := by unfold sp_in; (repeat (first | rw [if_pos (by omega)] | rw [if_neg (by omega)]))
      have hw9 : σ = σ := by rfl
      subst hAe
      exact W.iret (v := zz_i (x - (σ 0 0))) hx hb hr (fun t ht hW => ⟨by rw [hv9], ⟨(), trivial, by rw [ht, hw9]; exact hP, va_K.moved hW.alike hK, by rw [hw9]; exact hD⟩, hS.F ht⟩) hS.2.2 dX2_intoLoop_32
    · refine lv_iload_n hx hb dX2_intoLoop_21 rfl (lv_at hl 1 rfl) ?_
      refine lv_goto (tgt := 32) hx hb dX2_intoLoop_22 (by decide) ?_
      have hv9 : sp_in σ x = x := by unfold sp_in; (repeat (first | rw [if_pos (by omega)] | rw [if_neg (by omega)]))
      have hw9 : σ = σ := by rfl
      subst hAe
      exact W.iret (v := zz_i (x)) hx hb hr (fun t ht hW => ⟨by rw [hv9], ⟨(), trivial, by rw [ht, hw9]; exact hP, va_K.moved hW.alike hK, by rw [hw9]; exact hD⟩, hS.F ht⟩) hS.2.2 dX2_intoLoop_32
  · refine lv_iload_n hx hb dX2_intoLoop_4 rfl (lv_at hl 1 rfl) ?_
    refine lv_aload_n hx hb dX2_intoLoop_5 rfl (lv_at hl 0 rfl) ?_
    refine va_get (D := D) (ci := 2) (v := .ref (ga 1)) (C := RX2) (T := TX2) (N := 10) hx hb hts hiX2 hown hK hP (0) rfl rfl 0 (by decide) hf39 (fun _ h9 => h9) rfl dX2_intoLoop_6 ?_
    refine va_alen hx hb hK hP 1 2 rfl rfl (v := zz_i (σ 0 0)) (zz_len (by omega)) dX2_intoLoop_9 ?_
    refine zz_iadd hx hb dX2_intoLoop_10 ?_
    have hv9 : sp_in σ x = x + (σ 0 0) := by unfold sp_in; (repeat (first | rw [if_pos (by omega)] | rw [if_neg (by omega)]))
    have hw9 : σ = σ := by rfl
    subst hAe
    exact W.iret (v := zz_i (x + (σ 0 0))) hx hb hr (fun t ht hW => ⟨by rw [hv9], ⟨(), trivial, by rw [ht, hw9]; exact hP, va_K.moved hW.alike hK, by rw [hw9]; exact hD⟩, hS.F ht⟩) hS.2.2 dX2_intoLoop_11

set_option maxHeartbeats 4000000 in
set_option maxRecDepth 100000 in
theorem c_trayAt (l : Launch) (D : va_G) (cy ga : Nat → Nat) (ad : Int → Nat) (σ : zz_S) (sz : Nat) (hI : iv_ σ) (x : Int) (q_x : -1000000 ≤ x ∧ x ≤ 1000000) : Met l yX2_trayAt wsX2_trayAt ({ frames := 1, cells := 0, slots := 0, locals := 21 }) (ct_P D cy [.ref (ga 0), .int (zz_i (x))] (cw_ cy ga ad σ) sz) (ct_Q D cy (cw_ cy ga ad σ) sz (some (.int (zz_i (sp_tr σ x)))) (fun _ : Unit => True) (fun _ => cw_ cy ga ad σ)) 0 0 (va_A (cw_ cy ga ad σ) sz) := by
  refine Met.ofW (cc := cX2_trayAt) (maxL := 2) (ret := (some .int)) (by decide) rfl ?_
  intro p e s m args below meth c s₁ B hml hv
  obtain ⟨rfl, rfl, hP, hK, hD0, hE⟩ := hv
  have hx := B.exec
  have hb := B.bytes
  have hr := B.returns
  have hts := atoms_spec (ws := wsX2_trayAt) B.pre
  have hown : s.vm.findClass RX2 = some m.cls := findClass_of_methodNamed B.named
  have hlocks := B.notSynchronized
  have hD := hD0.self (sz := s.heap.size)
  obtain ⟨A, hAe⟩ : ∃ A, A = va_A (cw_ cy ga ad σ) s.heap.size := ⟨_, rfl⟩
  rw [← hAe] at hD hE
  have hA : ∀ q : Nat, s.heap.size ≤ q → A q := fun q h => by rw [hAe]; exact Or.inr h
  have hS : va_S A s.heap s.heap [] := va_S.rf
  have hP : va_P D zz_cl (cw_ cy ga ad σ) s.heap := hP
  have hl := lv_entry ([.ref (ga 0), .int (zz_i (x))]) (n := 2) (Nat.le_of_ble_eq_true rfl)
  rw [lg_entry_eq]
  generalize (lg_sl ([.ref (ga 0), .int (zz_i (x))]) ++ List.replicate (2 - (lg_sl ([.ref (ga 0), .int (zz_i (x))])).length) Slot.unset).toArray = ls at hl ⊢
  have hl : lv_has ls 2 [(0, .ref (ga 0)), (1, .int (zz_i (x)))] := hl
  obtain ⟨j1, j2, j3, j4, j5, j6, j7, j8, j9, j10, j11, j12, j13, j14, j15, j16, j17, j18, j19, j20, j21⟩ := id hI
  have hiX2 : ∀ w ∈ wsX20, w ∈ wsX2_trayAt := by decide +kernel
  have hf238 := hts (.fieldLink RX2 238 "SorterSteps" "positionOfFirstTray" "I") (by decide +kernel)
  refine lv_aload_n hx hb dX2_trayAt_0 rfl (lv_at hl 0 rfl) ?_
  refine lv_iload_n hx hb dX2_trayAt_1 rfl (lv_at hl 1 rfl) ?_
  refine lv_aload_n hx hb dX2_trayAt_2 rfl (lv_at hl 0 rfl) ?_
  refine va_get (D := D) (ci := 2) (v := .int (zz_i (σ 8 0))) (C := RX2) (T := TX2) (N := 10) hx hb hts hiX2 hown hK hP (0) rfl rfl 8 (by decide) hf238 (fun _ h9 => h9) rfl dX2_trayAt_3 ?_
  refine zz_isub hx hb dX2_trayAt_6 ?_
  refine zc_v (As := [.int (zz_i (x - (σ 8 0)))]) (rest := []) (S := Unit) (pc := 7) ⟨hx, hb, hml, hown, hts⟩ (c_intoLoop l D cy ga ad σ _ hI (x - (σ 8 0)) (by omega)) (cwV 1 hts gX2_trayAt_X2_intoLoop rfl rfl rfl (by decide +kernel) ⟨Nat.le_of_ble_eq_true rfl, Nat.le_of_ble_eq_true rfl⟩) hK hP hD hS hA hE (va_recv hK hP (ci := 2) (q0 := 0) rfl rfl) rfl hl.1 rfl (Nat.le_of_ble_eq_true rfl) dX2_trayAt_7 ⟨Nat.le_of_ble_eq_true rfl, Nat.le_of_ble_eq_true rfl⟩ (fun _ H locs k1 hP hD hS => ?_)
  refine W.eq (g2 := F0 m 10 ls [.int (zz_i (sp_in σ (x - (σ 8 0))))]) rfl ?_
  have hv9 : sp_tr σ x = sp_in σ (x - (σ 8 0)) := by rfl
  have hw9 : σ = σ := by rfl
  subst hAe
  exact W.iret (v := zz_i (sp_in σ (x - (σ 8 0)))) hx hb hr (fun t ht hW => ⟨by rw [hv9], ⟨(), trivial, by rw [ht, hw9]; exact hP, va_K.moved hW.alike hK, by rw [hw9]; exact hD⟩, hS.F ht⟩) hS.2.2 dX2_trayAt_10

set_option maxHeartbeats 4000000 in
set_option maxRecDepth 100000 in
theorem c_isChute (l : Launch) (D : va_G) (cy ga : Nat → Nat) (ad : Int → Nat) (σ : zz_S) (sz : Nat) (hI : iv_ σ) (x : Int) (q_x : (-2147483648 ≤ x ∧ x < 2147483648)) : Met l yX2_isChute wsX2_isChute ({ frames := 0, cells := 0, slots := 0, locals := 0 }) (ct_P D cy [.ref (ga 0), .int (zz_i (x))] (cw_ cy ga ad σ) sz) (ct_Q D cy (cw_ cy ga ad σ) sz (some (.int (zz_i (sp_ch σ x)))) (fun _ : Unit => True) (fun _ => cw_ cy ga ad σ)) 0 0 (va_A (cw_ cy ga ad σ) sz) := by
  refine Met.ofW (cc := cX2_isChute) (maxL := 2) (ret := (some .boolean)) (by decide) rfl ?_
  intro p e s m args below meth c s₁ B hml hv
  obtain ⟨rfl, rfl, hP, hK, hD0, hE⟩ := hv
  have hx := B.exec
  have hb := B.bytes
  have hr := B.returns
  have hts := atoms_spec (ws := wsX2_isChute) B.pre
  have hown : s.vm.findClass RX2 = some m.cls := findClass_of_methodNamed B.named
  have hlocks := B.notSynchronized
  have hD := hD0.self (sz := s.heap.size)
  obtain ⟨A, hAe⟩ : ∃ A, A = va_A (cw_ cy ga ad σ) s.heap.size := ⟨_, rfl⟩
  rw [← hAe] at hD hE
  have hA : ∀ q : Nat, s.heap.size ≤ q → A q := fun q h => by rw [hAe]; exact Or.inr h
  have hS : va_S A s.heap s.heap [] := va_S.rf
  have hP : va_P D zz_cl (cw_ cy ga ad σ) s.heap := hP
  have hl := lv_entry ([.ref (ga 0), .int (zz_i (x))]) (n := 2) (Nat.le_of_ble_eq_true rfl)
  rw [lg_entry_eq]
  generalize (lg_sl ([.ref (ga 0), .int (zz_i (x))]) ++ List.replicate (2 - (lg_sl ([.ref (ga 0), .int (zz_i (x))])).length) Slot.unset).toArray = ls at hl ⊢
  have hl : lv_has ls 2 [(0, .ref (ga 0)), (1, .int (zz_i (x)))] := hl
  obtain ⟨j1, j2, j3, j4, j5, j6, j7, j8, j9, j10, j11, j12, j13, j14, j15, j16, j17, j18, j19, j20, j21⟩ := id hI
  have hiX2 : ∀ w ∈ wsX20, w ∈ wsX2_isChute := by decide +kernel
  have hf43 := hts (.fieldLink RX2 43 "SorterSteps" "fullChutes" "[Z") (by decide +kernel)
  refine lv_iload_n hx hb dX2_isChute_0 rfl (lv_at hl 1 rfl) ?_
  refine lv_iconst (v := zz_i (1)) hx hb dX2_isChute_1 rfl ?_
  refine zz_icmp_lt (tgt := 18) hx hb dX2_isChute_2 (by decide) (by omega) (by omega) (fun c1 => ?_) (fun c1 => ?_)
  · refine lv_iconst (v := zz_i (0)) hx hb dX2_isChute_18 rfl ?_
    have hv9 : sp_ch σ x = 0 := by unfold sp_ch; (repeat (first | rw [if_pos (by omega)] | rw [if_neg (by omega)]))
    have hw9 : σ = σ := by rfl
    subst hAe
    exact W.zret (v := zz_i (0)) (ty := .boolean) hx hb hr (zz_narB (by omega)) (fun t ht hW => ⟨by rw [hv9], ⟨(), trivial, by rw [ht, hw9]; exact hP, va_K.moved hW.alike hK, by rw [hw9]; exact hD⟩, hS.F ht⟩) hS.2.2 dX2_isChute_19
  · refine lv_iload_n hx hb dX2_isChute_5 rfl (lv_at hl 1 rfl) ?_
    refine lv_aload_n hx hb dX2_isChute_6 rfl (lv_at hl 0 rfl) ?_
    refine va_get (D := D) (ci := 2) (v := .ref (ga 2)) (C := RX2) (T := TX2) (N := 10) hx hb hts hiX2 hown hK hP (0) rfl rfl 1 (by decide) hf43 (fun _ h9 => h9) rfl dX2_isChute_7 ?_
    refine va_alen hx hb hK hP 2 1 rfl rfl (v := zz_i (σ 28 0 + 1)) (zz_len (by omega)) dX2_isChute_10 ?_
    refine zz_icmp_ge (tgt := 18) hx hb dX2_isChute_11 (by decide) (by omega) (by omega) (fun c2 => ?_) (fun c2 => ?_)
    · refine lv_iconst (v := zz_i (0)) hx hb dX2_isChute_18 rfl ?_
      have hv9 : sp_ch σ x = 0 := by unfold sp_ch; (repeat (first | rw [if_pos (by omega)] | rw [if_neg (by omega)]))
      have hw9 : σ = σ := by rfl
      subst hAe
      exact W.zret (v := zz_i (0)) (ty := .boolean) hx hb hr (zz_narB (by omega)) (fun t ht hW => ⟨by rw [hv9], ⟨(), trivial, by rw [ht, hw9]; exact hP, va_K.moved hW.alike hK, by rw [hw9]; exact hD⟩, hS.F ht⟩) hS.2.2 dX2_isChute_19
    · refine lv_iconst (v := zz_i (1)) hx hb dX2_isChute_14 rfl ?_
      refine lv_goto (tgt := 19) hx hb dX2_isChute_15 (by decide) ?_
      have hv9 : sp_ch σ x = 1 := by unfold sp_ch; (repeat (first | rw [if_pos (by omega)] | rw [if_neg (by omega)]))
      have hw9 : σ = σ := by rfl
      subst hAe
      exact W.zret (v := zz_i (1)) (ty := .boolean) hx hb hr (zz_narB (by omega)) (fun t ht hW => ⟨by rw [hv9], ⟨(), trivial, by rw [ht, hw9]; exact hP, va_K.moved hW.alike hK, by rw [hw9]; exact hD⟩, hS.F ht⟩) hS.2.2 dX2_isChute_19
end
