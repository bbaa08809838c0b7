section
set_option maxHeartbeats 4000000 in
set_option maxRecDepth 100000 in
theorem c_requireLength (l : Launch) (hl9 : l.stackTraces = false) (D : va_G) (cy ga : Nat → Nat) (ad : Int → Nat) (σ : zz_S) (sz : Nat) (x : Int) (q_x : (-2147483648 ≤ x ∧ x < 2147483648)) : vx_Met l yX2_requireLength wsX2_requireLength ({ frames := 6, cells := 1, slots := 6, locals := 82 }) (ct_P D cy [.ref (ga 0), .int (zz_i (x))] (cw_ cy ga ad σ) sz) (ct_Q D cy (cw_ cy ga ad σ) sz none (fun _ : Unit => 1 ≤ x ∧ x ≤ 100) (fun _ => cw_ cy ga ad σ)) (ct_X D cy (cw_ cy ga ad σ) sz (x < 1 ∨ 100 < x) ("java/lang/IllegalArgumentException")) 1 6 (va_A (cw_ cy ga ad σ) sz) := by
  refine vx_ofW (cc := cX2_requireLength) (maxL := 2) (ret := none) (by decide) rfl ?_
  intro p e s m args below meth c s₁ B hml htb hv
  obtain ⟨rfl, rfl, hP, hK, hD0, hE⟩ := hv
  have hx := B.exec
  have hb := B.bytes
  have hr := B.returns
  have hts := atoms_spec (ws := wsX2_requireLength) B.pre
  have hown : s.vm.findClass RX2 = some m.cls := findClass_of_methodNamed B.named
  have hlocks := B.notSynchronized
  have hD := hD0.self (sz := s.heap.size)
  obtain ⟨A, hAe⟩ : ∃ A, A = va_A (cw_ cy ga ad σ) s.heap.size := ⟨_, rfl⟩
  rw [← hAe] at hD hE
  have hA : ∀ q : Nat, s.heap.size ≤ q → A q := fun q h => by rw [hAe]; exact Or.inr h
  have hS : va_S A s.heap s.heap [] := va_S.rf
  have hP : va_P D zz_cl (cw_ cy ga ad σ) s.heap := hP
  have hl := lv_entry ([.ref (ga 0), .int (zz_i (x))]) (n := 2) (Nat.le_of_ble_eq_true rfl)
  rw [lg_entry_eq]
  generalize (lg_sl ([.ref (ga 0), .int (zz_i (x))]) ++ List.replicate (2 - (lg_sl ([.ref (ga 0), .int (zz_i (x))])).length) Slot.unset).toArray = ls at hl ⊢
  have hl : lv_has ls 2 [(0, .ref (ga 0)), (1, .int (zz_i (x)))] := hl
  have haIAE := at_IAE (Ts := wsX2_requireLength) hts (by decide +kernel) hE
  refine lv_iload_n hx hb dX2_requireLength_0 rfl (lv_at hl 1 rfl) ?_
  refine lv_iconst (v := zz_i (1)) hx hb dX2_requireLength_1 rfl ?_
  refine zz_icmp_lt (tgt := 11) hx hb dX2_requireLength_2 (by decide) (by omega) (by omega) (fun c1 => ?_) (fun c1 => ?_)
  · exact th_row (own := RX2) (cls := "java/lang/IllegalArgumentException") hx hb hl9 hown (by decide +kernel) (by decide +kernel) (hts (.classLink RX2 82 "java/lang/IllegalArgumentException") (by decide +kernel)) (hts (.initialized "java/lang/IllegalArgumentException") (by decide +kernel)) (hE.2.2.2.1 (223, "no such length") (by decide +kernel)) haIAE go_IAE hAe hE hK hP hD hS (hl.1.trans hml.symm) dX2_requireLength_11 dX2_requireLength_14 dX2_requireLength_15 dX2_requireLength_17 dX2_requireLength_20 htb (Nat.le_of_ble_eq_true rfl) (Nat.le_of_ble_eq_true rfl) (Nat.le_of_ble_eq_true rfl) (Nat.le_of_ble_eq_true rfl) hlocks (by omega) (Nat.le_of_ble_eq_true rfl) (Nat.le_of_ble_eq_true rfl)
  · refine lv_iload_n hx hb dX2_requireLength_5 rfl (lv_at hl 1 rfl) ?_
    refine lv_bipush (v := zz_i (100)) hx hb dX2_requireLength_6 (by decide) ?_
    refine zz_icmp_le (tgt := 21) hx hb dX2_requireLength_8 (by decide) (by omega) (by omega) (fun c2 => ?_) (fun c2 => ?_)
    · have hw9 : cw_ cy ga ad σ = cw_ cy ga ad σ := by rfl
      subst hAe
      refine W.widen (k := 1) (n := 6) (Nat.le_of_ble_eq_true rfl) (Nat.le_of_ble_eq_true rfl) ?_
      refine vx_ret ?_
      exact W.vret hx hb hr (fun t ht hW => ⟨rfl, ⟨(), (by omega), by rw [ht, hw9]; exact hP, va_K.moved hW.alike hK, by rw [hw9]; exact hD⟩, hS.F ht⟩) hS.2.2 dX2_requireLength_21
    · exact th_row (own := RX2) (cls := "java/lang/IllegalArgumentException") hx hb hl9 hown (by decide +kernel) (by decide +kernel) (hts (.classLink RX2 82 "java/lang/IllegalArgumentException") (by decide +kernel)) (hts (.initialized "java/lang/IllegalArgumentException") (by decide +kernel)) (hE.2.2.2.1 (223, "no such length") (by decide +kernel)) haIAE go_IAE hAe hE hK hP hD hS (hl.1.trans hml.symm) dX2_requireLength_11 dX2_requireLength_14 dX2_requireLength_15 dX2_requireLength_17 dX2_requireLength_20 htb (Nat.le_of_ble_eq_true rfl) (Nat.le_of_ble_eq_true rfl) (Nat.le_of_ble_eq_true rfl) (Nat.le_of_ble_eq_true rfl) hlocks (by omega) (Nat.le_of_ble_eq_true rfl) (Nat.le_of_ble_eq_true rfl)

set_option maxHeartbeats 4000000 in
set_option maxRecDepth 100000 in
theorem c_requireChute (l : Launch) (hl9 : l.stackTraces = false) (D : va_G) (cy ga : Nat → Nat) (ad : Int → Nat) (σ : zz_S) (sz : Nat) (hI : iw_ σ) (x : Int) (q_x : (-2147483648 ≤ x ∧ x < 2147483648)) : vx_Met l yX2_requireChute wsX2_requireChute ({ frames := 6, cells := 1, slots := 6, locals := 82 }) (ct_P D cy [.ref (ga 0), .int (zz_i (x))] (cw_ cy ga ad σ) sz) (ct_Q D cy (cw_ cy ga ad σ) sz none (fun _ : Unit => 1 ≤ x ∧ x ≤ σ 28 0) (fun _ => cw_ cy ga ad σ)) (ct_X D cy (cw_ cy ga ad σ) sz (x < 1 ∨ σ 28 0 < x) ("java/lang/IllegalArgumentException")) 1 6 (va_A (cw_ cy ga ad σ) sz) := by
  refine vx_ofW (cc := cX2_requireChute) (maxL := 2) (ret := none) (by decide) rfl ?_
  intro p e s m args below meth c s₁ B hml htb hv
  obtain ⟨rfl, rfl, hP, hK, hD0, hE⟩ := hv
  have hx := B.exec
  have hb := B.bytes
  have hr := B.returns
  have hts := atoms_spec (ws := wsX2_requireChute) B.pre
  have hown : s.vm.findClass RX2 = some m.cls := findClass_of_methodNamed B.named
  have hlocks := B.notSynchronized
  have hD := hD0.self (sz := s.heap.size)
  obtain ⟨A, hAe⟩ : ∃ A, A = va_A (cw_ cy ga ad σ) s.heap.size := ⟨_, rfl⟩
  rw [← hAe] at hD hE
  have hA : ∀ q : Nat, s.heap.size ≤ q → A q := fun q h => by rw [hAe]; exact Or.inr h
  have hS : va_S A s.heap s.heap [] := va_S.rf
  have hP : va_P D zz_cl (cw_ cy ga ad σ) s.heap := hP
  have hl := lv_entry ([.ref (ga 0), .int (zz_i (x))]) (n := 2) (Nat.le_of_ble_eq_true rfl)
  rw [lg_entry_eq]
  generalize (lg_sl ([.ref (ga 0), .int (zz_i (x))]) ++ List.replicate (2 - (lg_sl ([.ref (ga 0), .int (zz_i (x))])).length) Slot.unset).toArray = ls at hl ⊢
  have hl : lv_has ls 2 [(0, .ref (ga 0)), (1, .int (zz_i (x)))] := hl
  obtain ⟨j1, j2, j3, j4, j5, j6, j7, j8, j9, j10⟩ := id hI
  have haIAE := at_IAE (Ts := wsX2_requireChute) hts (by decide +kernel) hE
  refine lv_aload_n hx hb dX2_requireChute_0 rfl (lv_at hl 0 rfl) ?_
  refine lv_iload_n hx hb dX2_requireChute_1 rfl (lv_at hl 1 rfl) ?_
  refine zc_v (As := [.int (zz_i (x))]) (rest := []) (S := Unit) (pc := 2) ⟨hx, hb, hml, hown, hts⟩ (c_isChute l D cy ga ad σ _ hI (x) (by omega)) (cwV 1 hts gX2_requireChute_X2_isChute rfl rfl rfl (by decide +kernel) ⟨Nat.le_of_ble_eq_true rfl, Nat.le_of_ble_eq_true rfl⟩) hK hP hD hS hA hE (va_recv hK hP (ci := 2) (q0 := 0) rfl rfl) rfl hl.1 rfl (Nat.le_of_ble_eq_true rfl) dX2_requireChute_2 ⟨Nat.le_of_ble_eq_true rfl, Nat.le_of_ble_eq_true rfl⟩ (fun _ H locs k1 hP hD hS => ?_)
  refine W.eq (g2 := F0 m 5 ls [.int (zz_i (sp_ch σ (x)))]) rfl ?_
  have b1_0 := sp_ch_b σ (x)
  refine zz_if_ne (tgt := 18) hx hb dX2_requireChute_5 (by decide) (by omega) (fun c2 => ?_) (fun c2 => ?_)
  · have hw9 : cw_ cy ga ad σ = cw_ cy ga ad σ := by rfl
    subst hAe
    refine W.widen (k := 1) (n := 6) (Nat.le_of_ble_eq_true rfl) (Nat.le_of_ble_eq_true rfl) ?_
    refine vx_ret ?_
    exact W.vret hx hb hr (fun t ht hW => ⟨rfl, ⟨(), (by omega), by rw [ht, hw9]; exact hP, va_K.moved hW.alike hK, by rw [hw9]; exact hD⟩, hS.F ht⟩) hS.2.2 dX2_requireChute_18
  · exact th_row (own := RX2) (cls := "java/lang/IllegalArgumentException") hx hb hl9 hown (by decide +kernel) (by decide +kernel) (hts (.classLink RX2 82 "java/lang/IllegalArgumentException") (by decide +kernel)) (hts (.initialized "java/lang/IllegalArgumentException") (by decide +kernel)) (hE.2.2.2.1 (228, "no such chute") (by decide +kernel)) haIAE go_IAE hAe hE hK hP hD hS (hl.1.trans hml.symm) dX2_requireChute_8 dX2_requireChute_11 dX2_requireChute_12 dX2_requireChute_14 dX2_requireChute_17 htb (Nat.le_of_ble_eq_true rfl) (Nat.le_of_ble_eq_true rfl) (Nat.le_of_ble_eq_true rfl) (Nat.le_of_ble_eq_true rfl) hlocks (by omega) (Nat.le_of_ble_eq_true rfl) (Nat.le_of_ble_eq_true rfl)

set_option maxHeartbeats 4000000 in
set_option maxRecDepth 100000 in
theorem c_requireCode (l : Launch) (hl9 : l.stackTraces = false) (D : va_G) (cy ga : Nat → Nat) (ad : Int → Nat) (σ : zz_S) (sz : Nat) (hI : iw_ σ) (x : Int) (q_x : (-2147483648 ≤ x ∧ x < 2147483648)) : vx_Met l yX2_requireCode wsX2_requireCode ({ frames := 6, cells := 1, slots := 6, locals := 82 }) (ct_P D cy [.ref (ga 0), .int (zz_i (x))] (cw_ cy ga ad σ) sz) (ct_Q D cy (cw_ cy ga ad σ) sz none (fun _ : Unit => 0 ≤ x ∧ x ≤ σ 28 0) (fun _ => cw_ cy ga ad σ)) (ct_X D cy (cw_ cy ga ad σ) sz (x < 0 ∨ σ 28 0 < x) ("java/lang/IllegalArgumentException")) 1 6 (va_A (cw_ cy ga ad σ) sz) := by
  refine vx_ofW (cc := cX2_requireCode) (maxL := 2) (ret := none) (by decide) rfl ?_
  intro p e s m args below meth c s₁ B hml htb hv
  obtain ⟨rfl, rfl, hP, hK, hD0, hE⟩ := hv
  have hx := B.exec
  have hb := B.bytes
  have hr := B.returns
  have hts := atoms_spec (ws := wsX2_requireCode) B.pre
  have hown : s.vm.findClass RX2 = some m.cls := findClass_of_methodNamed B.named
  have hlocks := B.notSynchronized
  have hD := hD0.self (sz := s.heap.size)
  obtain ⟨A, hAe⟩ : ∃ A, A = va_A (cw_ cy ga ad σ) s.heap.size := ⟨_, rfl⟩
  rw [← hAe] at hD hE
  have hA : ∀ q : Nat, s.heap.size ≤ q → A q := fun q h => by rw [hAe]; exact Or.inr h
  have hS : va_S A s.heap s.heap [] := va_S.rf
  have hP : va_P D zz_cl (cw_ cy ga ad σ) s.heap := hP
  have hl := lv_entry ([.ref (ga 0), .int (zz_i (x))]) (n := 2) (Nat.le_of_ble_eq_true rfl)
  rw [lg_entry_eq]
  generalize (lg_sl ([.ref (ga 0), .int (zz_i (x))]) ++ List.replicate (2 - (lg_sl ([.ref (ga 0), .int (zz_i (x))])).length) Slot.unset).toArray = ls at hl ⊢
  have hl : lv_has ls 2 [(0, .ref (ga 0)), (1, .int (zz_i (x)))] := hl
  obtain ⟨j1, j2, j3, j4, j5, j6, j7, j8, j9, j10⟩ := id hI
  have haIAE := at_IAE (Ts := wsX2_requireCode) hts (by decide +kernel) hE
  refine lv_iload_n hx hb dX2_requireCode_0 rfl (lv_at hl 1 rfl) ?_
  refine zz_if_eq (tgt := 22) hx hb dX2_requireCode_1 (by decide) (by omega) (fun c1 => ?_) (fun c1 => ?_)
  · have hw9 : cw_ cy ga ad σ = cw_ cy ga ad σ := by rfl
    subst hAe
    refine W.widen (k := 1) (n := 6) (Nat.le_of_ble_eq_true rfl) (Nat.le_of_ble_eq_true rfl) ?_
    refine vx_ret ?_
    exact W.vret hx hb hr (fun t ht hW => ⟨rfl, ⟨(), (by omega), by rw [ht, hw9]; exact hP, va_K.moved hW.alike hK, by rw [hw9]; exact hD⟩, hS.F ht⟩) hS.2.2 dX2_requireCode_22
  · refine lv_aload_n hx hb dX2_requireCode_4 rfl (lv_at hl 0 rfl) ?_
    refine lv_iload_n hx hb dX2_requireCode_5 rfl (lv_at hl 1 rfl) ?_
    refine zc_v (As := [.int (zz_i (x))]) (rest := []) (S := Unit) (pc := 6) ⟨hx, hb, hml, hown, hts⟩ (c_isChute l D cy ga ad σ _ hI (x) (by omega)) (cwV 1 hts gX2_requireCode_X2_isChute rfl rfl rfl (by decide +kernel) ⟨Nat.le_of_ble_eq_true rfl, Nat.le_of_ble_eq_true rfl⟩) hK hP hD hS hA hE (va_recv hK hP (ci := 2) (q0 := 0) rfl rfl) rfl hl.1 rfl (Nat.le_of_ble_eq_true rfl) dX2_requireCode_6 ⟨Nat.le_of_ble_eq_true rfl, Nat.le_of_ble_eq_true rfl⟩ (fun _ H locs k2 hP hD hS => ?_)
    refine W.eq (g2 := F0 m 9 ls [.int (zz_i (sp_ch σ (x)))]) rfl ?_
    have b2_0 := sp_ch_b σ (x)
    refine zz_if_ne (tgt := 22) hx hb dX2_requireCode_9 (by decide) (by omega) (fun c3 => ?_) (fun c3 => ?_)
    · have hw9 : cw_ cy ga ad σ = cw_ cy ga ad σ := by rfl
      subst hAe
      refine W.widen (k := 1) (n := 6) (Nat.le_of_ble_eq_true rfl) (Nat.le_of_ble_eq_true rfl) ?_
      refine vx_ret ?_
      exact W.vret hx hb hr (fun t ht hW => ⟨rfl, ⟨(), (by omega), by rw [ht, hw9]; exact hP, va_K.moved hW.alike hK, by rw [hw9]; exact hD⟩, hS.F ht⟩) hS.2.2 dX2_requireCode_22
    · exact th_row (own := RX2) (cls := "java/lang/IllegalArgumentException") hx hb hl9 hown (by decide +kernel) (by decide +kernel) (hts (.classLink RX2 82 "java/lang/IllegalArgumentException") (by decide +kernel)) (hts (.initialized "java/lang/IllegalArgumentException") (by decide +kernel)) (hE.2.2.2.1 (230, "no such code") (by decide +kernel)) haIAE go_IAE hAe hE hK hP hD hS (hl.1.trans hml.symm) dX2_requireCode_12 dX2_requireCode_15 dX2_requireCode_16 dX2_requireCode_18 dX2_requireCode_21 htb (Nat.le_of_ble_eq_true rfl) (Nat.le_of_ble_eq_true rfl) (Nat.le_of_ble_eq_true rfl) (Nat.le_of_ble_eq_true rfl) hlocks (by omega) (Nat.le_of_ble_eq_true rfl) (Nat.le_of_ble_eq_true rfl)

set_option maxHeartbeats 4000000 in
set_option maxRecDepth 100000 in
theorem c_requireNotJammed (l : Launch) (hl9 : l.stackTraces = false) (D : va_G) (cy ga : Nat → Nat) (ad : Int → Nat) (σ : zz_S) (sz : Nat) (hI : iw_ σ) : vx_Met l yX2_requireNotJammed wsX2_requireNotJammed ({ frames := 6, cells := 1, slots := 6, locals := 82 }) (ct_P D cy [.ref (ga 0)] (cw_ cy ga ad σ) sz) (ct_Q D cy (cw_ cy ga ad σ) sz none (fun _ : Unit => σ 6 0 = 0) (fun _ => cw_ cy ga ad σ)) (ct_X D cy (cw_ cy ga ad σ) sz (σ 6 0 ≠ 0) ("java/lang/IllegalStateException")) 1 6 (va_A (cw_ cy ga ad σ) sz) := by
  refine vx_ofW (cc := cX2_requireNotJammed) (maxL := 1) (ret := none) (by decide) rfl ?_
  intro p e s m args below meth c s₁ B hml htb hv
  obtain ⟨rfl, rfl, hP, hK, hD0, hE⟩ := hv
  have hx := B.exec
  have hb := B.bytes
  have hr := B.returns
  have hts := atoms_spec (ws := wsX2_requireNotJammed) B.pre
  have hown : s.vm.findClass RX2 = some m.cls := findClass_of_methodNamed B.named
  have hlocks := B.notSynchronized
  have hD := hD0.self (sz := s.heap.size)
  obtain ⟨A, hAe⟩ : ∃ A, A = va_A (cw_ cy ga ad σ) s.heap.size := ⟨_, rfl⟩
  rw [← hAe] at hD hE
  have hA : ∀ q : Nat, s.heap.size ≤ q → A q := fun q h => by rw [hAe]; exact Or.inr h
  have hS : va_S A s.heap s.heap [] := va_S.rf
  have hP : va_P D zz_cl (cw_ cy ga ad σ) s.heap := hP
  have hl := lv_entry ([.ref (ga 0)]) (n := 1) (Nat.le_of_ble_eq_true rfl)
  rw [lg_entry_eq]
  generalize (lg_sl ([.ref (ga 0)]) ++ List.replicate (1 - (lg_sl ([.ref (ga 0)])).length) Slot.unset).toArray = ls at hl ⊢
  have hl : lv_has ls 1 [(0, .ref (ga 0))] := hl
  obtain ⟨j1, j2, j3, j4, j5, j6, j7, j8, j9, j10⟩ := id hI
  have hiX2 : ∀ w ∈ wsX20, w ∈ wsX2_requireNotJammed := by decide +kernel
  have hf173 := hts (.fieldLink RX2 173 "SorterSteps" "jammed" "Z") (by decide +kernel)
  have haISE := at_ISE (Ts := wsX2_requireNotJammed) hts (by decide +kernel) hE
  refine lv_aload_n hx hb dX2_requireNotJammed_0 rfl (lv_at hl 0 rfl) ?_
  refine va_get (D := D) (ci := 2) (v := .int (zz_i (σ 6 0))) (C := RX2) (T := TX2) (N := 10) hx hb hts hiX2 hown hK hP (0) rfl rfl 9 (by decide) hf173 (fun _ h9 => h9) rfl dX2_requireNotJammed_1 ?_
  refine zz_if_eq (tgt := 17) hx hb dX2_requireNotJammed_4 (by decide) (by omega) (fun c1 => ?_) (fun c1 => ?_)
  · have hw9 : cw_ cy ga ad σ = cw_ cy ga ad σ := by rfl
    subst hAe
    refine W.widen (k := 1) (n := 6) (Nat.le_of_ble_eq_true rfl) (Nat.le_of_ble_eq_true rfl) ?_
    refine vx_ret ?_
    exact W.vret hx hb hr (fun t ht hW => ⟨rfl, ⟨(), (by omega), by rw [ht, hw9]; exact hP, va_K.moved hW.alike hK, by rw [hw9]; exact hD⟩, hS.F ht⟩) hS.2.2 dX2_requireNotJammed_17
  · exact th_row (own := RX2) (cls := "java/lang/IllegalStateException") hx hb hl9 hown (by decide +kernel) (by decide +kernel) (hts (.classLink RX2 99 "java/lang/IllegalStateException") (by decide +kernel)) (hts (.initialized "java/lang/IllegalStateException") (by decide +kernel)) (hE.2.2.2.1 (232, "it is jammed") (by decide +kernel)) haISE go_ISE hAe hE hK hP hD hS (hl.1.trans hml.symm) dX2_requireNotJammed_7 dX2_requireNotJammed_10 dX2_requireNotJammed_11 dX2_requireNotJammed_13 dX2_requireNotJammed_16 htb (Nat.le_of_ble_eq_true rfl) (Nat.le_of_ble_eq_true rfl) (Nat.le_of_ble_eq_true rfl) (Nat.le_of_ble_eq_true rfl) hlocks (by omega) (Nat.le_of_ble_eq_true rfl) (Nat.le_of_ble_eq_true rfl)

set_option maxHeartbeats 4000000 in
set_option maxRecDepth 100000 in
theorem c_requireFit (l : Launch) (hl9 : l.stackTraces = false) (D : va_G) (cy ga : Nat → Nat) (ad : Int → Nat) (σ : zz_S) (sz : Nat) (hI : iw_ σ) (i : Int) (hi : 1 ≤ i ∧ i ≤ σ 4 0) (hq : iv_it σ i) : vx_Met l yX2_requireFit wsX2_requireFit ({ frames := 6, cells := 1, slots := 6, locals := 82 }) (ct_P D cy [.ref (ga 0), .ref (ad i)] (cw_ cy ga ad σ) sz) (ct_Q D cy (cw_ cy ga ad σ) sz none (fun _ : Unit => σ 13 i = 0 ∧ σ 12 i ≤ σ 3 0) (fun _ => cw_ cy ga ad σ)) (ct_X D cy (cw_ cy ga ad σ) sz (σ 13 i ≠ 0 ∨ σ 3 0 < σ 12 i) ("java/lang/IllegalStateException")) 1 6 (va_A (cw_ cy ga ad σ) sz) := by
  refine vx_ofW (cc := cX2_requireFit) (maxL := 2) (ret := none) (by decide) rfl ?_
  intro p e s m args below meth c s₁ B hml htb hv
  obtain ⟨rfl, rfl, hP, hK, hD0, hE⟩ := hv
  have hx := B.exec
  have hb := B.bytes
  have hr := B.returns
  have hts := atoms_spec (ws := wsX2_requireFit) B.pre
  have hown : s.vm.findClass RX2 = some m.cls := findClass_of_methodNamed B.named
  have hlocks := B.notSynchronized
  have hD := hD0.self (sz := s.heap.size)
  obtain ⟨A, hAe⟩ : ∃ A, A = va_A (cw_ cy ga ad σ) s.heap.size := ⟨_, rfl⟩
  rw [← hAe] at hD hE
  have hA : ∀ q : Nat, s.heap.size ≤ q → A q := fun q h => by rw [hAe]; exact Or.inr h
  have hS : va_S A s.heap s.heap [] := va_S.rf
  have hP : va_P D zz_cl (cw_ cy ga ad σ) s.heap := hP
  have hl := lv_entry ([.ref (ga 0), .ref (ad i)]) (n := 2) (Nat.le_of_ble_eq_true rfl)
  rw [lg_entry_eq]
  generalize (lg_sl ([.ref (ga 0), .ref (ad i)]) ++ List.replicate (2 - (lg_sl ([.ref (ga 0), .ref (ad i)])).length) Slot.unset).toArray = ls at hl ⊢
  have hl : lv_has ls 2 [(0, .ref (ga 0)), (1, .ref (ad i))] := hl
  obtain ⟨j1, j2, j3, j4, j5, j6, j7, j8, j9, j10⟩ := id hI
  have hiX0 : ∀ w ∈ wsX00, w ∈ wsX2_requireFit := by decide +kernel
  have hf123 := hts (.fieldLink RX2 123 "SorterSteps$Item" "state" "I") (by decide +kernel)
  have hf118 := hts (.fieldLink RX2 118 "SorterSteps$Item" "length" "I") (by decide +kernel)
  have hiX2 : ∀ w ∈ wsX20, w ∈ wsX2_requireFit := by decide +kernel
  have hf24 := hts (.fieldLink RX2 24 "SorterSteps" "trayLength" "I") (by decide +kernel)
  have haISE := at_ISE (Ts := wsX2_requireFit) hts (by decide +kernel) hE
  refine lv_aload_n hx hb dX2_requireFit_0 rfl (lv_at hl 1 rfl) ?_
  refine va_get (D := D) (ci := 0) (v := .int (zz_i (σ 13 i))) (C := RX0) (T := TX0) (N := 12) hx hb hts hiX0 hown hK hP (9 + (i - 1).toNat) (cw_it (show 1 ≤ i ∧ i ≤ σ 4 0 by omega)) rfl 2 (by decide) hf123 (fun _ h9 => h9) rfl dX2_requireFit_1 ?_
  refine zz_if_eq (tgt := 17) hx hb dX2_requireFit_4 (by decide) (by omega) (fun c1 => ?_) (fun c1 => ?_)
  · refine lv_aload_n hx hb dX2_requireFit_17 rfl (lv_at hl 1 rfl) ?_
    refine va_get (D := D) (ci := 0) (v := .int (zz_i (σ 12 i))) (C := RX0) (T := TX0) (N := 12) hx hb hts hiX0 hown hK hP (9 + (i - 1).toNat) (cw_it (show 1 ≤ i ∧ i ≤ σ 4 0 by omega)) rfl 1 (by decide) hf118 (fun _ h9 => h9) rfl dX2_requireFit_18 ?_
    refine lv_aload_n hx hb dX2_requireFit_21 rfl (lv_at hl 0 rfl) ?_
    refine va_get (D := D) (ci := 2) (v := .int (zz_i (σ 3 0))) (C := RX2) (T := TX2) (N := 10) hx hb hts hiX2 hown hK hP (0) rfl rfl 6 (by decide) hf24 (fun _ h9 => h9) rfl dX2_requireFit_22 ?_
    refine zz_icmp_le (tgt := 38) hx hb dX2_requireFit_25 (by decide) (by omega) (by omega) (fun c2 => ?_) (fun c2 => ?_)
    · have hw9 : cw_ cy ga ad σ = cw_ cy ga ad σ := by rfl
      subst hAe
      refine W.widen (k := 1) (n := 6) (Nat.le_of_ble_eq_true rfl) (Nat.le_of_ble_eq_true rfl) ?_
      refine vx_ret ?_
      exact W.vret hx hb hr (fun t ht hW => ⟨rfl, ⟨(), (by omega), by rw [ht, hw9]; exact hP, va_K.moved hW.alike hK, by rw [hw9]; exact hD⟩, hS.F ht⟩) hS.2.2 dX2_requireFit_38
    · exact th_row (own := RX2) (cls := "java/lang/IllegalStateException") hx hb hl9 hown (by decide +kernel) (by decide +kernel) (hts (.classLink RX2 99 "java/lang/IllegalStateException") (by decide +kernel)) (hts (.initialized "java/lang/IllegalStateException") (by decide +kernel)) (hE.2.2.2.1 (236, "the item is longer than the trays") (by decide +kernel)) haISE go_ISE hAe hE hK hP hD hS (hl.1.trans hml.symm) dX2_requireFit_28 dX2_requireFit_31 dX2_requireFit_32 dX2_requireFit_34 dX2_requireFit_37 htb (Nat.le_of_ble_eq_true rfl) (Nat.le_of_ble_eq_true rfl) (Nat.le_of_ble_eq_true rfl) (Nat.le_of_ble_eq_true rfl) hlocks (by omega) (Nat.le_of_ble_eq_true rfl) (Nat.le_of_ble_eq_true rfl)
  · exact th_row (own := RX2) (cls := "java/lang/IllegalStateException") hx hb hl9 hown (by decide +kernel) (by decide +kernel) (hts (.classLink RX2 99 "java/lang/IllegalStateException") (by decide +kernel)) (hts (.initialized "java/lang/IllegalStateException") (by decide +kernel)) (hE.2.2.2.1 (234, "the item is not new") (by decide +kernel)) haISE go_ISE hAe hE hK hP hD hS (hl.1.trans hml.symm) dX2_requireFit_7 dX2_requireFit_10 dX2_requireFit_11 dX2_requireFit_13 dX2_requireFit_16 htb (Nat.le_of_ble_eq_true rfl) (Nat.le_of_ble_eq_true rfl) (Nat.le_of_ble_eq_true rfl) (Nat.le_of_ble_eq_true rfl) hlocks (by omega) (Nat.le_of_ble_eq_true rfl) (Nat.le_of_ble_eq_true rfl)

set_option maxHeartbeats 4000000 in
set_option maxRecDepth 100000 in
theorem c_itemNumbered (l : Launch) (hl9 : l.stackTraces = false) (D : va_G) (cy ga : Nat → Nat) (ad : Int → Nat) (σ : zz_S) (sz : Nat) (hI : iw_ σ) (x : Int) (q_x : (-2147483648 ≤ x ∧ x < 2147483648)) : vx_Met l yX2_itemNumbered wsX2_itemNumbered ({ frames := 6, cells := 1, slots := 6, locals := 82 }) (ct_P D cy [.ref (ga 0), .int (zz_i (x))] (cw_ cy ga ad σ) sz) (ct_Q D cy (cw_ cy ga ad σ) sz (some (.ref (ad (x)))) (fun _ : Unit => 1 ≤ x ∧ x ≤ σ 4 0) (fun _ => cw_ cy ga ad σ)) (ct_X D cy (cw_ cy ga ad σ) sz (x < 1 ∨ σ 4 0 < x) ("java/lang/IllegalArgumentException")) 1 6 (va_A (cw_ cy ga ad σ) sz) := by
  refine vx_ofW (cc := cX2_itemNumbered) (maxL := 3) (ret := (some (.object "SorterSteps$Item"))) (by decide) rfl ?_
  intro p e s m args below meth c s₁ B hml htb hv
  obtain ⟨rfl, rfl, hP, hK, hD0, hE⟩ := hv
  have hx := B.exec
  have hb := B.bytes
  have hr := B.returns
  have hts := atoms_spec (ws := wsX2_itemNumbered) B.pre
  have hown : s.vm.findClass RX2 = some m.cls := findClass_of_methodNamed B.named
  have hlocks := B.notSynchronized
  have hD := hD0.self (sz := s.heap.size)
  obtain ⟨A, hAe⟩ : ∃ A, A = va_A (cw_ cy ga ad σ) s.heap.size := ⟨_, rfl⟩
  rw [← hAe] at hD hE
  have hA : ∀ q : Nat, s.heap.size ≤ q → A q := fun q h => by rw [hAe]; exact Or.inr h
  have hS : va_S A s.heap s.heap [] := va_S.rf
  have hP : va_P D zz_cl (cw_ cy ga ad σ) s.heap := hP
  have hl := lv_entry ([.ref (ga 0), .int (zz_i (x))]) (n := 3) (Nat.le_of_ble_eq_true rfl)
  rw [lg_entry_eq]
  generalize (lg_sl ([.ref (ga 0), .int (zz_i (x))]) ++ List.replicate (3 - (lg_sl ([.ref (ga 0), .int (zz_i (x))])).length) Slot.unset).toArray = ls at hl ⊢
  have hl : lv_has ls 3 [(0, .ref (ga 0)), (1, .int (zz_i (x)))] := hl
  obtain ⟨j1, j2, j3, j4, j5, j6, j7, j8, j9, j10⟩ := id hI
  have hiX2 : ∀ w ∈ wsX20, w ∈ wsX2_itemNumbered := by decide +kernel
  have hf14 := hts (.fieldLink RX2 14 "SorterSteps" "items" "LSorterSteps$ItemRow;") (by decide +kernel)
  have haIAE := at_IAE (Ts := wsX2_itemNumbered) hts (by decide +kernel) hE
  refine lv_aload_n hx hb dX2_itemNumbered_0 rfl (lv_at hl 0 rfl) ?_
  refine va_get (D := D) (ci := 2) (v := .ref (ga 3)) (C := RX2) (T := TX2) (N := 10) hx hb hts hiX2 hown hK hP (0) rfl rfl 2 (by decide) hf14 (fun _ h9 => h9) rfl dX2_itemNumbered_1 ?_
  refine lv_iload_n hx hb dX2_itemNumbered_4 rfl (lv_at hl 1 rfl) ?_
  refine lv_iconst (v := zz_i (1)) hx hb dX2_itemNumbered_5 rfl ?_
  refine zz_isub hx hb dX2_itemNumbered_6 ?_
  obtain ⟨y, hy1, hy2⟩ := zz_pred x
  refine W.eq (g2 := F0 m 7 ls [.int (zz_i (y)), .ref (ga 3)]) (by rw [hy1]) ?_
  refine zc_v (As := [.int (zz_i (y))]) (rest := []) (S := Unit) (pc := 7) ⟨hx, hb, hml, hown, hts⟩ (c_at_it l D cy ga ad σ _ hI (y) (by omega)) (cwV 1 hts gX2_itemNumbered_X1_at rfl rfl rfl (by decide +kernel) ⟨Nat.le_of_ble_eq_true rfl, Nat.le_of_ble_eq_true rfl⟩) hK hP hD hS hA hE (va_recv hK hP (ci := 1) (q0 := 3) rfl rfl) rfl hl.1 rfl (Nat.le_of_ble_eq_true rfl) dX2_itemNumbered_7 ⟨Nat.le_of_ble_eq_true rfl, Nat.le_of_ble_eq_true rfl⟩ (fun _ H locs k1 hP hD hS => ?_)
  refine W.eq (g2 := F0 m 10 ls [va_rf (aq_ ad (sp_ai σ (y)))]) rfl ?_
  have b1_0 := sp_ai_b σ (y)
  rcases aq_or ad (sp_ai σ (y)) with ⟨c2, hv⟩ | ⟨c2, hv⟩
  · refine W.eq (g2 := F0 m 10 ls [.null]) (congrArg (fun z => F0 m 10 ls (z :: [])) hv) ?_
    refine lv_astore_nN (lv' := [(2, .null), (0, .ref (ga 0)), (1, .int (zz_i (x)))]) hx hb dX2_itemNumbered_10 rfl hl (by decide) rfl (fun ls hl => ?_)
    refine lv_aload_nN hx hb dX2_itemNumbered_11 rfl (lv_at hl 0 rfl) ?_
    refine lv_ifnonnullN hx hb dX2_itemNumbered_12 ?_
    exact th_row (own := RX2) (cls := "java/lang/IllegalArgumentException") hx hb hl9 hown (by decide +kernel) (by decide +kernel) (hts (.classLink RX2 82 "java/lang/IllegalArgumentException") (by decide +kernel)) (hts (.initialized "java/lang/IllegalArgumentException") (by decide +kernel)) (hE.2.2.2.1 (221, "no such item") (by decide +kernel)) haIAE go_IAE hAe hE hK hP hD hS (hl.1.trans hml.symm) dX2_itemNumbered_15 dX2_itemNumbered_18 dX2_itemNumbered_19 dX2_itemNumbered_21 dX2_itemNumbered_24 htb (Nat.le_of_ble_eq_true rfl) (Nat.le_of_ble_eq_true rfl) (Nat.le_of_ble_eq_true rfl) (Nat.le_of_ble_eq_true rfl) hlocks (by omega) (Nat.le_of_ble_eq_true rfl) (Nat.le_of_ble_eq_true rfl)
  · refine W.eq (g2 := F0 m 10 ls [.ref (ad (sp_ai σ (y)))]) (congrArg (fun z => F0 m 10 ls (z :: [])) hv) ?_
    refine lv_astore_n (lv' := [(2, .ref (ad (sp_ai σ (y)))), (0, .ref (ga 0)), (1, .int (zz_i (x)))]) hx hb dX2_itemNumbered_10 rfl hl (by decide) rfl (fun ls hl => ?_)
    refine lv_aload_n hx hb dX2_itemNumbered_11 rfl (lv_at hl 0 rfl) ?_
    refine lv_ifnonnull (tgt := 25) hx hb dX2_itemNumbered_12 (by decide) ?_
    refine lv_aload_n hx hb dX2_itemNumbered_25 rfl (lv_at hl 0 rfl) ?_
    have hv9 : x = sp_ai σ (y) := by omega
    have hw9 : cw_ cy ga ad σ = cw_ cy ga ad σ := by rfl
    subst hAe
    refine W.widen (k := 1) (n := 6) (Nat.le_of_ble_eq_true rfl) (Nat.le_of_ble_eq_true rfl) ?_
    refine vx_ret ?_
    exact W.aret (v := .ref (ad (sp_ai σ (y)))) hx hb hr (Or.inl ⟨_, rfl⟩) (Or.inr ⟨_, rfl⟩) (fun t ht hW => ⟨by rw [← hv9], ⟨(), (by omega), by rw [ht, hw9]; exact hP, va_K.moved hW.alike hK, by rw [hw9]; exact hD⟩, hS.F ht⟩) hS.2.2 dX2_itemNumbered_26
end
