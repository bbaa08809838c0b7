section
set_option maxHeartbeats 4000000 in
set_option maxRecDepth 100000 in
theorem c_add_lf (l : Launch) (D : va_G) (cy ga : Nat → Nat) (ad : Int → Nat) (σ : zz_S) (sz : Nat) (hI : iw_ σ) (i : Int) (hi : 1 ≤ i ∧ i ≤ σ 4 0) (hf : σ 5 0 < 60) : Met l yX1_add wsX1_add ({ frames := 1, cells := 0, slots := 0, locals := 20 }) (ct_P D cy [.ref (ga 4), .ref (ad i)] (cw_ cy ga ad σ) sz) (ct_Q D cy (cw_ cy ga ad σ) sz none (fun _ : Unit => True) (fun _ => cw_ cy ga ad (up_s (up_a σ 23 (σ 5 0) i) 5 (σ 5 0 + 1)))) 0 0 (va_A (cw_ cy ga ad σ) sz) := by
  refine Met.ofW (cc := cX1_add) (maxL := 2) (ret := none) (by decide) rfl ?_
  intro p e s m args below meth c s₁ B hml hv
  obtain ⟨rfl, rfl, hP, hK, hD0, hE⟩ := hv
  have hx := B.exec
  have hb := B.bytes
  have hr := B.returns
  have hts := atoms_spec (ws := wsX1_add) B.pre
  have hown : s.vm.findClass RX1 = some m.cls := findClass_of_methodNamed B.named
  have hlocks := B.notSynchronized
  have hD := hD0.self (sz := s.heap.size)
  obtain ⟨A, hAe⟩ : ∃ A, A = va_A (cw_ cy ga ad σ) s.heap.size := ⟨_, rfl⟩
  rw [← hAe] at hD hE
  have hA : ∀ q : Nat, s.heap.size ≤ q → A q := fun q h => by rw [hAe]; exact Or.inr h
  have hS : va_S A s.heap s.heap [] := va_S.rf
  have hP : va_P D zz_cl (cw_ cy ga ad σ) s.heap := hP
  have hl := lv_entry ([.ref (ga 4), .ref (ad i)]) (n := 2) (Nat.le_of_ble_eq_true rfl)
  rw [lg_entry_eq]
  generalize (lg_sl ([.ref (ga 4), .ref (ad i)]) ++ List.replicate (2 - (lg_sl ([.ref (ga 4), .ref (ad i)])).length) Slot.unset).toArray = ls at hl ⊢
  have hl : lv_has ls 2 [(0, .ref (ga 4)), (1, .ref (ad i))] := hl
  obtain ⟨j1, j2, j3, j4, j5, j6, j7, j8, j9, j10⟩ := id hI
  have hiX1 : ∀ w ∈ wsX10, w ∈ wsX1_add := by decide +kernel
  have hf15 := hts (.fieldLink RX1 15 "SorterSteps$ItemRow" "places" "[LSorterSteps$Item;") (by decide +kernel)
  have hf21 := hts (.fieldLink RX1 21 "SorterSteps$ItemRow" "size" "I") (by decide +kernel)
  refine lv_aload_n hx hb dX1_add_0 rfl (lv_at hl 0 rfl) ?_
  refine zc_v (As := []) (rest := []) (S := Unit) (pc := 1) ⟨hx, hb, hml, hown, hts⟩ (c_filled_lf l D cy ga ad σ _ hI) (cwV 0 hts gX1_add_X1_isFilled rfl rfl rfl (by decide +kernel) ⟨Nat.le_of_ble_eq_true rfl, Nat.le_of_ble_eq_true rfl⟩) hK hP hD hS hA hE (va_recv hK hP (ci := 1) (q0 := 4) rfl rfl) rfl hl.1 rfl (Nat.le_of_ble_eq_true rfl) dX1_add_1 ⟨Nat.le_of_ble_eq_true rfl, Nat.le_of_ble_eq_true rfl⟩ (fun _ H locs k1 hP hD hS => ?_)
  refine W.eq (g2 := F0 m 4 ls [.int (zz_i (sp_fl σ 5 60))]) rfl ?_
  have b1_0 := sp_fl_b σ 5 60
  refine zz_if_ne (tgt := 27) hx hb dX1_add_4 (by decide) (by omega) (fun c2 => ?_) (fun c2 => ?_)
  · exact absurd c2 (by omega)
  · refine lv_aload_n hx hb dX1_add_7 rfl (lv_at hl 0 rfl) ?_
    refine va_get (D := D) (ci := 1) (v := .ref (ga 7)) (C := RX1) (T := TX1) (N := 2) hx hb hts hiX1 hown hK hP (4) rfl rfl 0 (by decide) hf15 (fun _ h9 => h9) rfl dX1_add_8 ?_
    refine lv_aload_n hx hb dX1_add_11 rfl (lv_at hl 0 rfl) ?_
    refine va_get (D := D) (ci := 1) (v := .int (zz_i (σ 5 0))) (C := RX1) (T := TX1) (N := 2) hx hb hts hiX1 hown hK hP (4) rfl rfl 1 (by decide) hf21 (fun _ h9 => h9) rfl dX1_add_12 ?_
    refine lv_aload_n hx hb dX1_add_15 rfl (lv_at hl 1 rfl) ?_
    refine zz_aast hx hb hK hP hD hS 7 2 (9 + (i - 1).toNat) 0 rfl rfl (cw_it (show 1 ≤ i ∧ i ≤ σ 4 0 by omega)) rfl (show 0 ≤ σ 5 0 ∧ σ 5 0 < ((60 : Nat) : Int) by omega) (show 60 < 2147483648 by omega) (by omega) dX1_add_16 (fun H locs hP hD hS => ?_)
    have hP : va_P D zz_cl (cw_ cy ga ad (up_a σ 23 (σ 5 0) (i))) H := hP
    have hD : va_D A (cw_ cy ga ad (up_a σ 23 (σ 5 0) (i))) := hD
    refine lv_aload_n hx hb dX1_add_17 rfl (lv_at hl 0 rfl) ?_
    refine lv_dup hx hb dX1_add_18 rfl ?_
    refine va_get (D := D) (ci := 1) (v := .int (zz_i (σ 5 0))) (C := RX1) (T := TX1) (N := 2) hx hb hts hiX1 hown hK hP (4) rfl rfl 1 (by decide) hf21 (fun _ h9 => h9) rfl dX1_add_19 ?_
    refine lv_iconst (v := zz_i (1)) hx hb dX1_add_22 rfl ?_
    refine zz_iadd hx hb dX1_add_23 ?_
    refine va_put (D := D) (ci := 1) (v := .int (zz_i ((σ 5 0) + 1))) (ty := .int) (C := RX1) (T := TX1) (N := 2) hx hb hts hiX1 tyX1 tyX1_ok nmX1 hown hK hP hD hS (4) rfl rfl 1 (by decide) hf21 (fun _ h9 => h9) rfl (by decide +kernel) rfl rfl (Nat.le_of_ble_eq_true rfl) dX1_add_24 (fun H locs hP hD hS => ?_)
    have hP : va_P D zz_cl (cw_ cy ga ad (up_s (up_a σ 23 (σ 5 0) (i)) 5 ((σ 5 0) + 1))) H := hP
    have hD : va_D A (cw_ cy ga ad (up_s (up_a σ 23 (σ 5 0) (i)) 5 ((σ 5 0) + 1))) := hD
    have hw9 : cw_ cy ga ad (up_s (up_a σ 23 (σ 5 0) i) 5 (σ 5 0 + 1)) = cw_ cy ga ad (up_s (up_a σ 23 (σ 5 0) (i)) 5 ((σ 5 0) + 1)) := by rfl
    subst hAe
    exact W.vret hx hb hr (fun t ht hW => ⟨rfl, ⟨(), trivial, by rw [ht, hw9]; exact hP, va_K.moved hW.alike hK, by rw [hw9]; exact hD⟩, hS.F ht⟩) hS.2.2 dX1_add_27

set_option maxHeartbeats 4000000 in
set_option maxRecDepth 100000 in
theorem c_add_db (l : Launch) (D : va_G) (cy ga : Nat → Nat) (ad : Int → Nat) (σ : zz_S) (sz : Nat) (hI : iw_ σ) (i : Int) (hi : 1 ≤ i ∧ i ≤ σ 4 0) (hf : σ 7 0 < 40) : Met l yX1_add wsX1_add ({ frames := 1, cells := 0, slots := 0, locals := 20 }) (ct_P D cy [.ref (ga 5), .ref (ad i)] (cw_ cy ga ad σ) sz) (ct_Q D cy (cw_ cy ga ad σ) sz none (fun _ : Unit => True) (fun _ => cw_ cy ga ad (up_s (up_a σ 27 (σ 7 0) i) 7 (σ 7 0 + 1)))) 0 0 (va_A (cw_ cy ga ad σ) sz) := by
  refine Met.ofW (cc := cX1_add) (maxL := 2) (ret := none) (by decide) rfl ?_
  intro p e s m args below meth c s₁ B hml hv
  obtain ⟨rfl, rfl, hP, hK, hD0, hE⟩ := hv
  have hx := B.exec
  have hb := B.bytes
  have hr := B.returns
  have hts := atoms_spec (ws := wsX1_add) B.pre
  have hown : s.vm.findClass RX1 = some m.cls := findClass_of_methodNamed B.named
  have hlocks := B.notSynchronized
  have hD := hD0.self (sz := s.heap.size)
  obtain ⟨A, hAe⟩ : ∃ A, A = va_A (cw_ cy ga ad σ) s.heap.size := ⟨_, rfl⟩
  rw [← hAe] at hD hE
  have hA : ∀ q : Nat, s.heap.size ≤ q → A q := fun q h => by rw [hAe]; exact Or.inr h
  have hS : va_S A s.heap s.heap [] := va_S.rf
  have hP : va_P D zz_cl (cw_ cy ga ad σ) s.heap := hP
  have hl := lv_entry ([.ref (ga 5), .ref (ad i)]) (n := 2) (Nat.le_of_ble_eq_true rfl)
  rw [lg_entry_eq]
  generalize (lg_sl ([.ref (ga 5), .ref (ad i)]) ++ List.replicate (2 - (lg_sl ([.ref (ga 5), .ref (ad i)])).length) Slot.unset).toArray = ls at hl ⊢
  have hl : lv_has ls 2 [(0, .ref (ga 5)), (1, .ref (ad i))] := hl
  obtain ⟨j1, j2, j3, j4, j5, j6, j7, j8, j9, j10⟩ := id hI
  have hiX1 : ∀ w ∈ wsX10, w ∈ wsX1_add := by decide +kernel
  have hf15 := hts (.fieldLink RX1 15 "SorterSteps$ItemRow" "places" "[LSorterSteps$Item;") (by decide +kernel)
  have hf21 := hts (.fieldLink RX1 21 "SorterSteps$ItemRow" "size" "I") (by decide +kernel)
  refine lv_aload_n hx hb dX1_add_0 rfl (lv_at hl 0 rfl) ?_
  refine zc_v (As := []) (rest := []) (S := Unit) (pc := 1) ⟨hx, hb, hml, hown, hts⟩ (c_filled_db l D cy ga ad σ _ hI) (cwV 0 hts gX1_add_X1_isFilled rfl rfl rfl (by decide +kernel) ⟨Nat.le_of_ble_eq_true rfl, Nat.le_of_ble_eq_true rfl⟩) hK hP hD hS hA hE (va_recv hK hP (ci := 1) (q0 := 5) rfl rfl) rfl hl.1 rfl (Nat.le_of_ble_eq_true rfl) dX1_add_1 ⟨Nat.le_of_ble_eq_true rfl, Nat.le_of_ble_eq_true rfl⟩ (fun _ H locs k1 hP hD hS => ?_)
  refine W.eq (g2 := F0 m 4 ls [.int (zz_i (sp_fl σ 7 40))]) rfl ?_
  have b1_0 := sp_fl_b σ 7 40
  refine zz_if_ne (tgt := 27) hx hb dX1_add_4 (by decide) (by omega) (fun c2 => ?_) (fun c2 => ?_)
  · exact absurd c2 (by omega)
  · refine lv_aload_n hx hb dX1_add_7 rfl (lv_at hl 0 rfl) ?_
    refine va_get (D := D) (ci := 1) (v := .ref (ga 8)) (C := RX1) (T := TX1) (N := 2) hx hb hts hiX1 hown hK hP (5) rfl rfl 0 (by decide) hf15 (fun _ h9 => h9) rfl dX1_add_8 ?_
    refine lv_aload_n hx hb dX1_add_11 rfl (lv_at hl 0 rfl) ?_
    refine va_get (D := D) (ci := 1) (v := .int (zz_i (σ 7 0))) (C := RX1) (T := TX1) (N := 2) hx hb hts hiX1 hown hK hP (5) rfl rfl 1 (by decide) hf21 (fun _ h9 => h9) rfl dX1_add_12 ?_
    refine lv_aload_n hx hb dX1_add_15 rfl (lv_at hl 1 rfl) ?_
    refine zz_aast hx hb hK hP hD hS 8 2 (9 + (i - 1).toNat) 0 rfl rfl (cw_it (show 1 ≤ i ∧ i ≤ σ 4 0 by omega)) rfl (show 0 ≤ σ 7 0 ∧ σ 7 0 < ((40 : Nat) : Int) by omega) (show 40 < 2147483648 by omega) (by omega) dX1_add_16 (fun H locs hP hD hS => ?_)
    have hP : va_P D zz_cl (cw_ cy ga ad (up_a σ 27 (σ 7 0) (i))) H := hP
    have hD : va_D A (cw_ cy ga ad (up_a σ 27 (σ 7 0) (i))) := hD
    refine lv_aload_n hx hb dX1_add_17 rfl (lv_at hl 0 rfl) ?_
    refine lv_dup hx hb dX1_add_18 rfl ?_
    refine va_get (D := D) (ci := 1) (v := .int (zz_i (σ 7 0))) (C := RX1) (T := TX1) (N := 2) hx hb hts hiX1 hown hK hP (5) rfl rfl 1 (by decide) hf21 (fun _ h9 => h9) rfl dX1_add_19 ?_
    refine lv_iconst (v := zz_i (1)) hx hb dX1_add_22 rfl ?_
    refine zz_iadd hx hb dX1_add_23 ?_
    refine va_put (D := D) (ci := 1) (v := .int (zz_i ((σ 7 0) + 1))) (ty := .int) (C := RX1) (T := TX1) (N := 2) hx hb hts hiX1 tyX1 tyX1_ok nmX1 hown hK hP hD hS (5) rfl rfl 1 (by decide) hf21 (fun _ h9 => h9) rfl (by decide +kernel) rfl rfl (Nat.le_of_ble_eq_true rfl) dX1_add_24 (fun H locs hP hD hS => ?_)
    have hP : va_P D zz_cl (cw_ cy ga ad (up_s (up_a σ 27 (σ 7 0) (i)) 7 ((σ 7 0) + 1))) H := hP
    have hD : va_D A (cw_ cy ga ad (up_s (up_a σ 27 (σ 7 0) (i)) 7 ((σ 7 0) + 1))) := hD
    have hw9 : cw_ cy ga ad (up_s (up_a σ 27 (σ 7 0) i) 7 (σ 7 0 + 1)) = cw_ cy ga ad (up_s (up_a σ 27 (σ 7 0) (i)) 7 ((σ 7 0) + 1)) := by rfl
    subst hAe
    exact W.vret hx hb hr (fun t ht hW => ⟨rfl, ⟨(), trivial, by rw [ht, hw9]; exact hP, va_K.moved hW.alike hK, by rw [hw9]; exact hD⟩, hS.F ht⟩) hS.2.2 dX1_add_27

set_option maxHeartbeats 4000000 in
set_option maxRecDepth 100000 in
theorem c_clear_db (l : Launch) (D : va_G) (cy ga : Nat → Nat) (ad : Int → Nat) (σ : zz_S) (sz : Nat) : Met l yX1_clear wsX1_clear ({ frames := 0, cells := 0, slots := 0, locals := 0 }) (ct_P D cy [.ref (ga 5)] (cw_ cy ga ad σ) sz) (ct_Q D cy (cw_ cy ga ad σ) sz none (fun _ : Unit => True) (fun _ => cw_ cy ga ad (up_s σ 7 0))) 0 0 (va_A (cw_ cy ga ad σ) sz) := by
  refine Met.ofW (cc := cX1_clear) (maxL := 1) (ret := none) (by decide) rfl ?_
  intro p e s m args below meth c s₁ B hml hv
  obtain ⟨rfl, rfl, hP, hK, hD0, hE⟩ := hv
  have hx := B.exec
  have hb := B.bytes
  have hr := B.returns
  have hts := atoms_spec (ws := wsX1_clear) B.pre
  have hown : s.vm.findClass RX1 = some m.cls := findClass_of_methodNamed B.named
  have hlocks := B.notSynchronized
  have hD := hD0.self (sz := s.heap.size)
  obtain ⟨A, hAe⟩ : ∃ A, A = va_A (cw_ cy ga ad σ) s.heap.size := ⟨_, rfl⟩
  rw [← hAe] at hD hE
  have hA : ∀ q : Nat, s.heap.size ≤ q → A q := fun q h => by rw [hAe]; exact Or.inr h
  have hS : va_S A s.heap s.heap [] := va_S.rf
  have hP : va_P D zz_cl (cw_ cy ga ad σ) s.heap := hP
  have hl := lv_entry ([.ref (ga 5)]) (n := 1) (Nat.le_of_ble_eq_true rfl)
  rw [lg_entry_eq]
  generalize (lg_sl ([.ref (ga 5)]) ++ List.replicate (1 - (lg_sl ([.ref (ga 5)])).length) Slot.unset).toArray = ls at hl ⊢
  have hl : lv_has ls 1 [(0, .ref (ga 5))] := hl
  have hiX1 : ∀ w ∈ wsX10, w ∈ wsX1_clear := by decide +kernel
  have hf21 := hts (.fieldLink RX1 21 "SorterSteps$ItemRow" "size" "I") (by decide +kernel)
  refine lv_aload_n hx hb dX1_clear_0 rfl (lv_at hl 0 rfl) ?_
  refine lv_iconst (v := zz_i (0)) hx hb dX1_clear_1 rfl ?_
  refine va_put (D := D) (ci := 1) (v := .int (zz_i (0))) (ty := .int) (C := RX1) (T := TX1) (N := 2) hx hb hts hiX1 tyX1 tyX1_ok nmX1 hown hK hP hD hS (5) rfl rfl 1 (by decide) hf21 (fun _ h9 => h9) rfl (by decide +kernel) rfl rfl (Nat.le_of_ble_eq_true rfl) dX1_clear_2 (fun H locs hP hD hS => ?_)
  have hP : va_P D zz_cl (cw_ cy ga ad (up_s σ 7 (0))) H := hP
  have hD : va_D A (cw_ cy ga ad (up_s σ 7 (0))) := hD
  have hw9 : cw_ cy ga ad (up_s σ 7 0) = cw_ cy ga ad (up_s σ 7 (0)) := by rfl
  subst hAe
  exact W.vret hx hb hr (fun t ht hW => ⟨rfl, ⟨(), trivial, by rw [ht, hw9]; exact hP, va_K.moved hW.alike hK, by rw [hw9]; exact hD⟩, hS.F ht⟩) hS.2.2 dX1_clear_5
end
