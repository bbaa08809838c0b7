section
set_option maxHeartbeats 4000000 in
set_option maxRecDepth 100000 in
theorem r_leave (l : Launch) (D : va_G) (cy gr : Nat → Nat) (kc : Int) (σ : zz_S) (sz : Nat) (lo : Int) (hI : ir_ lo σ) (t st lt : Int) (ht : 0 ≤ t ∧ t < σ 0 0) (h0 : σ 10 t ≠ 0) : Met l yX3_leave wsX3_leave ({ frames := 0, cells := 0, slots := 0, locals := 0 }) (ct_P D cy [.ref (gr 0), .int (zz_i (t)), .int (zz_i (st)), .int (zz_i (lt))] (rk_ cy gr kc σ) sz) (ct_Q D cy (rk_ cy gr kc σ) sz none (fun _ : Unit => True) (fun _ => rk_ cy gr kc (sp_lv σ (σ 10 t) st lt))) 0 0 (va_A (rk_ cy gr kc σ) sz) := by
  refine Met.ofW (cc := cX3_leave) (maxL := 5) (ret := none) (by decide) rfl ?_
  intro p e s m args below meth c s₁ B hml hv
  obtain ⟨rfl, rfl, hP, hK, hD0, hE⟩ := hv
  have hx := B.exec
  have hb := B.bytes
  have hr := B.returns
  have hts := atoms_spec (ws := wsX3_leave) B.pre
  have hown : s.vm.findClass RX3 = some m.cls := findClass_of_methodNamed B.named
  have hlocks := B.notSynchronized
  have hD := hD0.self (sz := s.heap.size)
  obtain ⟨A, hAe⟩ : ∃ A, A = va_A (rk_ cy gr kc σ) s.heap.size := ⟨_, rfl⟩
  rw [← hAe] at hD hE
  have hA : ∀ q : Nat, s.heap.size ≤ q → A q := fun q h => by rw [hAe]; exact Or.inr h
  have hS : va_S A s.heap s.heap [] := va_S.rf
  have hP : va_P D zz_cl (rk_ cy gr kc σ) s.heap := hP
  have hl := lv_entry ([.ref (gr 0), .int (zz_i (t)), .int (zz_i (st)), .int (zz_i (lt))]) (n := 5) (Nat.le_of_ble_eq_true rfl)
  rw [lg_entry_eq]
  generalize (lg_sl ([.ref (gr 0), .int (zz_i (t)), .int (zz_i (st)), .int (zz_i (lt))]) ++ List.replicate (5 - (lg_sl ([.ref (gr 0), .int (zz_i (t)), .int (zz_i (st)), .int (zz_i (lt))])).length) Slot.unset).toArray = ls at hl ⊢
  have hl : lv_has ls 5 [(0, .ref (gr 0)), (1, .int (zz_i (t))), (2, .int (zz_i (st))), (3, .int (zz_i (lt)))] := hl
  obtain ⟨⟨j1, j2, j3, j4, j5, j6, j7, j8, j9, j10⟩, j11, j12, j13, j14, j15, j16, j17, j18, j19, j20, j21, j22, j23, j24⟩ := id hI
  have ho := pw_on hI ht.1 h0
  have hlf := lf_lt hI ho.1 ho.2.2
  have hiX3 : ∀ w ∈ wsX30, w ∈ wsX3_leave := by decide +kernel
  have hf13 := hts (.fieldLink RX3 13 "SorterStepsModel" "on" "[I") (by decide +kernel)
  have hf24 := hts (.fieldLink RX3 24 "SorterStepsModel" "state" "[I") (by decide +kernel)
  have hf39 := hts (.fieldLink RX3 39 "SorterStepsModel" "leftItem" "[I") (by decide +kernel)
  have hf98 := hts (.fieldLink RX3 98 "SorterStepsModel" "left" "I") (by decide +kernel)
  have hf42 := hts (.fieldLink RX3 42 "SorterStepsModel" "leftChute" "[I") (by decide +kernel)
  have hf45 := hts (.fieldLink RX3 45 "SorterStepsModel" "leftStep" "[I") (by decide +kernel)
  have hf81 := hts (.fieldLink RX3 81 "SorterStepsModel" "steps" "I") (by decide +kernel)
  have hf48 := hts (.fieldLink RX3 48 "SorterStepsModel" "leftRounds" "[I") (by decide +kernel)
  have hf30 := hts (.fieldLink RX3 30 "SorterStepsModel" "rounds" "[I") (by decide +kernel)
  refine lv_aload_n hx hb dX3_leave_0 rfl (lv_at hl 0 rfl) ?_
  refine va_get (D := D) (ci := 3) (v := .ref (gr 1)) (C := RX3) (T := TX3) (N := 23) hx hb hts hiX3 hown hK hP (0) rfl rfl 5 (by decide) hf13 (fun _ h9 => h9) rfl dX3_leave_1 ?_
  refine lv_iload_n hx hb dX3_leave_4 rfl (lv_at hl 1 rfl) ?_
  refine zz_iald hx hb hK hP 1 0 rfl rfl (show 0 ≤ t ∧ t < ((40 : Nat) : Int) by omega) (show 40 < 2147483648 by omega) dX3_leave_5 ?_
  refine lv_istore (lv' := [(4, .int (zz_i (σ 10 t))), (0, .ref (gr 0)), (1, .int (zz_i (t))), (2, .int (zz_i (st))), (3, .int (zz_i (lt)))]) hx hb dX3_leave_6 hl (by decide) rfl (fun ls hl => ?_)
  refine lv_aload_n hx hb dX3_leave_8 rfl (lv_at hl 1 rfl) ?_
  refine va_get (D := D) (ci := 3) (v := .ref (gr 1)) (C := RX3) (T := TX3) (N := 23) hx hb hts hiX3 hown hK hP (0) rfl rfl 5 (by decide) hf13 (fun _ h9 => h9) rfl dX3_leave_9 ?_
  refine lv_iload_n hx hb dX3_leave_12 rfl (lv_at hl 2 rfl) ?_
  refine lv_iconst (v := zz_i (0)) hx hb dX3_leave_13 rfl ?_
  refine zz_iast hx hb hK hP hD hS 1 0 rfl rfl (show 0 ≤ t ∧ t < ((40 : Nat) : Int) by omega) (show 40 < 2147483648 by omega) dX3_leave_14 (fun H locs hP hD hS => ?_)
  have hP : va_P D zz_cl (rk_ cy gr kc (up_a σ 10 (t) (0))) H := hP
  have hD : va_D A (rk_ cy gr kc (up_a σ 10 (t) (0))) := hD
  refine lv_aload_n hx hb dX3_leave_15 rfl (lv_at hl 1 rfl) ?_
  refine va_get (D := D) (ci := 3) (v := .ref (gr 4)) (C := RX3) (T := TX3) (N := 23) hx hb hts hiX3 hown hK hP (0) rfl rfl 9 (by decide) hf24 (fun _ h9 => h9) rfl dX3_leave_16 ?_
  refine lv_iload hx hb dX3_leave_19 (lv_at hl 0 rfl) ?_
  refine lv_iload_n hx hb dX3_leave_21 rfl (lv_at hl 3 rfl) ?_
  refine zz_iast hx hb hK hP hD hS 4 0 rfl rfl (show 0 ≤ σ 10 t ∧ σ 10 t < ((61 : Nat) : Int) by omega) (show 61 < 2147483648 by omega) dX3_leave_22 (fun H locs hP hD hS => ?_)
  have hP : va_P D zz_cl (rk_ cy gr kc (up_a (up_a σ 10 (t) (0)) 13 (σ 10 t) (st))) H := hP
  have hD : va_D A (rk_ cy gr kc (up_a (up_a σ 10 (t) (0)) 13 (σ 10 t) (st))) := hD
  refine lv_aload_n hx hb dX3_leave_23 rfl (lv_at hl 1 rfl) ?_
  refine va_get (D := D) (ci := 3) (v := .ref (gr 9)) (C := RX3) (T := TX3) (N := 23) hx hb hts hiX3 hown hK hP (0) rfl rfl 15 (by decide) hf39 (fun _ h9 => h9) rfl dX3_leave_24 ?_
  refine lv_aload_n hx hb dX3_leave_27 rfl (lv_at hl 1 rfl) ?_
  refine va_get (D := D) (ci := 3) (v := .int (zz_i (σ 5 0))) (C := RX3) (T := TX3) (N := 23) hx hb hts hiX3 hown hK hP (0) rfl rfl 14 (by decide) hf98 (fun _ h9 => h9) rfl dX3_leave_28 ?_
  refine lv_iload hx hb dX3_leave_31 (lv_at hl 0 rfl) ?_
  refine zz_iast hx hb hK hP hD hS 9 0 rfl rfl (show 0 ≤ σ 5 0 ∧ σ 5 0 < ((60 : Nat) : Int) by omega) (show 60 < 2147483648 by omega) dX3_leave_33 (fun H locs hP hD hS => ?_)
  have hP : va_P D zz_cl (rk_ cy gr kc (up_a (up_a (up_a σ 10 (t) (0)) 13 (σ 10 t) (st)) 23 (σ 5 0) (σ 10 t))) H := hP
  have hD : va_D A (rk_ cy gr kc (up_a (up_a (up_a σ 10 (t) (0)) 13 (σ 10 t) (st)) 23 (σ 5 0) (σ 10 t))) := hD
  refine lv_aload_n hx hb dX3_leave_34 rfl (lv_at hl 1 rfl) ?_
  refine va_get (D := D) (ci := 3) (v := .ref (gr 10)) (C := RX3) (T := TX3) (N := 23) hx hb hts hiX3 hown hK hP (0) rfl rfl 16 (by decide) hf42 (fun _ h9 => h9) rfl dX3_leave_35 ?_
  refine lv_aload_n hx hb dX3_leave_38 rfl (lv_at hl 1 rfl) ?_
  refine va_get (D := D) (ci := 3) (v := .int (zz_i (σ 5 0))) (C := RX3) (T := TX3) (N := 23) hx hb hts hiX3 hown hK hP (0) rfl rfl 14 (by decide) hf98 (fun _ h9 => h9) rfl dX3_leave_39 ?_
  refine lv_iload_n hx hb dX3_leave_42 rfl (lv_at hl 4 rfl) ?_
  refine zz_iast hx hb hK hP hD hS 10 0 rfl rfl (show 0 ≤ σ 5 0 ∧ σ 5 0 < ((60 : Nat) : Int) by omega) (show 60 < 2147483648 by omega) dX3_leave_43 (fun H locs hP hD hS => ?_)
  have hP : va_P D zz_cl (rk_ cy gr kc (up_a (up_a (up_a (up_a σ 10 (t) (0)) 13 (σ 10 t) (st)) 23 (σ 5 0) (σ 10 t)) 24 (σ 5 0) (lt))) H := hP
  have hD : va_D A (rk_ cy gr kc (up_a (up_a (up_a (up_a σ 10 (t) (0)) 13 (σ 10 t) (st)) 23 (σ 5 0) (σ 10 t)) 24 (σ 5 0) (lt))) := hD
  refine lv_aload_n hx hb dX3_leave_44 rfl (lv_at hl 1 rfl) ?_
  refine va_get (D := D) (ci := 3) (v := .ref (gr 11)) (C := RX3) (T := TX3) (N := 23) hx hb hts hiX3 hown hK hP (0) rfl rfl 17 (by decide) hf45 (fun _ h9 => h9) rfl dX3_leave_45 ?_
  refine lv_aload_n hx hb dX3_leave_48 rfl (lv_at hl 1 rfl) ?_
  refine va_get (D := D) (ci := 3) (v := .int (zz_i (σ 5 0))) (C := RX3) (T := TX3) (N := 23) hx hb hts hiX3 hown hK hP (0) rfl rfl 14 (by decide) hf98 (fun _ h9 => h9) rfl dX3_leave_49 ?_
  refine lv_aload_n hx hb dX3_leave_52 rfl (lv_at hl 1 rfl) ?_
  refine va_get (D := D) (ci := 3) (v := .int (zz_i (σ 2 0))) (C := RX3) (T := TX3) (N := 23) hx hb hts hiX3 hown hK hP (0) rfl rfl 3 (by decide) hf81 (fun _ h9 => h9) rfl dX3_leave_53 ?_
  refine zz_iast hx hb hK hP hD hS 11 0 rfl rfl (show 0 ≤ σ 5 0 ∧ σ 5 0 < ((60 : Nat) : Int) by omega) (show 60 < 2147483648 by omega) dX3_leave_56 (fun H locs hP hD hS => ?_)
  have hP : va_P D zz_cl (rk_ cy gr kc (up_a (up_a (up_a (up_a (up_a σ 10 (t) (0)) 13 (σ 10 t) (st)) 23 (σ 5 0) (σ 10 t)) 24 (σ 5 0) (lt)) 25 (σ 5 0) (σ 2 0))) H := hP
  have hD : va_D A (rk_ cy gr kc (up_a (up_a (up_a (up_a (up_a σ 10 (t) (0)) 13 (σ 10 t) (st)) 23 (σ 5 0) (σ 10 t)) 24 (σ 5 0) (lt)) 25 (σ 5 0) (σ 2 0))) := hD
  refine lv_aload_n hx hb dX3_leave_57 rfl (lv_at hl 1 rfl) ?_
  refine va_get (D := D) (ci := 3) (v := .ref (gr 12)) (C := RX3) (T := TX3) (N := 23) hx hb hts hiX3 hown hK hP (0) rfl rfl 18 (by decide) hf48 (fun _ h9 => h9) rfl dX3_leave_58 ?_
  refine lv_aload_n hx hb dX3_leave_61 rfl (lv_at hl 1 rfl) ?_
  refine va_get (D := D) (ci := 3) (v := .int (zz_i (σ 5 0))) (C := RX3) (T := TX3) (N := 23) hx hb hts hiX3 hown hK hP (0) rfl rfl 14 (by decide) hf98 (fun _ h9 => h9) rfl dX3_leave_62 ?_
  refine lv_aload_n hx hb dX3_leave_65 rfl (lv_at hl 1 rfl) ?_
  refine va_get (D := D) (ci := 3) (v := .ref (gr 6)) (C := RX3) (T := TX3) (N := 23) hx hb hts hiX3 hown hK hP (0) rfl rfl 11 (by decide) hf30 (fun _ h9 => h9) rfl dX3_leave_66 ?_
  refine lv_iload hx hb dX3_leave_69 (lv_at hl 0 rfl) ?_
  refine zz_iald hx hb hK hP 6 0 rfl rfl (show 0 ≤ σ 10 t ∧ σ 10 t < ((61 : Nat) : Int) by omega) (show 61 < 2147483648 by omega) dX3_leave_71 ?_
  refine W.eq (g2 := F0 m 72 ls [.int (zz_i (σ 15 (σ 10 t))), .int (zz_i (σ 5 0)), .ref (gr 12)]) rfl ?_
  refine zz_iast hx hb hK hP hD hS 12 0 rfl rfl (show 0 ≤ σ 5 0 ∧ σ 5 0 < ((60 : Nat) : Int) by omega) (show 60 < 2147483648 by omega) dX3_leave_72 (fun H locs hP hD hS => ?_)
  have hP : va_P D zz_cl (rk_ cy gr kc (up_a (up_a (up_a (up_a (up_a (up_a σ 10 (t) (0)) 13 (σ 10 t) (st)) 23 (σ 5 0) (σ 10 t)) 24 (σ 5 0) (lt)) 25 (σ 5 0) (σ 2 0)) 26 (σ 5 0) (σ 15 (σ 10 t)))) H := hP
  have hD : va_D A (rk_ cy gr kc (up_a (up_a (up_a (up_a (up_a (up_a σ 10 (t) (0)) 13 (σ 10 t) (st)) 23 (σ 5 0) (σ 10 t)) 24 (σ 5 0) (lt)) 25 (σ 5 0) (σ 2 0)) 26 (σ 5 0) (σ 15 (σ 10 t)))) := hD
  refine lv_aload_n hx hb dX3_leave_73 rfl (lv_at hl 1 rfl) ?_
  refine lv_dup hx hb dX3_leave_74 rfl ?_
  refine va_get (D := D) (ci := 3) (v := .int (zz_i (σ 5 0))) (C := RX3) (T := TX3) (N := 23) hx hb hts hiX3 hown hK hP (0) rfl rfl 14 (by decide) hf98 (fun _ h9 => h9) rfl dX3_leave_75 ?_
  refine lv_iconst (v := zz_i (1)) hx hb dX3_leave_78 rfl ?_
  refine zz_iadd hx hb dX3_leave_79 ?_
  refine va_put (D := D) (ci := 3) (v := .int (zz_i ((σ 5 0) + 1))) (ty := .int) (C := RX3) (T := TX3) (N := 23) hx hb hts hiX3 tyX3 tyX3_ok nmX3 hown hK hP hD hS (0) rfl rfl 14 (by decide) hf98 (fun _ h9 => h9) rfl (by decide +kernel) rfl rfl (Nat.le_of_ble_eq_true rfl) dX3_leave_80 (fun H locs hP hD hS => ?_)
  have hP : va_P D zz_cl (rk_ cy gr kc (up_s (up_a (up_a (up_a (up_a (up_a (up_a σ 10 (t) (0)) 13 (σ 10 t) (st)) 23 (σ 5 0) (σ 10 t)) 24 (σ 5 0) (lt)) 25 (σ 5 0) (σ 2 0)) 26 (σ 5 0) (σ 15 (σ 10 t))) 5 ((σ 5 0) + 1))) H := hP
  have hD : va_D A (rk_ cy gr kc (up_s (up_a (up_a (up_a (up_a (up_a (up_a σ 10 (t) (0)) 13 (σ 10 t) (st)) 23 (σ 5 0) (σ 10 t)) 24 (σ 5 0) (lt)) 25 (σ 5 0) (σ 2 0)) 26 (σ 5 0) (σ 15 (σ 10 t))) 5 ((σ 5 0) + 1))) := hD
  have hw9 : rk_ cy gr kc (sp_lv σ (σ 10 t) st lt) = rk_ cy gr kc (up_s (up_a (up_a (up_a (up_a (up_a (up_a σ 10 (t) (0)) 13 (σ 10 t) (st)) 23 (σ 5 0) (σ 10 t)) 24 (σ 5 0) (lt)) 25 (σ 5 0) (σ 2 0)) 26 (σ 5 0) (σ 15 (σ 10 t))) 5 ((σ 5 0) + 1)) := by unfold sp_lv; rw [ho.2.1]; rfl
  subst hAe
  exact W.vret hx hb hr (fun t ht hW => ⟨rfl, ⟨(), trivial, by rw [ht, hw9]; exact hP, va_K.moved hW.alike hK, by rw [hw9]; exact hD⟩, hS.F ht⟩) hS.2.2 dX3_leave_83

set_option maxHeartbeats 4000000 in
set_option maxRecDepth 100000 in
theorem r_leave2 (l : Launch) (D : va_G) (cy gr : Nat → Nat) (kc : Int) (σ : zz_S) (sz : Nat) (hI : iv_ σ) (t st lt r : Int) (ht : 0 ≤ t ∧ t < σ 0 0) (h0 : σ 10 t ≠ 0) : Met l yX3_leave wsX3_leave ({ frames := 0, cells := 0, slots := 0, locals := 0 }) (ct_P D cy [.ref (gr 0), .int (zz_i (t)), .int (zz_i (st)), .int (zz_i (lt))] (rk_ cy gr kc (up_a σ 15 (σ 10 t) (r))) sz) (ct_Q D cy (rk_ cy gr kc (up_a σ 15 (σ 10 t) (r))) sz none (fun _ : Unit => True) (fun _ => rk_ cy gr kc (sp_lv (up_a σ 15 (σ 10 t) r) (σ 10 t) st lt))) 0 0 (va_A (rk_ cy gr kc (up_a σ 15 (σ 10 t) (r))) sz) := by
  refine Met.ofW (cc := cX3_leave) (maxL := 5) (ret := none) (by decide) rfl ?_
  intro p e s m args below meth c s₁ B hml hv
  obtain ⟨rfl, rfl, hP, hK, hD0, hE⟩ := hv
  have hx := B.exec
  have hb := B.bytes
  have hr := B.returns
  have hts := atoms_spec (ws := wsX3_leave) B.pre
  have hown : s.vm.findClass RX3 = some m.cls := findClass_of_methodNamed B.named
  have hlocks := B.notSynchronized
  have hD := hD0.self (sz := s.heap.size)
  obtain ⟨A, hAe⟩ : ∃ A, A = va_A (rk_ cy gr kc (up_a σ 15 (σ 10 t) (r))) s.heap.size := ⟨_, rfl⟩
  rw [← hAe] at hD hE
  have hA : ∀ q : Nat, s.heap.size ≤ q → A q := fun q h => by rw [hAe]; exact Or.inr h
  have hS : va_S A s.heap s.heap [] := va_S.rf
  have hP : va_P D zz_cl (rk_ cy gr kc (up_a σ 15 (σ 10 t) (r))) s.heap := hP
  have hl := lv_entry ([.ref (gr 0), .int (zz_i (t)), .int (zz_i (st)), .int (zz_i (lt))]) (n := 5) (Nat.le_of_ble_eq_true rfl)
  rw [lg_entry_eq]
  generalize (lg_sl ([.ref (gr 0), .int (zz_i (t)), .int (zz_i (st)), .int (zz_i (lt))]) ++ List.replicate (5 - (lg_sl ([.ref (gr 0), .int (zz_i (t)), .int (zz_i (st)), .int (zz_i (lt))])).length) Slot.unset).toArray = ls at hl ⊢
  have hl : lv_has ls 5 [(0, .ref (gr 0)), (1, .int (zz_i (t))), (2, .int (zz_i (st))), (3, .int (zz_i (lt)))] := hl
  obtain ⟨⟨j1, j2, j3, j4, j5, j6, j7, j8, j9, j10⟩, j11, j12, j13, j14, j15, j16, j17, j18, j19, j20, j21, j22, j23, j24⟩ := id hI
  have ho := pv_on hI ht.1 h0
  have hlf := lf_lt hI ho.1 ho.2.2
  have e18 : up_a σ 15 (σ 10 t) r 18 (σ 10 t) = t := ho.2.1
  have hiX3 : ∀ w ∈ wsX30, w ∈ wsX3_leave := by decide +kernel
  have hf13 := hts (.fieldLink RX3 13 "SorterStepsModel" "on" "[I") (by decide +kernel)
  have hf24 := hts (.fieldLink RX3 24 "SorterStepsModel" "state" "[I") (by decide +kernel)
  have hf39 := hts (.fieldLink RX3 39 "SorterStepsModel" "leftItem" "[I") (by decide +kernel)
  have hf98 := hts (.fieldLink RX3 98 "SorterStepsModel" "left" "I") (by decide +kernel)
  have hf42 := hts (.fieldLink RX3 42 "SorterStepsModel" "leftChute" "[I") (by decide +kernel)
  have hf45 := hts (.fieldLink RX3 45 "SorterStepsModel" "leftStep" "[I") (by decide +kernel)
  have hf81 := hts (.fieldLink RX3 81 "SorterStepsModel" "steps" "I") (by decide +kernel)
  have hf48 := hts (.fieldLink RX3 48 "SorterStepsModel" "leftRounds" "[I") (by decide +kernel)
  have hf30 := hts (.fieldLink RX3 30 "SorterStepsModel" "rounds" "[I") (by decide +kernel)
  refine lv_aload_n hx hb dX3_leave_0 rfl (lv_at hl 0 rfl) ?_
  refine va_get (D := D) (ci := 3) (v := .ref (gr 1)) (C := RX3) (T := TX3) (N := 23) hx hb hts hiX3 hown hK hP (0) rfl rfl 5 (by decide) hf13 (fun _ h9 => h9) rfl dX3_leave_1 ?_
  refine lv_iload_n hx hb dX3_leave_4 rfl (lv_at hl 1 rfl) ?_
  refine zz_iald hx hb hK hP 1 0 rfl rfl (show 0 ≤ t ∧ t < ((40 : Nat) : Int) by omega) (show 40 < 2147483648 by omega) dX3_leave_5 ?_
  refine W.eq (g2 := F0 m 6 ls [.int (zz_i (σ 10 t))]) rfl ?_
  refine lv_istore (lv' := [(4, .int (zz_i (σ 10 t))), (0, .ref (gr 0)), (1, .int (zz_i (t))), (2, .int (zz_i (st))), (3, .int (zz_i (lt)))]) hx hb dX3_leave_6 hl (by decide) rfl (fun ls hl => ?_)
  refine lv_aload_n hx hb dX3_leave_8 rfl (lv_at hl 1 rfl) ?_
  refine va_get (D := D) (ci := 3) (v := .ref (gr 1)) (C := RX3) (T := TX3) (N := 23) hx hb hts hiX3 hown hK hP (0) rfl rfl 5 (by decide) hf13 (fun _ h9 => h9) rfl dX3_leave_9 ?_
  refine lv_iload_n hx hb dX3_leave_12 rfl (lv_at hl 2 rfl) ?_
  refine lv_iconst (v := zz_i (0)) hx hb dX3_leave_13 rfl ?_
  refine zz_iast hx hb hK hP hD hS 1 0 rfl rfl (show 0 ≤ t ∧ t < ((40 : Nat) : Int) by omega) (show 40 < 2147483648 by omega) dX3_leave_14 (fun H locs hP hD hS => ?_)
  have hP : va_P D zz_cl (rk_ cy gr kc (up_a (up_a σ 15 (σ 10 t) (r)) 10 (t) (0))) H := hP
  have hD : va_D A (rk_ cy gr kc (up_a (up_a σ 15 (σ 10 t) (r)) 10 (t) (0))) := hD
  refine lv_aload_n hx hb dX3_leave_15 rfl (lv_at hl 1 rfl) ?_
  refine va_get (D := D) (ci := 3) (v := .ref (gr 4)) (C := RX3) (T := TX3) (N := 23) hx hb hts hiX3 hown hK hP (0) rfl rfl 9 (by decide) hf24 (fun _ h9 => h9) rfl dX3_leave_16 ?_
  refine lv_iload hx hb dX3_leave_19 (lv_at hl 0 rfl) ?_
  refine lv_iload_n hx hb dX3_leave_21 rfl (lv_at hl 3 rfl) ?_
  refine zz_iast hx hb hK hP hD hS 4 0 rfl rfl (show 0 ≤ σ 10 t ∧ σ 10 t < ((61 : Nat) : Int) by omega) (show 61 < 2147483648 by omega) dX3_leave_22 (fun H locs hP hD hS => ?_)
  have hP : va_P D zz_cl (rk_ cy gr kc (up_a (up_a (up_a σ 15 (σ 10 t) (r)) 10 (t) (0)) 13 (σ 10 t) (st))) H := hP
  have hD : va_D A (rk_ cy gr kc (up_a (up_a (up_a σ 15 (σ 10 t) (r)) 10 (t) (0)) 13 (σ 10 t) (st))) := hD
  refine lv_aload_n hx hb dX3_leave_23 rfl (lv_at hl 1 rfl) ?_
  refine va_get (D := D) (ci := 3) (v := .ref (gr 9)) (C := RX3) (T := TX3) (N := 23) hx hb hts hiX3 hown hK hP (0) rfl rfl 15 (by decide) hf39 (fun _ h9 => h9) rfl dX3_leave_24 ?_
  refine lv_aload_n hx hb dX3_leave_27 rfl (lv_at hl 1 rfl) ?_
  refine va_get (D := D) (ci := 3) (v := .int (zz_i (σ 5 0))) (C := RX3) (T := TX3) (N := 23) hx hb hts hiX3 hown hK hP (0) rfl rfl 14 (by decide) hf98 (fun _ h9 => h9) rfl dX3_leave_28 ?_
  refine lv_iload hx hb dX3_leave_31 (lv_at hl 0 rfl) ?_
  refine zz_iast hx hb hK hP hD hS 9 0 rfl rfl (show 0 ≤ σ 5 0 ∧ σ 5 0 < ((60 : Nat) : Int) by omega) (show 60 < 2147483648 by omega) dX3_leave_33 (fun H locs hP hD hS => ?_)
  have hP : va_P D zz_cl (rk_ cy gr kc (up_a (up_a (up_a (up_a σ 15 (σ 10 t) (r)) 10 (t) (0)) 13 (σ 10 t) (st)) 23 (σ 5 0) (σ 10 t))) H := hP
  have hD : va_D A (rk_ cy gr kc (up_a (up_a (up_a (up_a σ 15 (σ 10 t) (r)) 10 (t) (0)) 13 (σ 10 t) (st)) 23 (σ 5 0) (σ 10 t))) := hD
  refine lv_aload_n hx hb dX3_leave_34 rfl (lv_at hl 1 rfl) ?_
  refine va_get (D := D) (ci := 3) (v := .ref (gr 10)) (C := RX3) (T := TX3) (N := 23) hx hb hts hiX3 hown hK hP (0) rfl rfl 16 (by decide) hf42 (fun _ h9 => h9) rfl dX3_leave_35 ?_
  refine lv_aload_n hx hb dX3_leave_38 rfl (lv_at hl 1 rfl) ?_
  refine va_get (D := D) (ci := 3) (v := .int (zz_i (σ 5 0))) (C := RX3) (T := TX3) (N := 23) hx hb hts hiX3 hown hK hP (0) rfl rfl 14 (by decide) hf98 (fun _ h9 => h9) rfl dX3_leave_39 ?_
  refine lv_iload_n hx hb dX3_leave_42 rfl (lv_at hl 4 rfl) ?_
  refine zz_iast hx hb hK hP hD hS 10 0 rfl rfl (show 0 ≤ σ 5 0 ∧ σ 5 0 < ((60 : Nat) : Int) by omega) (show 60 < 2147483648 by omega) dX3_leave_43 (fun H locs hP hD hS => ?_)
  have hP : va_P D zz_cl (rk_ cy gr kc (up_a (up_a (up_a (up_a (up_a σ 15 (σ 10 t) (r)) 10 (t) (0)) 13 (σ 10 t) (st)) 23 (σ 5 0) (σ 10 t)) 24 (σ 5 0) (lt))) H := hP
  have hD : va_D A (rk_ cy gr kc (up_a (up_a (up_a (up_a (up_a σ 15 (σ 10 t) (r)) 10 (t) (0)) 13 (σ 10 t) (st)) 23 (σ 5 0) (σ 10 t)) 24 (σ 5 0) (lt))) := hD
  refine lv_aload_n hx hb dX3_leave_44 rfl (lv_at hl 1 rfl) ?_
  refine va_get (D := D) (ci := 3) (v := .ref (gr 11)) (C := RX3) (T := TX3) (N := 23) hx hb hts hiX3 hown hK hP (0) rfl rfl 17 (by decide) hf45 (fun _ h9 => h9) rfl dX3_leave_45 ?_
  refine lv_aload_n hx hb dX3_leave_48 rfl (lv_at hl 1 rfl) ?_
  refine va_get (D := D) (ci := 3) (v := .int (zz_i (σ 5 0))) (C := RX3) (T := TX3) (N := 23) hx hb hts hiX3 hown hK hP (0) rfl rfl 14 (by decide) hf98 (fun _ h9 => h9) rfl dX3_leave_49 ?_
  refine lv_aload_n hx hb dX3_leave_52 rfl (lv_at hl 1 rfl) ?_
  refine va_get (D := D) (ci := 3) (v := .int (zz_i (σ 2 0))) (C := RX3) (T := TX3) (N := 23) hx hb hts hiX3 hown hK hP (0) rfl rfl 3 (by decide) hf81 (fun _ h9 => h9) rfl dX3_leave_53 ?_
  refine zz_iast hx hb hK hP hD hS 11 0 rfl rfl (show 0 ≤ σ 5 0 ∧ σ 5 0 < ((60 : Nat) : Int) by omega) (show 60 < 2147483648 by omega) dX3_leave_56 (fun H locs hP hD hS => ?_)
  have hP : va_P D zz_cl (rk_ cy gr kc (up_a (up_a (up_a (up_a (up_a (up_a σ 15 (σ 10 t) (r)) 10 (t) (0)) 13 (σ 10 t) (st)) 23 (σ 5 0) (σ 10 t)) 24 (σ 5 0) (lt)) 25 (σ 5 0) (σ 2 0))) H := hP
  have hD : va_D A (rk_ cy gr kc (up_a (up_a (up_a (up_a (up_a (up_a σ 15 (σ 10 t) (r)) 10 (t) (0)) 13 (σ 10 t) (st)) 23 (σ 5 0) (σ 10 t)) 24 (σ 5 0) (lt)) 25 (σ 5 0) (σ 2 0))) := hD
  refine lv_aload_n hx hb dX3_leave_57 rfl (lv_at hl 1 rfl) ?_
  refine va_get (D := D) (ci := 3) (v := .ref (gr 12)) (C := RX3) (T := TX3) (N := 23) hx hb hts hiX3 hown hK hP (0) rfl rfl 18 (by decide) hf48 (fun _ h9 => h9) rfl dX3_leave_58 ?_
  refine lv_aload_n hx hb dX3_leave_61 rfl (lv_at hl 1 rfl) ?_
  refine va_get (D := D) (ci := 3) (v := .int (zz_i (σ 5 0))) (C := RX3) (T := TX3) (N := 23) hx hb hts hiX3 hown hK hP (0) rfl rfl 14 (by decide) hf98 (fun _ h9 => h9) rfl dX3_leave_62 ?_
  refine lv_aload_n hx hb dX3_leave_65 rfl (lv_at hl 1 rfl) ?_
  refine va_get (D := D) (ci := 3) (v := .ref (gr 6)) (C := RX3) (T := TX3) (N := 23) hx hb hts hiX3 hown hK hP (0) rfl rfl 11 (by decide) hf30 (fun _ h9 => h9) rfl dX3_leave_66 ?_
  refine lv_iload hx hb dX3_leave_69 (lv_at hl 0 rfl) ?_
  refine zz_iald hx hb hK hP 6 0 rfl rfl (show 0 ≤ σ 10 t ∧ σ 10 t < ((61 : Nat) : Int) by omega) (show 61 < 2147483648 by omega) dX3_leave_71 ?_
  refine W.eq (g2 := F0 m 72 ls [.int (zz_i ((up_a σ 15 (σ 10 t) (r)) 15 (σ 10 t))), .int (zz_i (σ 5 0)), .ref (gr 12)]) rfl ?_
  refine zz_iast hx hb hK hP hD hS 12 0 rfl rfl (show 0 ≤ σ 5 0 ∧ σ 5 0 < ((60 : Nat) : Int) by omega) (show 60 < 2147483648 by omega) dX3_leave_72 (fun H locs hP hD hS => ?_)
  have hP : va_P D zz_cl (rk_ cy gr kc (up_a (up_a (up_a (up_a (up_a (up_a (up_a σ 15 (σ 10 t) (r)) 10 (t) (0)) 13 (σ 10 t) (st)) 23 (σ 5 0) (σ 10 t)) 24 (σ 5 0) (lt)) 25 (σ 5 0) (σ 2 0)) 26 (σ 5 0) ((up_a σ 15 (σ 10 t) (r)) 15 (σ 10 t)))) H := hP
  have hD : va_D A (rk_ cy gr kc (up_a (up_a (up_a (up_a (up_a (up_a (up_a σ 15 (σ 10 t) (r)) 10 (t) (0)) 13 (σ 10 t) (st)) 23 (σ 5 0) (σ 10 t)) 24 (σ 5 0) (lt)) 25 (σ 5 0) (σ 2 0)) 26 (σ 5 0) ((up_a σ 15 (σ 10 t) (r)) 15 (σ 10 t)))) := hD
  refine lv_aload_n hx hb dX3_leave_73 rfl (lv_at hl 1 rfl) ?_
  refine lv_dup hx hb dX3_leave_74 rfl ?_
  refine va_get (D := D) (ci := 3) (v := .int (zz_i (σ 5 0))) (C := RX3) (T := TX3) (N := 23) hx hb hts hiX3 hown hK hP (0) rfl rfl 14 (by decide) hf98 (fun _ h9 => h9) rfl dX3_leave_75 ?_
  refine lv_iconst (v := zz_i (1)) hx hb dX3_leave_78 rfl ?_
  refine zz_iadd hx hb dX3_leave_79 ?_
  refine va_put (D := D) (ci := 3) (v := .int (zz_i ((σ 5 0) + 1))) (ty := .int) (C := RX3) (T := TX3) (N := 23) hx hb hts hiX3 tyX3 tyX3_ok nmX3 hown hK hP hD hS (0) rfl rfl 14 (by decide) hf98 (fun _ h9 => h9) rfl (by decide +kernel) rfl rfl (Nat.le_of_ble_eq_true rfl) dX3_leave_80 (fun H locs hP hD hS => ?_)
  have hP : va_P D zz_cl (rk_ cy gr kc (up_s (up_a (up_a (up_a (up_a (up_a (up_a (up_a σ 15 (σ 10 t) (r)) 10 (t) (0)) 13 (σ 10 t) (st)) 23 (σ 5 0) (σ 10 t)) 24 (σ 5 0) (lt)) 25 (σ 5 0) (σ 2 0)) 26 (σ 5 0) ((up_a σ 15 (σ 10 t) (r)) 15 (σ 10 t))) 5 ((σ 5 0) + 1))) H := hP
  have hD : va_D A (rk_ cy gr kc (up_s (up_a (up_a (up_a (up_a (up_a (up_a (up_a σ 15 (σ 10 t) (r)) 10 (t) (0)) 13 (σ 10 t) (st)) 23 (σ 5 0) (σ 10 t)) 24 (σ 5 0) (lt)) 25 (σ 5 0) (σ 2 0)) 26 (σ 5 0) ((up_a σ 15 (σ 10 t) (r)) 15 (σ 10 t))) 5 ((σ 5 0) + 1))) := hD
  have hw9 : rk_ cy gr kc (sp_lv (up_a σ 15 (σ 10 t) r) (σ 10 t) st lt) = rk_ cy gr kc (up_s (up_a (up_a (up_a (up_a (up_a (up_a (up_a σ 15 (σ 10 t) (r)) 10 (t) (0)) 13 (σ 10 t) (st)) 23 (σ 5 0) (σ 10 t)) 24 (σ 5 0) (lt)) 25 (σ 5 0) (σ 2 0)) 26 (σ 5 0) ((up_a σ 15 (σ 10 t) (r)) 15 (σ 10 t))) 5 ((σ 5 0) + 1)) := by unfold sp_lv; rw [e18]; rfl
  subst hAe
  exact W.vret hx hb hr (fun t ht hW => ⟨rfl, ⟨(), trivial, by rw [ht, hw9]; exact hP, va_K.moved hW.alike hK, by rw [hw9]; exact hD⟩, hS.F ht⟩) hS.2.2 dX3_leave_83

set_option maxHeartbeats 4000000 in
set_option maxRecDepth 100000 in
theorem r_atChute (l : Launch) (D : va_G) (cy gr : Nat → Nat) (kc : Int) (σ : zz_S) (sz : Nat) (hI : iv_ σ) (x : Int) (q_x : 1 ≤ x ∧ x ≤ σ 28 0) : Met l yX3_atChute wsX3_atChute ({ frames := 1, cells := 0, slots := 0, locals := 24 }) (ct_P D cy [.ref (gr 0), .int (zz_i (x))] (rk_ cy gr kc σ) sz) (ct_Q D cy (rk_ cy gr kc σ) sz none (fun _ : Unit => True) (fun _ => rk_ cy gr kc (sp_pc σ x))) 0 0 (va_A (rk_ cy gr kc σ) sz) := by
  refine Met.ofW (cc := cX3_atChute) (maxL := 4) (ret := none) (by decide) rfl ?_
  intro p e s m args below meth c s₁ B hml hv
  obtain ⟨rfl, rfl, hP, hK, hD0, hE⟩ := hv
  have hx := B.exec
  have hb := B.bytes
  have hr := B.returns
  have hts := atoms_spec (ws := wsX3_atChute) B.pre
  have hown : s.vm.findClass RX3 = some m.cls := findClass_of_methodNamed B.named
  have hlocks := B.notSynchronized
  have hD := hD0.self (sz := s.heap.size)
  obtain ⟨A, hAe⟩ : ∃ A, A = va_A (rk_ cy gr kc σ) s.heap.size := ⟨_, rfl⟩
  rw [← hAe] at hD hE
  have hA : ∀ q : Nat, s.heap.size ≤ q → A q := fun q h => by rw [hAe]; exact Or.inr h
  have hS : va_S A s.heap s.heap [] := va_S.rf
  have hP : va_P D zz_cl (rk_ cy gr kc σ) s.heap := hP
  have hl := lv_entry ([.ref (gr 0), .int (zz_i (x))]) (n := 4) (Nat.le_of_ble_eq_true rfl)
  rw [lg_entry_eq]
  generalize (lg_sl ([.ref (gr 0), .int (zz_i (x))]) ++ List.replicate (4 - (lg_sl ([.ref (gr 0), .int (zz_i (x))])).length) Slot.unset).toArray = ls at hl ⊢
  have hl : lv_has ls 4 [(0, .ref (gr 0)), (1, .int (zz_i (x)))] := hl
  obtain ⟨⟨j1, j2, j3, j4, j5, j6, j7, j8, j9, j10⟩, j11, j12, j13, j14, j15, j16, j17, j18, j19, j20, j21, j22, j23, j24⟩ := id hI
  have hiX3 : ∀ w ∈ wsX30, w ∈ wsX3_atChute := by decide +kernel
  have hf13 := hts (.fieldLink RX3 13 "SorterStepsModel" "on" "[I") (by decide +kernel)
  have hf27 := hts (.fieldLink RX3 27 "SorterStepsModel" "way" "[I") (by decide +kernel)
  have hf17 := hts (.fieldLink RX3 17 "SorterStepsModel" "full" "[Z") (by decide +kernel)
  have hf30 := hts (.fieldLink RX3 30 "SorterStepsModel" "rounds" "[I") (by decide +kernel)
  have hf60 := hts (.fieldLink RX3 60 "SorterStepsModel" "most" "I") (by decide +kernel)
  refine lv_aload_n hx hb dX3_atChute_0 rfl (lv_at hl 0 rfl) ?_
  refine lv_iconst (v := zz_i (2)) hx hb dX3_atChute_1 rfl ?_
  refine lv_iload_n hx hb dX3_atChute_2 rfl (lv_at hl 1 rfl) ?_
  refine zz_imul hx hb dX3_atChute_3 ?_
  refine zc_v (As := [.int (zz_i (2 * x))]) (rest := []) (S := Unit) (pc := 4) ⟨hx, hb, hml, hown, hts⟩ (r_trayAt l D cy gr kc σ _ hI.1 j17 (2 * x) (show 0 ≤ 2 * x ∧ 2 * x < σ 0 0 by omega)) (cwV 1 hts gX3_atChute_X3_trayAt rfl rfl rfl (by decide +kernel) ⟨Nat.le_of_ble_eq_true rfl, Nat.le_of_ble_eq_true rfl⟩) hK hP hD hS hA hE (va_recv hK hP (ci := 3) (q0 := 0) rfl rfl) rfl hl.1 rfl (Nat.le_of_ble_eq_true rfl) dX3_atChute_4 ⟨Nat.le_of_ble_eq_true rfl, Nat.le_of_ble_eq_true rfl⟩ (fun _ H locs k1 hP hD hS => ?_)
  refine W.eq (g2 := F0 m 7 ls [.int (zz_i (sp_tr σ (2 * x)))]) rfl ?_
  have b1 := tr_in (σ := σ) hI.1 (x := 2 * x) (show 0 ≤ 2 * x ∧ 2 * x < σ 0 0 by omega)
  refine W.eq (g2 := F0 m 7 ls [.int (zz_i (sp_tr σ (x * 2)))]) (by rw [Int.mul_comm]) ?_
  refine lv_istore_n (lv' := [(2, .int (zz_i (sp_tr σ (x * 2)))), (0, .ref (gr 0)), (1, .int (zz_i (x)))]) hx hb dX3_atChute_7 rfl hl (by decide) rfl (fun ls hl => ?_)
  have b_t := tr_in hI.1 (x := x * 2) (by omega)
  have h10 := j11 (sp_tr σ (x * 2))
  refine lv_aload_n hx hb dX3_atChute_8 rfl (lv_at hl 1 rfl) ?_
  refine va_get (D := D) (ci := 3) (v := .ref (gr 1)) (C := RX3) (T := TX3) (N := 23) hx hb hts hiX3 hown hK hP (0) rfl rfl 5 (by decide) hf13 (fun _ h9 => h9) rfl dX3_atChute_9 ?_
  refine lv_iload_n hx hb dX3_atChute_12 rfl (lv_at hl 0 rfl) ?_
  refine zz_iald hx hb hK hP 1 0 rfl rfl (show 0 ≤ sp_tr σ (x * 2) ∧ sp_tr σ (x * 2) < ((40 : Nat) : Int) by omega) (show 40 < 2147483648 by omega) dX3_atChute_13 ?_
  refine lv_istore_n (lv' := [(3, .int (zz_i (σ 10 (sp_tr σ (x * 2))))), (2, .int (zz_i (sp_tr σ (x * 2)))), (0, .ref (gr 0)), (1, .int (zz_i (x)))]) hx hb dX3_atChute_14 rfl hl (by decide) rfl (fun ls hl => ?_)
  refine lv_iload_n hx hb dX3_atChute_15 rfl (lv_at hl 0 rfl) ?_
  refine zz_if_eq (tgt := 29) hx hb dX3_atChute_16 (by decide) (by omega) (fun c2 => ?_) (fun c2 => ?_)
  · have hw9 : rk_ cy gr kc (sp_pc σ x) = rk_ cy gr kc σ := by unfold sp_pc; unfold sp_pd; (repeat (first | rw [if_pos (by omega)] | rw [if_neg (by omega)])) <;> first | rfl | omega
    subst hAe
    exact W.vret hx hb hr (fun t ht hW => ⟨rfl, ⟨(), trivial, by rw [ht, hw9]; exact hP, va_K.moved hW.alike hK, by rw [hw9]; exact hD⟩, hS.F ht⟩) hS.2.2 dX3_atChute_29
  · have ho := pv_on hI b_t.1 (t := sp_tr σ (x * 2)) (by omega)
    have hit := j13 _ ho.1.1 ho.1.2
    refine lv_aload_n hx hb dX3_atChute_19 rfl (lv_at hl 2 rfl) ?_
    refine va_get (D := D) (ci := 3) (v := .ref (gr 5)) (C := RX3) (T := TX3) (N := 23) hx hb hts hiX3 hown hK hP (0) rfl rfl 10 (by decide) hf27 (fun _ h9 => h9) rfl dX3_atChute_20 ?_
    refine lv_iload_n hx hb dX3_atChute_23 rfl (lv_at hl 0 rfl) ?_
    refine zz_iald hx hb hK hP 5 0 rfl rfl (show 0 ≤ σ 10 (sp_tr σ (x * 2)) ∧ σ 10 (sp_tr σ (x * 2)) < ((61 : Nat) : Int) by omega) (show 61 < 2147483648 by omega) dX3_atChute_24 ?_
    refine lv_iload_n hx hb dX3_atChute_25 rfl (lv_at hl 3 rfl) ?_
    refine zz_icmp_eq (tgt := 30) hx hb dX3_atChute_26 (by decide) (by omega) (by omega) (fun c3 => ?_) (fun c3 => ?_)
    · refine lv_aload_n hx hb dX3_atChute_30 rfl (lv_at hl 2 rfl) ?_
      have h11 := j12 x
      refine va_get (D := D) (ci := 3) (v := .ref (gr 2)) (C := RX3) (T := TX3) (N := 23) hx hb hts hiX3 hown hK hP (0) rfl rfl 6 (by decide) hf17 (fun _ h9 => h9) rfl dX3_atChute_31 ?_
      refine lv_iload_n hx hb dX3_atChute_34 rfl (lv_at hl 3 rfl) ?_
      refine zz_zald hx hb hK hP 2 1 rfl rfl (show 0 ≤ x ∧ x < ((7 : Nat) : Int) by omega) (show 7 < 2147483648 by omega) dX3_atChute_35 ?_
      refine zz_if_ne (tgt := 47) hx hb dX3_atChute_36 (by decide) (by omega) (fun c4 => ?_) (fun c4 => ?_)
      · refine lv_aload_n hx hb dX3_atChute_47 rfl (lv_at hl 2 rfl) ?_
        refine va_get (D := D) (ci := 3) (v := .ref (gr 6)) (C := RX3) (T := TX3) (N := 23) hx hb hts hiX3 hown hK hP (0) rfl rfl 11 (by decide) hf30 (fun _ h9 => h9) rfl dX3_atChute_48 ?_
        refine lv_iload_n hx hb dX3_atChute_51 rfl (lv_at hl 0 rfl) ?_
        refine lv_dup2_11 hx hb dX3_atChute_52 rfl rfl ?_
        refine zz_iald hx hb hK hP 6 0 rfl rfl (show 0 ≤ σ 10 (sp_tr σ (x * 2)) ∧ σ 10 (sp_tr σ (x * 2)) < ((61 : Nat) : Int) by omega) (show 61 < 2147483648 by omega) dX3_atChute_53 ?_
        refine lv_iconst (v := zz_i (1)) hx hb dX3_atChute_54 rfl ?_
        refine zz_iadd hx hb dX3_atChute_55 ?_
        refine zz_iast hx hb hK hP hD hS 6 0 rfl rfl (show 0 ≤ σ 10 (sp_tr σ (x * 2)) ∧ σ 10 (sp_tr σ (x * 2)) < ((61 : Nat) : Int) by omega) (show 61 < 2147483648 by omega) dX3_atChute_56 (fun H locs hP hD hS => ?_)
        have hP : va_P D zz_cl (rk_ cy gr kc (up_a σ 15 (σ 10 (sp_tr σ (x * 2))) ((σ 15 (σ 10 (sp_tr σ (x * 2)))) + 1))) H := hP
        have hD : va_D A (rk_ cy gr kc (up_a σ 15 (σ 10 (sp_tr σ (x * 2))) ((σ 15 (σ 10 (sp_tr σ (x * 2)))) + 1))) := hD
        refine lv_aload_n hx hb dX3_atChute_57 rfl (lv_at hl 2 rfl) ?_
        refine va_get (D := D) (ci := 3) (v := .ref (gr 6)) (C := RX3) (T := TX3) (N := 23) hx hb hts hiX3 hown hK hP (0) rfl rfl 11 (by decide) hf30 (fun _ h9 => h9) rfl dX3_atChute_58 ?_
        refine lv_iload_n hx hb dX3_atChute_61 rfl (lv_at hl 0 rfl) ?_
        have e15 : (up_a σ 15 (σ 10 (sp_tr σ (x * 2))) ((σ 15 (σ 10 (sp_tr σ (x * 2)))) + 1)) 15 (σ 10 (sp_tr σ (x * 2))) = σ 15 (σ 10 (sp_tr σ (x * 2))) + 1 := up_i_s _ _ _
        refine zz_iald hx hb hK hP 6 0 rfl rfl (show 0 ≤ σ 10 (sp_tr σ (x * 2)) ∧ σ 10 (sp_tr σ (x * 2)) < ((61 : Nat) : Int) by omega) (show 61 < 2147483648 by omega) dX3_atChute_62 ?_
        refine W.eq (g2 := F0 m 63 ls [.int (zz_i ((up_a σ 15 (σ 10 (sp_tr σ (x * 2))) ((σ 15 (σ 10 (sp_tr σ (x * 2)))) + 1)) 15 (σ 10 (sp_tr σ (x * 2)))))]) rfl ?_
        refine lv_aload_n hx hb dX3_atChute_63 rfl (lv_at hl 2 rfl) ?_
        refine va_get (D := D) (ci := 3) (v := .int (zz_i (σ 1 0))) (C := RX3) (T := TX3) (N := 23) hx hb hts hiX3 hown hK hP (0) rfl rfl 2 (by decide) hf60 (fun _ h9 => h9) rfl dX3_atChute_64 ?_
        refine zz_icmp_le (tgt := 77) hx hb dX3_atChute_67 (by decide) (by omega) (by omega) (fun c5 => ?_) (fun c5 => ?_)
        · have hw9 : rk_ cy gr kc (sp_pc σ x) = rk_ cy gr kc (up_a σ 15 (σ 10 (sp_tr σ (x * 2))) ((σ 15 (σ 10 (sp_tr σ (x * 2)))) + 1)) := by unfold sp_pc; unfold sp_pd; (repeat (first | rw [if_pos (by omega)] | rw [if_neg (by omega)])) <;> first | rfl | omega
          subst hAe
          exact W.vret hx hb hr (fun t ht hW => ⟨rfl, ⟨(), trivial, by rw [ht, hw9]; exact hP, va_K.moved hW.alike hK, by rw [hw9]; exact hD⟩, hS.F ht⟩) hS.2.2 dX3_atChute_77
        · refine lv_aload_n hx hb dX3_atChute_70 rfl (lv_at hl 2 rfl) ?_
          refine lv_iload_n hx hb dX3_atChute_71 rfl (lv_at hl 1 rfl) ?_
          refine lv_iconst (v := zz_i (4)) hx hb dX3_atChute_72 rfl ?_
          refine lv_iconst (v := zz_i (-1)) hx hb dX3_atChute_73 rfl ?_
          refine zc_v (As := [.int (zz_i (sp_tr σ (x * 2))), .int (zz_i (4)), .int (zz_i (-1))]) (rest := []) (S := Unit) (pc := 74) ⟨hx, hb, hml, hown, hts⟩ (r_leave2 l D cy gr kc σ _ hI (sp_tr σ (x * 2)) (4) (-1) ((σ 15 (σ 10 (sp_tr σ (x * 2)))) + 1) (by omega) (by omega)) (cwV 3 hts gX3_atChute_X3_leave rfl rfl rfl (by decide +kernel) ⟨Nat.le_of_ble_eq_true rfl, Nat.le_of_ble_eq_true rfl⟩) hK hP hD hS hA hE (va_recv hK hP (ci := 3) (q0 := 0) rfl rfl) rfl hl.1 rfl (Nat.le_of_ble_eq_true rfl) dX3_atChute_74 ⟨Nat.le_of_ble_eq_true rfl, Nat.le_of_ble_eq_true rfl⟩ (fun _ H locs k6 hP hD hS => ?_)
          refine W.eq (g2 := F0 m 77 ls []) rfl ?_
          have hw9 : rk_ cy gr kc (sp_pc σ x) = rk_ cy gr kc (sp_lv (up_a σ 15 (σ 10 (sp_tr σ (x * 2))) ((σ 15 (σ 10 (sp_tr σ (x * 2)))) + 1)) (σ 10 (sp_tr σ (x * 2))) (4) (-1)) := by unfold sp_pc; unfold sp_pd; (repeat (first | rw [if_pos (by omega)] | rw [if_neg (by omega)])) <;> first | rfl | omega
          subst hAe
          exact W.vret hx hb hr (fun t ht hW => ⟨rfl, ⟨(), trivial, by rw [ht, hw9]; exact hP, va_K.moved hW.alike hK, by rw [hw9]; exact hD⟩, hS.F ht⟩) hS.2.2 dX3_atChute_77
      · refine lv_aload_n hx hb dX3_atChute_39 rfl (lv_at hl 2 rfl) ?_
        refine lv_iload_n hx hb dX3_atChute_40 rfl (lv_at hl 1 rfl) ?_
        refine lv_iconst (v := zz_i (2)) hx hb dX3_atChute_41 rfl ?_
        refine lv_iload_n hx hb dX3_atChute_42 rfl (lv_at hl 3 rfl) ?_
        refine zc_v (As := [.int (zz_i (sp_tr σ (x * 2))), .int (zz_i (2)), .int (zz_i (x))]) (rest := []) (S := Unit) (pc := 43) ⟨hx, hb, hml, hown, hts⟩ (r_leave l D cy gr kc σ _ _ hI (sp_tr σ (x * 2)) (2) (x) (by omega) (by omega)) (cwV 3 hts gX3_atChute_X3_leave rfl rfl rfl (by decide +kernel) ⟨Nat.le_of_ble_eq_true rfl, Nat.le_of_ble_eq_true rfl⟩) hK hP hD hS hA hE (va_recv hK hP (ci := 3) (q0 := 0) rfl rfl) rfl hl.1 rfl (Nat.le_of_ble_eq_true rfl) dX3_atChute_43 ⟨Nat.le_of_ble_eq_true rfl, Nat.le_of_ble_eq_true rfl⟩ (fun _ H locs k7 hP hD hS => ?_)
        refine W.eq (g2 := F0 m 46 ls []) rfl ?_
        have hw9 : rk_ cy gr kc (sp_pc σ x) = rk_ cy gr kc (sp_lv σ (σ 10 (sp_tr σ (x * 2))) (2) (x)) := by unfold sp_pc; unfold sp_pd; (repeat (first | rw [if_pos (by omega)] | rw [if_neg (by omega)])) <;> first | rfl | omega
        subst hAe
        exact W.vret hx hb hr (fun t ht hW => ⟨rfl, ⟨(), trivial, by rw [ht, hw9]; exact hP, va_K.moved hW.alike hK, by rw [hw9]; exact hD⟩, hS.F ht⟩) hS.2.2 dX3_atChute_46
    · have hw9 : rk_ cy gr kc (sp_pc σ x) = rk_ cy gr kc σ := by unfold sp_pc; unfold sp_pd; (repeat (first | rw [if_pos (by omega)] | rw [if_neg (by omega)])) <;> first | rfl | omega
      subst hAe
      exact W.vret hx hb hr (fun t ht hW => ⟨rfl, ⟨(), trivial, by rw [ht, hw9]; exact hP, va_K.moved hW.alike hK, by rw [hw9]; exact hD⟩, hS.F ht⟩) hS.2.2 dX3_atChute_29

set_option maxHeartbeats 4000000 in
set_option maxRecDepth 100000 in
theorem r_atReader (l : Launch) (D : va_G) (cy gr : Nat → Nat) (kc : Int) (σ : zz_S) (sz : Nat) (hI : iv_ σ) : Met l yX3_atReader wsX3_atReader ({ frames := 1, cells := 0, slots := 0, locals := 24 }) (ct_P D cy [.ref (gr 0)] (rk_ cy gr kc σ) sz) (ct_Q D cy (rk_ cy gr kc σ) sz none (fun _ : Unit => True) (fun _ => rk_ cy gr kc (sp_ra σ))) 0 0 (va_A (rk_ cy gr kc σ) sz) := by
  refine Met.ofW (cc := cX3_atReader) (maxL := 3) (ret := none) (by decide) rfl ?_
  intro p e s m args below meth c s₁ B hml hv
  obtain ⟨rfl, rfl, hP, hK, hD0, hE⟩ := hv
  have hx := B.exec
  have hb := B.bytes
  have hr := B.returns
  have hts := atoms_spec (ws := wsX3_atReader) B.pre
  have hown : s.vm.findClass RX3 = some m.cls := findClass_of_methodNamed B.named
  have hlocks := B.notSynchronized
  have hD := hD0.self (sz := s.heap.size)
  obtain ⟨A, hAe⟩ : ∃ A, A = va_A (rk_ cy gr kc σ) s.heap.size := ⟨_, rfl⟩
  rw [← hAe] at hD hE
  have hA : ∀ q : Nat, s.heap.size ≤ q → A q := fun q h => by rw [hAe]; exact Or.inr h
  have hS : va_S A s.heap s.heap [] := va_S.rf
  have hP : va_P D zz_cl (rk_ cy gr kc σ) s.heap := hP
  have hl := lv_entry ([.ref (gr 0)]) (n := 3) (Nat.le_of_ble_eq_true rfl)
  rw [lg_entry_eq]
  generalize (lg_sl ([.ref (gr 0)]) ++ List.replicate (3 - (lg_sl ([.ref (gr 0)])).length) Slot.unset).toArray = ls at hl ⊢
  have hl : lv_has ls 3 [(0, .ref (gr 0))] := hl
  obtain ⟨⟨j1, j2, j3, j4, j5, j6, j7, j8, j9, j10⟩, j11, j12, j13, j14, j15, j16, j17, j18, j19, j20, j21, j22, j23, j24⟩ := id hI
  have hiX3 : ∀ w ∈ wsX30, w ∈ wsX3_atReader := by decide +kernel
  have hf13 := hts (.fieldLink RX3 13 "SorterStepsModel" "on" "[I") (by decide +kernel)
  have hf27 := hts (.fieldLink RX3 27 "SorterStepsModel" "way" "[I") (by decide +kernel)
  have hf33 := hts (.fieldLink RX3 33 "SorterStepsModel" "retries" "[I") (by decide +kernel)
  have hf36 := hts (.fieldLink RX3 36 "SorterStepsModel" "later" "[I") (by decide +kernel)
  refine lv_aload_n hx hb dX3_atReader_0 rfl (lv_at hl 0 rfl) ?_
  refine lv_iconst (v := zz_i (0)) hx hb dX3_atReader_1 rfl ?_
  refine zc_v (As := [.int (zz_i (0))]) (rest := []) (S := Unit) (pc := 2) ⟨hx, hb, hml, hown, hts⟩ (r_trayAt l D cy gr kc σ _ hI.1 j17 (0) (show 0 ≤ 0 ∧ 0 < σ 0 0 by omega)) (cwV 1 hts gX3_atReader_X3_trayAt rfl rfl rfl (by decide +kernel) ⟨Nat.le_of_ble_eq_true rfl, Nat.le_of_ble_eq_true rfl⟩) hK hP hD hS hA hE (va_recv hK hP (ci := 3) (q0 := 0) rfl rfl) rfl hl.1 rfl (Nat.le_of_ble_eq_true rfl) dX3_atReader_2 ⟨Nat.le_of_ble_eq_true rfl, Nat.le_of_ble_eq_true rfl⟩ (fun _ H locs k1 hP hD hS => ?_)
  refine W.eq (g2 := F0 m 5 ls [.int (zz_i (sp_tr σ (0)))]) rfl ?_
  have b1 := tr_in (σ := σ) hI.1 (x := 0) (show 0 ≤ 0 ∧ 0 < σ 0 0 by omega)
  refine lv_istore_n (lv' := [(1, .int (zz_i (sp_tr σ (0)))), (0, .ref (gr 0))]) hx hb dX3_atReader_5 rfl hl (by decide) rfl (fun ls hl => ?_)
  have b_t := tr_in hI.1 (x := 0) (by omega)
  have h10 := j11 (sp_tr σ 0)
  refine lv_aload_n hx hb dX3_atReader_6 rfl (lv_at hl 1 rfl) ?_
  refine va_get (D := D) (ci := 3) (v := .ref (gr 1)) (C := RX3) (T := TX3) (N := 23) hx hb hts hiX3 hown hK hP (0) rfl rfl 5 (by decide) hf13 (fun _ h9 => h9) rfl dX3_atReader_7 ?_
  refine lv_iload_n hx hb dX3_atReader_10 rfl (lv_at hl 0 rfl) ?_
  refine zz_iald hx hb hK hP 1 0 rfl rfl (show 0 ≤ sp_tr σ (0) ∧ sp_tr σ (0) < ((40 : Nat) : Int) by omega) (show 40 < 2147483648 by omega) dX3_atReader_11 ?_
  refine lv_istore_n (lv' := [(2, .int (zz_i (σ 10 (sp_tr σ (0))))), (1, .int (zz_i (sp_tr σ (0)))), (0, .ref (gr 0))]) hx hb dX3_atReader_12 rfl hl (by decide) rfl (fun ls hl => ?_)
  refine lv_iload_n hx hb dX3_atReader_13 rfl (lv_at hl 0 rfl) ?_
  refine zz_if_eq (tgt := 26) hx hb dX3_atReader_14 (by decide) (by omega) (fun c2 => ?_) (fun c2 => ?_)
  · have hw9 : rk_ cy gr kc (sp_ra σ) = rk_ cy gr kc σ := by unfold sp_ra; unfold sp_rd; (repeat (first | rw [if_pos (by omega)] | rw [if_neg (by omega)])) <;> first | rfl | omega
    subst hAe
    exact W.vret hx hb hr (fun t ht hW => ⟨rfl, ⟨(), trivial, by rw [ht, hw9]; exact hP, va_K.moved hW.alike hK, by rw [hw9]; exact hD⟩, hS.F ht⟩) hS.2.2 dX3_atReader_26
  · have ho := pv_on hI b_t.1 (t := sp_tr σ 0) (by omega)
    have hit := j13 _ ho.1.1 ho.1.2
    refine lv_aload_n hx hb dX3_atReader_17 rfl (lv_at hl 2 rfl) ?_
    refine va_get (D := D) (ci := 3) (v := .ref (gr 5)) (C := RX3) (T := TX3) (N := 23) hx hb hts hiX3 hown hK hP (0) rfl rfl 10 (by decide) hf27 (fun _ h9 => h9) rfl dX3_atReader_18 ?_
    refine lv_iload_n hx hb dX3_atReader_21 rfl (lv_at hl 0 rfl) ?_
    refine zz_iald hx hb hK hP 5 0 rfl rfl (show 0 ≤ σ 10 (sp_tr σ (0)) ∧ σ 10 (sp_tr σ (0)) < ((61 : Nat) : Int) by omega) (show 61 < 2147483648 by omega) dX3_atReader_22 ?_
    refine zz_if_eq (tgt := 27) hx hb dX3_atReader_23 (by decide) (by omega) (fun c3 => ?_) (fun c3 => ?_)
    · refine lv_aload_n hx hb dX3_atReader_27 rfl (lv_at hl 2 rfl) ?_
      refine va_get (D := D) (ci := 3) (v := .ref (gr 7)) (C := RX3) (T := TX3) (N := 23) hx hb hts hiX3 hown hK hP (0) rfl rfl 12 (by decide) hf33 (fun _ h9 => h9) rfl dX3_atReader_28 ?_
      refine lv_iload_n hx hb dX3_atReader_31 rfl (lv_at hl 0 rfl) ?_
      refine zz_iald hx hb hK hP 7 0 rfl rfl (show 0 ≤ σ 10 (sp_tr σ (0)) ∧ σ 10 (sp_tr σ (0)) < ((61 : Nat) : Int) by omega) (show 61 < 2147483648 by omega) dX3_atReader_32 ?_
      refine zz_if_ne (tgt := 44) hx hb dX3_atReader_33 (by decide) (by omega) (fun c4 => ?_) (fun c4 => ?_)
      · refine lv_aload_n hx hb dX3_atReader_44 rfl (lv_at hl 2 rfl) ?_
        refine va_get (D := D) (ci := 3) (v := .ref (gr 7)) (C := RX3) (T := TX3) (N := 23) hx hb hts hiX3 hown hK hP (0) rfl rfl 12 (by decide) hf33 (fun _ h9 => h9) rfl dX3_atReader_45 ?_
        refine lv_iload_n hx hb dX3_atReader_48 rfl (lv_at hl 0 rfl) ?_
        refine lv_dup2_11 hx hb dX3_atReader_49 rfl rfl ?_
        refine zz_iald hx hb hK hP 7 0 rfl rfl (show 0 ≤ σ 10 (sp_tr σ (0)) ∧ σ 10 (sp_tr σ (0)) < ((61 : Nat) : Int) by omega) (show 61 < 2147483648 by omega) dX3_atReader_50 ?_
        refine lv_iconst (v := zz_i (1)) hx hb dX3_atReader_51 rfl ?_
        refine zz_isub hx hb dX3_atReader_52 ?_
        refine zz_iast hx hb hK hP hD hS 7 0 rfl rfl (show 0 ≤ σ 10 (sp_tr σ (0)) ∧ σ 10 (sp_tr σ (0)) < ((61 : Nat) : Int) by omega) (show 61 < 2147483648 by omega) dX3_atReader_53 (fun H locs hP hD hS => ?_)
        have hP : va_P D zz_cl (rk_ cy gr kc (up_a σ 16 (σ 10 (sp_tr σ (0))) ((σ 16 (σ 10 (sp_tr σ (0)))) - 1))) H := hP
        have hD : va_D A (rk_ cy gr kc (up_a σ 16 (σ 10 (sp_tr σ (0))) ((σ 16 (σ 10 (sp_tr σ (0)))) - 1))) := hD
        refine lv_aload_n hx hb dX3_atReader_54 rfl (lv_at hl 2 rfl) ?_
        refine va_get (D := D) (ci := 3) (v := .ref (gr 7)) (C := RX3) (T := TX3) (N := 23) hx hb hts hiX3 hown hK hP (0) rfl rfl 12 (by decide) hf33 (fun _ h9 => h9) rfl dX3_atReader_55 ?_
        refine lv_iload_n hx hb dX3_atReader_58 rfl (lv_at hl 0 rfl) ?_
        have e16 : (up_a σ 16 (σ 10 (sp_tr σ (0))) ((σ 16 (σ 10 (sp_tr σ (0)))) - 1)) 16 (σ 10 (sp_tr σ 0)) = σ 16 (σ 10 (sp_tr σ 0)) - 1 := up_i_s _ _ _
        refine zz_iald hx hb hK hP 7 0 rfl rfl (show 0 ≤ σ 10 (sp_tr σ (0)) ∧ σ 10 (sp_tr σ (0)) < ((61 : Nat) : Int) by omega) (show 61 < 2147483648 by omega) dX3_atReader_59 ?_
        refine W.eq (g2 := F0 m 60 ls [.int (zz_i ((up_a σ 16 (σ 10 (sp_tr σ (0))) ((σ 16 (σ 10 (sp_tr σ (0)))) - 1)) 16 (σ 10 (sp_tr σ (0)))))]) rfl ?_
        refine zz_if_ne (tgt := 75) hx hb dX3_atReader_60 (by decide) (by omega) (fun c5 => ?_) (fun c5 => ?_)
        · have hw9 : rk_ cy gr kc (sp_ra σ) = rk_ cy gr kc (up_a σ 16 (σ 10 (sp_tr σ (0))) ((σ 16 (σ 10 (sp_tr σ (0)))) - 1)) := by unfold sp_ra; unfold sp_rd; (repeat (first | rw [if_pos (by omega)] | rw [if_neg (by omega)])) <;> first | rfl | omega
          subst hAe
          exact W.vret hx hb hr (fun t ht hW => ⟨rfl, ⟨(), trivial, by rw [ht, hw9]; exact hP, va_K.moved hW.alike hK, by rw [hw9]; exact hD⟩, hS.F ht⟩) hS.2.2 dX3_atReader_75
        · refine lv_aload_n hx hb dX3_atReader_63 rfl (lv_at hl 2 rfl) ?_
          refine va_get (D := D) (ci := 3) (v := .ref (gr 5)) (C := RX3) (T := TX3) (N := 23) hx hb hts hiX3 hown hK hP (0) rfl rfl 10 (by decide) hf27 (fun _ h9 => h9) rfl dX3_atReader_64 ?_
          refine lv_iload_n hx hb dX3_atReader_67 rfl (lv_at hl 0 rfl) ?_
          refine lv_aload_n hx hb dX3_atReader_68 rfl (lv_at hl 2 rfl) ?_
          refine va_get (D := D) (ci := 3) (v := .ref (gr 8)) (C := RX3) (T := TX3) (N := 23) hx hb hts hiX3 hown hK hP (0) rfl rfl 13 (by decide) hf36 (fun _ h9 => h9) rfl dX3_atReader_69 ?_
          refine lv_iload_n hx hb dX3_atReader_72 rfl (lv_at hl 0 rfl) ?_
          refine zz_iald hx hb hK hP 8 0 rfl rfl (show 0 ≤ σ 10 (sp_tr σ (0)) ∧ σ 10 (sp_tr σ (0)) < ((61 : Nat) : Int) by omega) (show 61 < 2147483648 by omega) dX3_atReader_73 ?_
          refine W.eq (g2 := F0 m 74 ls [.int (zz_i (σ 17 (σ 10 (sp_tr σ (0))))), .int (zz_i (σ 10 (sp_tr σ (0)))), .ref (gr 5)]) rfl ?_
          refine zz_iast hx hb hK hP hD hS 5 0 rfl rfl (show 0 ≤ σ 10 (sp_tr σ (0)) ∧ σ 10 (sp_tr σ (0)) < ((61 : Nat) : Int) by omega) (show 61 < 2147483648 by omega) dX3_atReader_74 (fun H locs hP hD hS => ?_)
          have hP : va_P D zz_cl (rk_ cy gr kc (up_a (up_a σ 16 (σ 10 (sp_tr σ (0))) ((σ 16 (σ 10 (sp_tr σ (0)))) - 1)) 14 (σ 10 (sp_tr σ (0))) (σ 17 (σ 10 (sp_tr σ (0)))))) H := hP
          have hD : va_D A (rk_ cy gr kc (up_a (up_a σ 16 (σ 10 (sp_tr σ (0))) ((σ 16 (σ 10 (sp_tr σ (0)))) - 1)) 14 (σ 10 (sp_tr σ (0))) (σ 17 (σ 10 (sp_tr σ (0)))))) := hD
          have hw9 : rk_ cy gr kc (sp_ra σ) = rk_ cy gr kc (up_a (up_a σ 16 (σ 10 (sp_tr σ (0))) ((σ 16 (σ 10 (sp_tr σ (0)))) - 1)) 14 (σ 10 (sp_tr σ (0))) (σ 17 (σ 10 (sp_tr σ (0))))) := by unfold sp_ra; unfold sp_rd; (repeat (first | rw [if_pos (by omega)] | rw [if_neg (by omega)])) <;> first | rfl | omega
          subst hAe
          exact W.vret hx hb hr (fun t ht hW => ⟨rfl, ⟨(), trivial, by rw [ht, hw9]; exact hP, va_K.moved hW.alike hK, by rw [hw9]; exact hD⟩, hS.F ht⟩) hS.2.2 dX3_atReader_75
      · refine lv_aload_n hx hb dX3_atReader_36 rfl (lv_at hl 2 rfl) ?_
        refine lv_iload_n hx hb dX3_atReader_37 rfl (lv_at hl 1 rfl) ?_
        refine lv_iconst (v := zz_i (3)) hx hb dX3_atReader_38 rfl ?_
        refine lv_iconst (v := zz_i (0)) hx hb dX3_atReader_39 rfl ?_
        refine zc_v (As := [.int (zz_i (sp_tr σ (0))), .int (zz_i (3)), .int (zz_i (0))]) (rest := []) (S := Unit) (pc := 40) ⟨hx, hb, hml, hown, hts⟩ (r_leave l D cy gr kc σ _ _ hI (sp_tr σ (0)) (3) (0) (by omega) (by omega)) (cwV 3 hts gX3_atReader_X3_leave rfl rfl rfl (by decide +kernel) ⟨Nat.le_of_ble_eq_true rfl, Nat.le_of_ble_eq_true rfl⟩) hK hP hD hS hA hE (va_recv hK hP (ci := 3) (q0 := 0) rfl rfl) rfl hl.1 rfl (Nat.le_of_ble_eq_true rfl) dX3_atReader_40 ⟨Nat.le_of_ble_eq_true rfl, Nat.le_of_ble_eq_true rfl⟩ (fun _ H locs k6 hP hD hS => ?_)
        refine W.eq (g2 := F0 m 43 ls []) rfl ?_
        have hw9 : rk_ cy gr kc (sp_ra σ) = rk_ cy gr kc (sp_lv σ (σ 10 (sp_tr σ (0))) (3) (0)) := by unfold sp_ra; unfold sp_rd; (repeat (first | rw [if_pos (by omega)] | rw [if_neg (by omega)])) <;> first | rfl | omega
        subst hAe
        exact W.vret hx hb hr (fun t ht hW => ⟨rfl, ⟨(), trivial, by rw [ht, hw9]; exact hP, va_K.moved hW.alike hK, by rw [hw9]; exact hD⟩, hS.F ht⟩) hS.2.2 dX3_atReader_43
    · have hw9 : rk_ cy gr kc (sp_ra σ) = rk_ cy gr kc σ := by unfold sp_ra; unfold sp_rd; (repeat (first | rw [if_pos (by omega)] | rw [if_neg (by omega)])) <;> first | rfl | omega
      subst hAe
      exact W.vret hx hb hr (fun t ht hW => ⟨rfl, ⟨(), trivial, by rw [ht, hw9]; exact hP, va_K.moved hW.alike hK, by rw [hw9]; exact hD⟩, hS.F ht⟩) hS.2.2 dX3_atReader_26
end
