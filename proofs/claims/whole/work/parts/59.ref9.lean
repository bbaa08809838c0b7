section
set_option maxHeartbeats 4000000 in
set_option maxRecDepth 100000 in
theorem r_jam (l : Launch) (D : va_G) (cy gr : Nat → Nat) (kc : Int) (σ : zz_S) (sz : Nat) (hI : iv_ σ) (x y : Int) (q_x : (-2147483648 ≤ x ∧ x < 2147483648)) (q_y : (-2147483648 ≤ y ∧ y < 2147483648)) : Met l yX3_jam wsX3_jam ({ frames := 1, cells := 0, slots := 0, locals := 22 }) (ct_P D cy [.ref (gr 0), .int (zz_i (x)), .int (zz_i (y))] (rk_ cy gr kc σ) sz) (ct_Q D cy (rk_ cy gr kc σ) sz (some (.int (zz_i (an_ (k_jam σ x y) (s_jam σ x y 7 0))))) (fun _ : Unit => True) (fun _ => rk_ cy gr (k_jam σ x y) (nx_ (k_jam σ x y) σ (s_jam σ x y)))) 0 0 (va_A (rk_ cy gr kc σ) sz) := by
  refine Met.ofW (cc := cX3_jam) (maxL := 6) (ret := (some .int)) (by decide) rfl ?_
  intro p e s m args below meth c s₁ B hml hv
  obtain ⟨rfl, rfl, hP, hK, hD0, hE⟩ := hv
  have hx := B.exec
  have hb := B.bytes
  have hr := B.returns
  have hts := atoms_spec (ws := wsX3_jam) B.pre
  have hown : s.vm.findClass RX3 = some m.cls := findClass_of_methodNamed B.named
  have hlocks := B.notSynchronized
  have hD := hD0.self (sz := s.heap.size)
  obtain ⟨A, hAe⟩ : ∃ A, A = va_A (rk_ cy gr kc σ) s.heap.size := ⟨_, rfl⟩
  rw [← hAe] at hD hE
  have hA : ∀ q : Nat, s.heap.size ≤ q → A q := fun q h => by rw [hAe]; exact Or.inr h
  have hS : va_S A s.heap s.heap [] := va_S.rf
  have hP : va_P D zz_cl (rk_ cy gr kc σ) s.heap := hP
  have hl := lv_entry ([.ref (gr 0), .int (zz_i (x)), .int (zz_i (y))]) (n := 6) (Nat.le_of_ble_eq_true rfl)
  rw [lg_entry_eq]
  generalize (lg_sl ([.ref (gr 0), .int (zz_i (x)), .int (zz_i (y))]) ++ List.replicate (6 - (lg_sl ([.ref (gr 0), .int (zz_i (x)), .int (zz_i (y))])).length) Slot.unset).toArray = ls at hl ⊢
  have hl : lv_has ls 6 [(0, .ref (gr 0)), (1, .int (zz_i (x))), (2, .int (zz_i (y)))] := hl
  obtain ⟨⟨j1, j2, j3, j4, j5, j6, j7, j8, j9, j10⟩, j11, j12, j13, j14, j15, j16, j17, j18, j19, j20, j21, j22, j23, j24⟩ := id hI
  have hiX3 : ∀ w ∈ wsX30, w ∈ wsX3_jam := by decide +kernel
  have hf57 := hts (.fieldLink RX3 57 "SorterStepsModel" "trays" "I") (by decide +kernel)
  have hf63 := hts (.fieldLink RX3 63 "SorterStepsModel" "code" "I") (by decide +kernel)
  have hf94 := hts (.fieldLink RX3 94 "SorterStepsModel" "jammed" "Z") (by decide +kernel)
  have hf112 := hts (.fieldLink RX3 112 "SorterStepsModel" "doubts" "I") (by decide +kernel)
  have hf13 := hts (.fieldLink RX3 13 "SorterStepsModel" "on" "[I") (by decide +kernel)
  have hf51 := hts (.fieldLink RX3 51 "SorterStepsModel" "doubted" "[I") (by decide +kernel)
  have hf54 := hts (.fieldLink RX3 54 "SorterStepsModel" "isFound" "[Z") (by decide +kernel)
  refine lv_aload_n hx hb dX3_jam_0 rfl (lv_at hl 0 rfl) ?_
  refine lv_iload_n hx hb dX3_jam_1 rfl (lv_at hl 1 rfl) ?_
  refine lv_iconst (v := zz_i (0)) hx hb dX3_jam_2 rfl ?_
  refine lv_aload_n hx hb dX3_jam_3 rfl (lv_at hl 0 rfl) ?_
  refine va_get (D := D) (ci := 3) (v := .int (zz_i (σ 0 0))) (C := RX3) (T := TX3) (N := 23) hx hb hts hiX3 hown hK hP (0) rfl rfl 1 (by decide) hf57 (fun _ h9 => h9) rfl dX3_jam_4 ?_
  refine lv_iconst (v := zz_i (1)) hx hb dX3_jam_7 rfl ?_
  refine zz_isub hx hb dX3_jam_8 ?_
  refine zc_s (As := [.int (zz_i (x)), .int (zz_i (0)), .int (zz_i ((σ 0 0) - 1))]) (rest := [.ref (gr 0)]) (S := Unit) (pc := 9) ⟨hx, hb, hml, hown, hts⟩ (r_in l D cy (rk_ cy gr kc σ) _ (x) (0) ((σ 0 0) - 1) (by omega) (by omega) (by omega)) (va_cwS 3 hts gX3_jam_X3_in rfl rfl rfl (by decide +kernel) ⟨Nat.le_of_ble_eq_true rfl, Nat.le_of_ble_eq_true rfl⟩) hK hP hD hS hA hE rfl hl.1 rfl (Nat.le_of_ble_eq_true rfl) dX3_jam_9 ⟨Nat.le_of_ble_eq_true rfl, Nat.le_of_ble_eq_true rfl⟩ (fun _ H locs k1 hP hD hS => ?_)
  refine W.eq (g2 := F0 m 12 ls [.int (zz_i (sp_bt (x) (0) ((σ 0 0) - 1))), .ref (gr 0)]) rfl ?_
  have b1 := sp_bt_b (x) (0) ((σ 0 0) - 1)
  refine zz_if_eq (tgt := 29) hx hb dX3_jam_12 (by decide) (by omega) (fun c2 => ?_) (fun c2 => ?_)
  · refine lv_iconst (v := zz_i (1)) hx hb dX3_jam_29 rfl ?_
    refine lv_goto (tgt := 45) hx hb dX3_jam_30 (by decide) ?_
    refine va_put (D := D) (ci := 3) (v := .int (zz_i (1))) (ty := .int) (C := RX3) (T := TX3) (N := 23) hx hb hts hiX3 tyX3 tyX3_ok nmX3 hown hK hP hD hS (0) rfl rfl 0 (by decide) hf63 (fun _ h9 => h9) rfl (by decide +kernel) rfl rfl (Nat.le_of_ble_eq_true rfl) dX3_jam_45 (fun H locs hP hD hS => ?_)
    have hP : va_P D zz_cl (rk_ cy gr 1 σ) H := hP
    have hD : va_D A (rk_ cy gr 1 σ) := hD
    refine lv_aload_n hx hb dX3_jam_48 rfl (lv_at hl 0 rfl) ?_
    refine va_get (D := D) (ci := 3) (v := .int (zz_i (1))) (C := RX3) (T := TX3) (N := 23) hx hb hts hiX3 hown hK hP (0) rfl rfl 0 (by decide) hf63 (fun _ h9 => h9) rfl dX3_jam_49 ?_
    refine zz_if_le (tgt := 57) hx hb dX3_jam_52 (by decide) (by omega) (fun c3 => ?_) (fun c3 => ?_)
    · exact absurd c3 (by omega)
    · refine lv_iconst (v := zz_i (0)) hx hb dX3_jam_55 rfl ?_
      have hv9 : an_ (k_jam σ x y) (s_jam σ x y 7 0) = 0 := by (have hk9 : k_jam σ x y = 1 := by unfold k_jam; (repeat (first | rw [if_pos (by omega)] | rw [if_neg (by omega)])) <;> first | rfl | omega); rw [hk9]; rfl
      have hw9 : rk_ cy gr (k_jam σ x y) (nx_ (k_jam σ x y) σ (s_jam σ x y)) = rk_ cy gr 1 σ := by (have hk9 : k_jam σ x y = 1 := by unfold k_jam; (repeat (first | rw [if_pos (by omega)] | rw [if_neg (by omega)])) <;> first | rfl | omega); rw [hk9]; rfl
      subst hAe
      exact W.iret (v := zz_i (0)) hx hb hr (fun t ht hW => ⟨congrArg (fun z => Outcome.returned (some (Value.int (zz_i z)))) hv9.symm, ⟨(), trivial, by rw [ht, hw9]; exact hP, va_K.moved hW.alike hK, by rw [hw9]; exact hD⟩, hS.F ht⟩) hS.2.2 dX3_jam_56
  · refine lv_iload_n hx hb dX3_jam_15 rfl (lv_at hl 2 rfl) ?_
    refine lv_iconst (v := zz_i (0)) hx hb dX3_jam_16 rfl ?_
    refine lv_aload_n hx hb dX3_jam_17 rfl (lv_at hl 0 rfl) ?_
    refine va_get (D := D) (ci := 3) (v := .int (zz_i (σ 0 0))) (C := RX3) (T := TX3) (N := 23) hx hb hts hiX3 hown hK hP (0) rfl rfl 1 (by decide) hf57 (fun _ h9 => h9) rfl dX3_jam_18 ?_
    refine lv_iconst (v := zz_i (1)) hx hb dX3_jam_21 rfl ?_
    refine zz_isub hx hb dX3_jam_22 ?_
    refine zc_s (As := [.int (zz_i (y)), .int (zz_i (0)), .int (zz_i ((σ 0 0) - 1))]) (rest := [.ref (gr 0)]) (S := Unit) (pc := 23) ⟨hx, hb, hml, hown, hts⟩ (r_in l D cy (rk_ cy gr kc σ) _ (y) (0) ((σ 0 0) - 1) (by omega) (by omega) (by omega)) (va_cwS 3 hts gX3_jam_X3_in rfl rfl rfl (by decide +kernel) ⟨Nat.le_of_ble_eq_true rfl, Nat.le_of_ble_eq_true rfl⟩) hK hP hD hS hA hE rfl hl.1 rfl (Nat.le_of_ble_eq_true rfl) dX3_jam_23 ⟨Nat.le_of_ble_eq_true rfl, Nat.le_of_ble_eq_true rfl⟩ (fun _ H locs k4 hP hD hS => ?_)
    refine W.eq (g2 := F0 m 26 ls [.int (zz_i (sp_bt (y) (0) ((σ 0 0) - 1))), .ref (gr 0)]) rfl ?_
    have b4 := sp_bt_b (y) (0) ((σ 0 0) - 1)
    refine zz_if_ne (tgt := 33) hx hb dX3_jam_26 (by decide) (by omega) (fun c5 => ?_) (fun c5 => ?_)
    · refine lv_aload_n hx hb dX3_jam_33 rfl (lv_at hl 0 rfl) ?_
      refine va_get (D := D) (ci := 3) (v := .int (zz_i (σ 6 0))) (C := RX3) (T := TX3) (N := 23) hx hb hts hiX3 hown hK hP (0) rfl rfl 19 (by decide) hf94 (fun _ h9 => h9) rfl dX3_jam_34 ?_
      refine zz_if_eq (tgt := 44) hx hb dX3_jam_37 (by decide) (by omega) (fun c6 => ?_) (fun c6 => ?_)
      · refine lv_iconst (v := zz_i (0)) hx hb dX3_jam_44 rfl ?_
        refine va_put (D := D) (ci := 3) (v := .int (zz_i (0))) (ty := .int) (C := RX3) (T := TX3) (N := 23) hx hb hts hiX3 tyX3 tyX3_ok nmX3 hown hK hP hD hS (0) rfl rfl 0 (by decide) hf63 (fun _ h9 => h9) rfl (by decide +kernel) rfl rfl (Nat.le_of_ble_eq_true rfl) dX3_jam_45 (fun H locs hP hD hS => ?_)
        have hP : va_P D zz_cl (rk_ cy gr 0 σ) H := hP
        have hD : va_D A (rk_ cy gr 0 σ) := hD
        refine lv_aload_n hx hb dX3_jam_48 rfl (lv_at hl 0 rfl) ?_
        refine va_get (D := D) (ci := 3) (v := .int (zz_i (0))) (C := RX3) (T := TX3) (N := 23) hx hb hts hiX3 hown hK hP (0) rfl rfl 0 (by decide) hf63 (fun _ h9 => h9) rfl dX3_jam_49 ?_
        refine zz_if_le (tgt := 57) hx hb dX3_jam_52 (by decide) (by omega) (fun c7 => ?_) (fun c7 => ?_)
        · refine lv_aload_n hx hb dX3_jam_57 rfl (lv_at hl 0 rfl) ?_
          refine lv_iconst (v := zz_i (1)) hx hb dX3_jam_58 rfl ?_
          refine va_put (D := D) (ci := 3) (v := .int (zz_i (1))) (ty := .boolean) (C := RX3) (T := TX3) (N := 23) hx hb hts hiX3 tyX3 tyX3_ok nmX3 hown hK hP hD hS (0) rfl rfl 19 (by decide) hf94 (fun _ h9 => h9) rfl (by decide +kernel) (zz_narB (by omega)) (zz_fitB (by omega)) (Nat.le_of_ble_eq_true rfl) dX3_jam_59 (fun H locs hP hD hS => ?_)
          have hP : va_P D zz_cl (rk_ cy gr 0 (up_s σ 6 (1))) H := hP
          have hD : va_D A (rk_ cy gr 0 (up_s σ 6 (1))) := hD
          refine lv_aload_n hx hb dX3_jam_62 rfl (lv_at hl 0 rfl) ?_
          refine lv_iconst (v := zz_i (0)) hx hb dX3_jam_63 rfl ?_
          refine va_put (D := D) (ci := 3) (v := .int (zz_i (0))) (ty := .int) (C := RX3) (T := TX3) (N := 23) hx hb hts hiX3 tyX3 tyX3_ok nmX3 hown hK hP hD hS (0) rfl rfl 20 (by decide) hf112 (fun _ h9 => h9) rfl (by decide +kernel) rfl rfl (Nat.le_of_ble_eq_true rfl) dX3_jam_64 (fun H locs hP hD hS => ?_)
          have hP : va_P D zz_cl (rk_ cy gr 0 (up_s (up_s σ 6 (1)) 7 (0))) H := hP
          have hD : va_D A (rk_ cy gr 0 (up_s (up_s σ 6 (1)) 7 (0))) := hD
          refine lv_iload_n hx hb dX3_jam_67 rfl (lv_at hl 2 rfl) ?_
          refine lv_iload_n hx hb dX3_jam_68 rfl (lv_at hl 1 rfl) ?_
          refine zz_isub hx hb dX3_jam_69 ?_
          refine lv_aload_n hx hb dX3_jam_70 rfl (lv_at hl 0 rfl) ?_
          refine va_get (D := D) (ci := 3) (v := .int (zz_i (σ 0 0))) (C := RX3) (T := TX3) (N := 23) hx hb hts hiX3 hown hK hP (0) rfl rfl 1 (by decide) hf57 (fun _ h9 => h9) rfl dX3_jam_71 ?_
          refine zz_iadd hx hb dX3_jam_74 ?_
          refine lv_aload_n hx hb dX3_jam_75 rfl (lv_at hl 0 rfl) ?_
          refine va_get (D := D) (ci := 3) (v := .int (zz_i (σ 0 0))) (C := RX3) (T := TX3) (N := 23) hx hb hts hiX3 hown hK hP (0) rfl rfl 1 (by decide) hf57 (fun _ h9 => h9) rfl dX3_jam_76 ?_
          refine zz_irem hx hb dX3_jam_79 (by omega) (by omega) ?_
          refine W.eq (g2 := F0 m 80 ls [.int (zz_i (sp_in σ (y - x)))]) (by rw [md_in (σ := σ) (x := x) (y := y) (by omega) (by omega)]) ?_
          refine lv_iconst (v := zz_i (1)) hx hb dX3_jam_80 rfl ?_
          refine zz_iadd hx hb dX3_jam_81 ?_
          refine lv_istore_n (lv' := [(3, .int (zz_i ((sp_in σ (y - x)) + 1))), (0, .ref (gr 0)), (1, .int (zz_i (x))), (2, .int (zz_i (y)))]) hx hb dX3_jam_82 rfl hl (by decide) rfl (fun ls hl => ?_)
          refine lv_iconst (v := zz_i (0)) hx hb dX3_jam_83 rfl ?_
          refine lv_istore (lv' := [(4, .int (zz_i (0))), (3, .int (zz_i ((sp_in σ (y - x)) + 1))), (0, .ref (gr 0)), (1, .int (zz_i (x))), (2, .int (zz_i (y)))]) hx hb dX3_jam_84 hl (by decide) rfl (fun ls hl => ?_)
          have h70 := j21 (by omega)
          rw [rk_7 (σ := up_s σ 6 1) (show (up_s σ 6 1) 7 0 = 0 from h70)] at hP hD
          have b_d := sp_in_b σ (y - x)
          refine zz_lp (α := Int × zz_S) (μ := fun z9 => (sp_in σ (y - x) + 1 - z9.1).toNat) (cf := fun _ => 0) (sf := fun _ => 0) (I := fun z9 H locs ls => (0 ≤ z9.1 ∧ z9.1 ≤ sp_in σ (y - x) + 1) ∧ (z9.2 = it_da (up_s σ 6 1) x z9.1.toNat) ∧ va_P D zz_cl (rk_ cy gr 0 z9.2) H ∧ va_D A (rk_ cy gr 0 z9.2) ∧ va_S A s.heap H locs ∧ lv_has ls 6 [(0, .ref (gr 0)), (1, .int (zz_i (x))), (3, .int (zz_i (sp_in σ (y - x) + 1))), (4, .int (zz_i (z9.1)))]) ?_ (0, (up_s σ 6 1)) _ _ _ ⟨(show 0 ≤ (0 : Int) ∧ (0 : Int) ≤ sp_in σ (y - x) + 1 from (by omega)), (show (up_s σ 6 1) = it_da (up_s σ 6 1) x (0 : Int).toNat from rfl), hP, hD, hS, lv_sub hl [2, 3, 1, 0] rfl⟩
          rintro ⟨j, τ⟩ H locs ls ⟨v1, v2, hP, hD, hS, hl⟩ ih86
          have v1 : 0 ≤ j ∧ j ≤ sp_in σ (y - x) + 1 := v1
          have v2 : τ = it_da (up_s σ 6 1) x j.toNat := v2
          have hP : va_P D zz_cl (rk_ cy gr 0 τ) H := hP
          have hD : va_D A (rk_ cy gr 0 τ) := hD
          have hl : lv_has ls 6 [(0, .ref (gr 0)), (1, .int (zz_i (x))), (3, .int (zz_i (sp_in σ (y - x) + 1))), (4, .int (zz_i (j)))] := hl
          have w3 := iw_da (k := j.toNat) hI.1 v2 (by omega)
          obtain ⟨⟨t1, t2, t3, t4, t5, t6, t7, t8, t9, t10⟩, u1, u2, u3, u4, u5, u6⟩ := id w3
          have w11 : ∀ t, 0 ≤ τ 10 t ∧ τ 10 t ≤ τ 4 0 := fun t => by rw [u4, u2]; exact ⟨(j11 t).1, (j11 t).2.1⟩
          have w17 : τ 8 0 = τ 2 0 % τ 0 0 := by rw [v2, kp_id _ _ 8 (by decide), kp_id _ _ 2 (by decide), kp_id _ _ 0 (by decide)]; exact j17
          refine lv_iload hx hb dX3_jam_86 (lv_at hl 3 rfl) ?_
          refine lv_iload_n hx hb dX3_jam_88 rfl (lv_at hl 2 rfl) ?_
          refine zz_icmp_ge (tgt := 155) hx hb dX3_jam_89 (by decide) (by omega) (by omega) (fun c8 => ?_) (fun c8 => ?_)
          · refine lv_aload_n hx hb dX3_jam_155 rfl (lv_at hl 0 rfl) ?_
            refine va_get (D := D) (ci := 3) (v := .int (zz_i (τ 7 0))) (C := RX3) (T := TX3) (N := 23) hx hb hts hiX3 hown hK hP (0) rfl rfl 20 (by decide) hf112 (fun _ h9 => h9) rfl dX3_jam_156 ?_
            have hv9 : an_ (k_jam σ x y) (s_jam σ x y 7 0) = τ 7 0 := by (have hk9 : k_jam σ x y = 0 := by unfold k_jam; (repeat (first | rw [if_pos (by omega)] | rw [if_neg (by omega)])) <;> first | rfl | omega); rw [hk9]; show s_jam σ x y 7 0 = τ 7 0; (have e9 : τ = s_jam σ x y := by rw [v2, show j = sp_in σ (y - x) + 1 by omega]; rfl); rw [e9]
            have hw9 : rk_ cy gr (k_jam σ x y) (nx_ (k_jam σ x y) σ (s_jam σ x y)) = rk_ cy gr 0 τ := by (have hk9 : k_jam σ x y = 0 := by unfold k_jam; (repeat (first | rw [if_pos (by omega)] | rw [if_neg (by omega)])) <;> first | rfl | omega); rw [hk9]; show rk_ cy gr 0 (s_jam σ x y) = rk_ cy gr 0 τ; (have e9 : τ = s_jam σ x y := by rw [v2, show j = sp_in σ (y - x) + 1 by omega]; rfl); rw [e9]
            subst hAe
            exact W.iret (v := zz_i (τ 7 0)) hx hb hr (fun t ht hW => ⟨congrArg (fun z => Outcome.returned (some (Value.int (zz_i z)))) hv9.symm, ⟨(), trivial, by rw [ht, hw9]; exact hP, va_K.moved hW.alike hK, by rw [hw9]; exact hD⟩, hS.F ht⟩) hS.2.2 dX3_jam_159
          · refine lv_aload_n hx hb dX3_jam_92 rfl (lv_at hl 0 rfl) ?_
            refine va_get (D := D) (ci := 3) (v := .ref (gr 1)) (C := RX3) (T := TX3) (N := 23) hx hb hts hiX3 hown hK hP (0) rfl rfl 5 (by decide) hf13 (fun _ h9 => h9) rfl dX3_jam_93 ?_
            refine lv_aload_n hx hb dX3_jam_96 rfl (lv_at hl 0 rfl) ?_
            refine lv_iload_n hx hb dX3_jam_97 rfl (lv_at hl 1 rfl) ?_
            refine lv_iload hx hb dX3_jam_98 (lv_at hl 3 rfl) ?_
            refine zz_iadd hx hb dX3_jam_100 ?_
            refine lv_aload_n hx hb dX3_jam_101 rfl (lv_at hl 0 rfl) ?_
            refine va_get (D := D) (ci := 3) (v := .int (zz_i (τ 0 0))) (C := RX3) (T := TX3) (N := 23) hx hb hts hiX3 hown hK hP (0) rfl rfl 1 (by decide) hf57 (fun _ h9 => h9) rfl dX3_jam_102 ?_
            refine zz_irem hx hb dX3_jam_105 (by omega) (by omega) ?_
            refine W.eq (g2 := F0 m 106 ls [.int (zz_i (sp_in (up_s σ 6 1) (x + j))), .ref (gr 0), .ref (gr 1)]) (by rw [md_ad (σ := τ) (z := x + j) (by omega), sp_in_e (show τ 0 0 = (up_s σ 6 1) 0 0 from w3.2.1)]) ?_
            have b_j := sp_in_b (up_s σ 6 1) (x + j)
            have b_0 : (up_s σ 6 1) 0 0 = σ 0 0 := rfl
            refine zc_v (As := [.int (zz_i (sp_in (up_s σ 6 1) (x + j)))]) (rest := [.ref (gr 1)]) (S := Unit) (pc := 106) ⟨hx, hb, hml, hown, hts⟩ (r_trayAt l D cy gr 0 τ _ w3.1 w17 (sp_in (up_s σ 6 1) (x + j)) (show 0 ≤ sp_in (up_s σ 6 1) (x + j) ∧ sp_in (up_s σ 6 1) (x + j) < τ 0 0 by omega)) (cwV 1 hts gX3_jam_X3_trayAt rfl rfl rfl (by decide +kernel) ⟨Nat.le_of_ble_eq_true rfl, Nat.le_of_ble_eq_true rfl⟩) hK hP hD hS hA hE (va_recv hK hP (ci := 3) (q0 := 0) rfl rfl) rfl hl.1 rfl (Nat.le_of_ble_eq_true rfl) dX3_jam_106 ⟨Nat.le_of_ble_eq_true rfl, Nat.le_of_ble_eq_true rfl⟩ (fun _ H locs k9 hP hD hS => ?_)
            refine W.eq (g2 := F0 m 109 ls [.int (zz_i (sp_tr τ (sp_in (up_s σ 6 1) (x + j)))), .ref (gr 1)]) rfl ?_
            have b9 := tr_in (σ := τ) w3.1 (x := sp_in (up_s σ 6 1) (x + j)) (show 0 ≤ sp_in (up_s σ 6 1) (x + j) ∧ sp_in (up_s σ 6 1) (x + j) < τ 0 0 by omega)
            refine zz_iald hx hb hK hP 1 0 rfl rfl (show 0 ≤ sp_tr τ (sp_in (up_s σ 6 1) (x + j)) ∧ sp_tr τ (sp_in (up_s σ 6 1) (x + j)) < ((40 : Nat) : Int) by omega) (show 40 < 2147483648 by omega) dX3_jam_109 ?_
            have h10 := w11 (sp_tr τ (sp_in (up_s σ 6 1) (x + j)))
            refine lv_istore (lv' := [(5, .int (zz_i (τ 10 (sp_tr τ (sp_in (up_s σ 6 1) (x + j)))))), (0, .ref (gr 0)), (1, .int (zz_i (x))), (3, .int (zz_i (sp_in σ (y - x) + 1))), (4, .int (zz_i (j)))]) hx hb dX3_jam_110 hl (by decide) rfl (fun ls hl => ?_)
            refine lv_iload hx hb dX3_jam_112 (lv_at hl 0 rfl) ?_
            refine zz_if_ne (tgt := 120) hx hb dX3_jam_114 (by decide) (by omega) (fun c10 => ?_) (fun c10 => ?_)
            · refine lv_aload_n hx hb dX3_jam_120 rfl (lv_at hl 1 rfl) ?_
              refine va_get (D := D) (ci := 3) (v := .ref (gr 13)) (C := RX3) (T := TX3) (N := 23) hx hb hts hiX3 hown hK hP (0) rfl rfl 21 (by decide) hf51 (fun _ h9 => h9) rfl dX3_jam_121 ?_
              refine lv_aload_n hx hb dX3_jam_124 rfl (lv_at hl 1 rfl) ?_
              refine va_get (D := D) (ci := 3) (v := .int (zz_i (τ 7 0))) (C := RX3) (T := TX3) (N := 23) hx hb hts hiX3 hown hK hP (0) rfl rfl 20 (by decide) hf112 (fun _ h9 => h9) rfl dX3_jam_125 ?_
              refine lv_iload hx hb dX3_jam_128 (lv_at hl 0 rfl) ?_
              refine zz_iast hx hb hK hP hD hS 13 0 rfl rfl (show 0 ≤ τ 7 0 ∧ τ 7 0 < ((40 : Nat) : Int) by omega) (show 40 < 2147483648 by omega) dX3_jam_130 (fun H locs hP hD hS => ?_)
              have hP : va_P D zz_cl (rk_ cy gr 0 (up_a τ 27 (τ 7 0) (τ 10 (sp_tr τ (sp_in (up_s σ 6 1) (x + j)))))) H := hP
              have hD : va_D A (rk_ cy gr 0 (up_a τ 27 (τ 7 0) (τ 10 (sp_tr τ (sp_in (up_s σ 6 1) (x + j)))))) := hD
              refine lv_aload_n hx hb dX3_jam_131 rfl (lv_at hl 1 rfl) ?_
              refine va_get (D := D) (ci := 3) (v := .ref (gr 14)) (C := RX3) (T := TX3) (N := 23) hx hb hts hiX3 hown hK hP (0) rfl rfl 22 (by decide) hf54 (fun _ h9 => h9) rfl dX3_jam_132 ?_
              refine lv_iload hx hb dX3_jam_135 (lv_at hl 0 rfl) ?_
              refine lv_iconst (v := zz_i (0)) hx hb dX3_jam_137 rfl ?_
              refine zz_zast hx hb hK hP hD hS 14 1 rfl rfl (show 0 ≤ τ 10 (sp_tr τ (sp_in (up_s σ 6 1) (x + j))) ∧ τ 10 (sp_tr τ (sp_in (up_s σ 6 1) (x + j))) < ((61 : Nat) : Int) by omega) (show 61 < 2147483648 by omega) (by omega) dX3_jam_138 (fun H locs hP hD hS => ?_)
              have hP : va_P D zz_cl (rk_ cy gr 0 (up_a (up_a τ 27 (τ 7 0) (τ 10 (sp_tr τ (sp_in (up_s σ 6 1) (x + j))))) 20 (τ 10 (sp_tr τ (sp_in (up_s σ 6 1) (x + j)))) (0))) H := hP
              have hD : va_D A (rk_ cy gr 0 (up_a (up_a τ 27 (τ 7 0) (τ 10 (sp_tr τ (sp_in (up_s σ 6 1) (x + j))))) 20 (τ 10 (sp_tr τ (sp_in (up_s σ 6 1) (x + j)))) (0))) := hD
              refine lv_aload_n hx hb dX3_jam_139 rfl (lv_at hl 1 rfl) ?_
              refine lv_dup hx hb dX3_jam_140 rfl ?_
              refine va_get (D := D) (ci := 3) (v := .int (zz_i (τ 7 0))) (C := RX3) (T := TX3) (N := 23) hx hb hts hiX3 hown hK hP (0) rfl rfl 20 (by decide) hf112 (fun _ h9 => h9) rfl dX3_jam_141 ?_
              refine lv_iconst (v := zz_i (1)) hx hb dX3_jam_144 rfl ?_
              refine zz_iadd hx hb dX3_jam_145 ?_
              refine va_put (D := D) (ci := 3) (v := .int (zz_i ((τ 7 0) + 1))) (ty := .int) (C := RX3) (T := TX3) (N := 23) hx hb hts hiX3 tyX3 tyX3_ok nmX3 hown hK hP hD hS (0) rfl rfl 20 (by decide) hf112 (fun _ h9 => h9) rfl (by decide +kernel) rfl rfl (Nat.le_of_ble_eq_true rfl) dX3_jam_146 (fun H locs hP hD hS => ?_)
              have hP : va_P D zz_cl (rk_ cy gr 0 (up_s (up_a (up_a τ 27 (τ 7 0) (τ 10 (sp_tr τ (sp_in (up_s σ 6 1) (x + j))))) 20 (τ 10 (sp_tr τ (sp_in (up_s σ 6 1) (x + j)))) (0)) 7 ((τ 7 0) + 1))) H := hP
              have hD : va_D A (rk_ cy gr 0 (up_s (up_a (up_a τ 27 (τ 7 0) (τ 10 (sp_tr τ (sp_in (up_s σ 6 1) (x + j))))) 20 (τ 10 (sp_tr τ (sp_in (up_s σ 6 1) (x + j)))) (0)) 7 ((τ 7 0) + 1))) := hD
              refine lv_iinc (v := zz_i (j + 1)) (lv' := [(4, .int (zz_i (j + 1))), (5, .int (zz_i (τ 10 (sp_tr τ (sp_in (up_s σ 6 1) (x + j)))))), (0, .ref (gr 0)), (1, .int (zz_i (x))), (3, .int (zz_i (sp_in σ (y - x) + 1)))]) hx hb dX3_jam_149 hl (k := 4) rfl (zz_add _ _) (by decide) rfl (fun ls hl => ?_)
              refine lv_goto (tgt := 86) hx hb dX3_jam_152 (by decide) ?_
              have hw8 : rk_ cy gr 0 (sp_da τ (sp_in (up_s σ 6 1) (x + j))) = rk_ cy gr 0 (up_s (up_a (up_a τ 27 (τ 7 0) (τ 10 (sp_tr τ (sp_in (up_s σ 6 1) (x + j))))) 20 (τ 10 (sp_tr τ (sp_in (up_s σ 6 1) (x + j)))) (0)) 7 ((τ 7 0) + 1)) := by unfold sp_da sp_db; rw [if_neg (by omega)]; rfl
              rw [← hw8] at hP hD
              exact ih86 (j + 1, (sp_da τ (sp_in (up_s σ 6 1) (x + j)))) _ _ _ (show (sp_in σ (y - x) + 1 - (j + 1)).toNat < (sp_in σ (y - x) + 1 - j).toNat by omega) ⟨(show 0 ≤ (j + 1) ∧ (j + 1) ≤ sp_in σ (y - x) + 1 from (by omega)), (show (sp_da τ (sp_in (up_s σ 6 1) (x + j))) = it_da (up_s σ 6 1) x (j + 1).toNat from (it_da_n v2 (by omega))), hP, hD, hS, lv_sub hl [2, 3, 4, 0] rfl⟩
            · refine lv_goto (tgt := 149) hx hb dX3_jam_117 (by decide) ?_
              refine lv_iinc (v := zz_i (j + 1)) (lv' := [(4, .int (zz_i (j + 1))), (5, .int (zz_i (τ 10 (sp_tr τ (sp_in (up_s σ 6 1) (x + j)))))), (0, .ref (gr 0)), (1, .int (zz_i (x))), (3, .int (zz_i (sp_in σ (y - x) + 1)))]) hx hb dX3_jam_149 hl (k := 4) rfl (zz_add _ _) (by decide) rfl (fun ls hl => ?_)
              refine lv_goto (tgt := 86) hx hb dX3_jam_152 (by decide) ?_
              have hw8 : rk_ cy gr 0 (sp_da τ (sp_in (up_s σ 6 1) (x + j))) = rk_ cy gr 0 τ := by unfold sp_da sp_db; rw [if_pos (by omega)]
              rw [← hw8] at hP hD
              exact ih86 (j + 1, (sp_da τ (sp_in (up_s σ 6 1) (x + j)))) _ _ _ (show (sp_in σ (y - x) + 1 - (j + 1)).toNat < (sp_in σ (y - x) + 1 - j).toNat by omega) ⟨(show 0 ≤ (j + 1) ∧ (j + 1) ≤ sp_in σ (y - x) + 1 from (by omega)), (show (sp_da τ (sp_in (up_s σ 6 1) (x + j))) = it_da (up_s σ 6 1) x (j + 1).toNat from (it_da_n v2 (by omega))), hP, hD, hS, lv_sub hl [2, 3, 4, 0] rfl⟩
        · exact absurd c7 (by omega)
      · refine lv_iconst (v := zz_i (2)) hx hb dX3_jam_40 rfl ?_
        refine lv_goto (tgt := 45) hx hb dX3_jam_41 (by decide) ?_
        refine va_put (D := D) (ci := 3) (v := .int (zz_i (2))) (ty := .int) (C := RX3) (T := TX3) (N := 23) hx hb hts hiX3 tyX3 tyX3_ok nmX3 hown hK hP hD hS (0) rfl rfl 0 (by decide) hf63 (fun _ h9 => h9) rfl (by decide +kernel) rfl rfl (Nat.le_of_ble_eq_true rfl) dX3_jam_45 (fun H locs hP hD hS => ?_)
        have hP : va_P D zz_cl (rk_ cy gr 2 σ) H := hP
        have hD : va_D A (rk_ cy gr 2 σ) := hD
        refine lv_aload_n hx hb dX3_jam_48 rfl (lv_at hl 0 rfl) ?_
        refine va_get (D := D) (ci := 3) (v := .int (zz_i (2))) (C := RX3) (T := TX3) (N := 23) hx hb hts hiX3 hown hK hP (0) rfl rfl 0 (by decide) hf63 (fun _ h9 => h9) rfl dX3_jam_49 ?_
        refine zz_if_le (tgt := 57) hx hb dX3_jam_52 (by decide) (by omega) (fun c11 => ?_) (fun c11 => ?_)
        · exact absurd c11 (by omega)
        · refine lv_iconst (v := zz_i (0)) hx hb dX3_jam_55 rfl ?_
          have hv9 : an_ (k_jam σ x y) (s_jam σ x y 7 0) = 0 := by (have hk9 : k_jam σ x y = 2 := by unfold k_jam; (repeat (first | rw [if_pos (by omega)] | rw [if_neg (by omega)])) <;> first | rfl | omega); rw [hk9]; rfl
          have hw9 : rk_ cy gr (k_jam σ x y) (nx_ (k_jam σ x y) σ (s_jam σ x y)) = rk_ cy gr 2 σ := by (have hk9 : k_jam σ x y = 2 := by unfold k_jam; (repeat (first | rw [if_pos (by omega)] | rw [if_neg (by omega)])) <;> first | rfl | omega); rw [hk9]; rfl
          subst hAe
          exact W.iret (v := zz_i (0)) hx hb hr (fun t ht hW => ⟨congrArg (fun z => Outcome.returned (some (Value.int (zz_i z)))) hv9.symm, ⟨(), trivial, by rw [ht, hw9]; exact hP, va_K.moved hW.alike hK, by rw [hw9]; exact hD⟩, hS.F ht⟩) hS.2.2 dX3_jam_56
    · refine lv_iconst (v := zz_i (1)) hx hb dX3_jam_29 rfl ?_
      refine lv_goto (tgt := 45) hx hb dX3_jam_30 (by decide) ?_
      refine va_put (D := D) (ci := 3) (v := .int (zz_i (1))) (ty := .int) (C := RX3) (T := TX3) (N := 23) hx hb hts hiX3 tyX3 tyX3_ok nmX3 hown hK hP hD hS (0) rfl rfl 0 (by decide) hf63 (fun _ h9 => h9) rfl (by decide +kernel) rfl rfl (Nat.le_of_ble_eq_true rfl) dX3_jam_45 (fun H locs hP hD hS => ?_)
      have hP : va_P D zz_cl (rk_ cy gr 1 σ) H := hP
      have hD : va_D A (rk_ cy gr 1 σ) := hD
      refine lv_aload_n hx hb dX3_jam_48 rfl (lv_at hl 0 rfl) ?_
      refine va_get (D := D) (ci := 3) (v := .int (zz_i (1))) (C := RX3) (T := TX3) (N := 23) hx hb hts hiX3 hown hK hP (0) rfl rfl 0 (by decide) hf63 (fun _ h9 => h9) rfl dX3_jam_49 ?_
      refine zz_if_le (tgt := 57) hx hb dX3_jam_52 (by decide) (by omega) (fun c12 => ?_) (fun c12 => ?_)
      · exact absurd c12 (by omega)
      · refine lv_iconst (v := zz_i (0)) hx hb dX3_jam_55 rfl ?_
        have hv9 : an_ (k_jam σ x y) (s_jam σ x y 7 0) = 0 := by (have hk9 : k_jam σ x y = 1 := by unfold k_jam; (repeat (first | rw [if_pos (by omega)] | rw [if_neg (by omega)])) <;> first | rfl | omega); rw [hk9]; rfl
        have hw9 : rk_ cy gr (k_jam σ x y) (nx_ (k_jam σ x y) σ (s_jam σ x y)) = rk_ cy gr 1 σ := by (have hk9 : k_jam σ x y = 1 := by unfold k_jam; (repeat (first | rw [if_pos (by omega)] | rw [if_neg (by omega)])) <;> first | rfl | omega); rw [hk9]; rfl
        subst hAe
        exact W.iret (v := zz_i (0)) hx hb hr (fun t ht hW => ⟨congrArg (fun z => Outcome.returned (some (Value.int (zz_i z)))) hv9.symm, ⟨(), trivial, by rw [ht, hw9]; exact hP, va_K.moved hW.alike hK, by rw [hw9]; exact hD⟩, hS.F ht⟩) hS.2.2 dX3_jam_56
end
