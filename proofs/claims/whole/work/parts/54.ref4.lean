section
set_option maxHeartbeats 4000000 in
set_option maxRecDepth 100000 in
theorem r_length (l : Launch) (D : va_G) (cy gr : Nat → Nat) (kc : Int) (σ : zz_S) (sz : Nat) (hI : iv_ σ) (x : Int) (q_x : (-2147483648 ≤ x ∧ x < 2147483648)) : Met l yX3_length wsX3_length ({ frames := 1, cells := 0, slots := 0, locals := 22 }) (ct_P D cy [.ref (gr 0), .int (zz_i (x))] (rk_ cy gr kc σ) sz) (ct_Q D cy (rk_ cy gr kc σ) sz (some (.int (zz_i (an_ (k_len σ x) (v_len σ x))))) (fun _ : Unit => True) (fun _ => rk_ cy gr (k_len σ x) (nx_ (k_len σ x) σ (s_len σ x)))) 0 0 (va_A (rk_ cy gr kc σ) sz) := by
  refine Met.ofW (cc := cX3_length) (maxL := 4) (ret := (some .int)) (by decide) rfl ?_
  intro p e s m args below meth c s₁ B hml hv
  obtain ⟨rfl, rfl, hP, hK, hD0, hE⟩ := hv
  have hx := B.exec
  have hb := B.bytes
  have hr := B.returns
  have hts := atoms_spec (ws := wsX3_length) B.pre
  have hown : s.vm.findClass RX3 = some m.cls := findClass_of_methodNamed B.named
  have hlocks := B.notSynchronized
  have hD := hD0.self (sz := s.heap.size)
  obtain ⟨A, hAe⟩ : ∃ A, A = va_A (rk_ cy gr kc σ) s.heap.size := ⟨_, rfl⟩
  rw [← hAe] at hD hE
  have hA : ∀ q : Nat, s.heap.size ≤ q → A q := fun q h => by rw [hAe]; exact Or.inr h
  have hS : va_S A s.heap s.heap [] := va_S.rf
  have hP : va_P D zz_cl (rk_ cy gr kc σ) s.heap := hP
  have hl := lv_entry ([.ref (gr 0), .int (zz_i (x))]) (n := 4) (Nat.le_of_ble_eq_true rfl)
  rw [lg_entry_eq]
  generalize (lg_sl ([.ref (gr 0), .int (zz_i (x))]) ++ List.replicate (4 - (lg_sl ([.ref (gr 0), .int (zz_i (x))])).length) Slot.unset).toArray = ls at hl ⊢
  have hl : lv_has ls 4 [(0, .ref (gr 0)), (1, .int (zz_i (x)))] := hl
  obtain ⟨⟨j1, j2, j3, j4, j5, j6, j7, j8, j9, j10⟩, j11, j12, j13, j14, j15, j16, j17, j18, j19, j20, j21, j22, j23, j24⟩ := id hI
  have hiX3 : ∀ w ∈ wsX30, w ∈ wsX3_length := by decide +kernel
  have hf63 := hts (.fieldLink RX3 63 "SorterStepsModel" "code" "I") (by decide +kernel)
  have hf7 := hts (.fieldLink RX3 7 "SorterStepsModel" "longest" "I") (by decide +kernel)
  have hf57 := hts (.fieldLink RX3 57 "SorterStepsModel" "trays" "I") (by decide +kernel)
  have hf13 := hts (.fieldLink RX3 13 "SorterStepsModel" "on" "[I") (by decide +kernel)
  have hf21 := hts (.fieldLink RX3 21 "SorterStepsModel" "length" "[I") (by decide +kernel)
  refine lv_aload_n hx hb dX3_length_0 rfl (lv_at hl 0 rfl) ?_
  refine lv_iload_n hx hb dX3_length_1 rfl (lv_at hl 1 rfl) ?_
  refine lv_iconst (v := zz_i (1)) hx hb dX3_length_2 rfl ?_
  refine lv_bipush (v := zz_i (100)) hx hb dX3_length_3 (by decide) ?_
  refine zc_s (As := [.int (zz_i (x)), .int (zz_i (1)), .int (zz_i (100))]) (rest := [.ref (gr 0)]) (S := Unit) (pc := 5) ⟨hx, hb, hml, hown, hts⟩ (r_in l D cy (rk_ cy gr kc σ) _ (x) (1) (100) (by omega) (by omega) (by omega)) (va_cwS 3 hts gX3_length_X3_in rfl rfl rfl (by decide +kernel) ⟨Nat.le_of_ble_eq_true rfl, Nat.le_of_ble_eq_true rfl⟩) hK hP hD hS hA hE rfl hl.1 rfl (Nat.le_of_ble_eq_true rfl) dX3_length_5 ⟨Nat.le_of_ble_eq_true rfl, Nat.le_of_ble_eq_true rfl⟩ (fun _ H locs k1 hP hD hS => ?_)
  refine W.eq (g2 := F0 m 8 ls [.int (zz_i (sp_bt (x) (1) (100))), .ref (gr 0)]) rfl ?_
  have b1 := sp_bt_b (x) (1) (100)
  refine zz_if_eq (tgt := 15) hx hb dX3_length_8 (by decide) (by omega) (fun c2 => ?_) (fun c2 => ?_)
  · refine lv_iconst (v := zz_i (1)) hx hb dX3_length_15 rfl ?_
    refine va_put (D := D) (ci := 3) (v := .int (zz_i (1))) (ty := .int) (C := RX3) (T := TX3) (N := 23) hx hb hts hiX3 tyX3 tyX3_ok nmX3 hown hK hP hD hS (0) rfl rfl 0 (by decide) hf63 (fun _ h9 => h9) rfl (by decide +kernel) rfl rfl (Nat.le_of_ble_eq_true rfl) dX3_length_16 (fun H locs hP hD hS => ?_)
    have hP : va_P D zz_cl (rk_ cy gr 1 σ) H := hP
    have hD : va_D A (rk_ cy gr 1 σ) := hD
    refine lv_aload_n hx hb dX3_length_19 rfl (lv_at hl 0 rfl) ?_
    refine va_get (D := D) (ci := 3) (v := .int (zz_i (1))) (C := RX3) (T := TX3) (N := 23) hx hb hts hiX3 hown hK hP (0) rfl rfl 0 (by decide) hf63 (fun _ h9 => h9) rfl dX3_length_20 ?_
    refine zz_if_le (tgt := 28) hx hb dX3_length_23 (by decide) (by omega) (fun c3 => ?_) (fun c3 => ?_)
    · exact absurd c3 (by omega)
    · refine lv_iconst (v := zz_i (0)) hx hb dX3_length_26 rfl ?_
      have hv9 : an_ (k_len σ x) (v_len σ x) = 0 := by (have hk9 : k_len σ x = 1 := by unfold k_len; (repeat (first | rw [if_pos (by omega)] | rw [if_neg (by omega)])) <;> first | rfl | omega); rw [hk9]; rfl
      have hw9 : rk_ cy gr (k_len σ x) (nx_ (k_len σ x) σ (s_len σ x)) = rk_ cy gr 1 σ := by (have hk9 : k_len σ x = 1 := by unfold k_len; (repeat (first | rw [if_pos (by omega)] | rw [if_neg (by omega)])) <;> first | rfl | omega); rw [hk9]; rfl
      subst hAe
      exact W.iret (v := zz_i (0)) hx hb hr (fun t ht hW => ⟨congrArg (fun z => Outcome.returned (some (Value.int (zz_i z)))) hv9.symm, ⟨(), trivial, by rw [ht, hw9]; exact hP, va_K.moved hW.alike hK, by rw [hw9]; exact hD⟩, hS.F ht⟩) hS.2.2 dX3_length_27
  · refine lv_iconst (v := zz_i (0)) hx hb dX3_length_11 rfl ?_
    refine lv_goto (tgt := 16) hx hb dX3_length_12 (by decide) ?_
    refine va_put (D := D) (ci := 3) (v := .int (zz_i (0))) (ty := .int) (C := RX3) (T := TX3) (N := 23) hx hb hts hiX3 tyX3 tyX3_ok nmX3 hown hK hP hD hS (0) rfl rfl 0 (by decide) hf63 (fun _ h9 => h9) rfl (by decide +kernel) rfl rfl (Nat.le_of_ble_eq_true rfl) dX3_length_16 (fun H locs hP hD hS => ?_)
    have hP : va_P D zz_cl (rk_ cy gr 0 σ) H := hP
    have hD : va_D A (rk_ cy gr 0 σ) := hD
    refine lv_aload_n hx hb dX3_length_19 rfl (lv_at hl 0 rfl) ?_
    refine va_get (D := D) (ci := 3) (v := .int (zz_i (0))) (C := RX3) (T := TX3) (N := 23) hx hb hts hiX3 hown hK hP (0) rfl rfl 0 (by decide) hf63 (fun _ h9 => h9) rfl dX3_length_20 ?_
    refine zz_if_le (tgt := 28) hx hb dX3_length_23 (by decide) (by omega) (fun c4 => ?_) (fun c4 => ?_)
    · refine lv_aload_n hx hb dX3_length_28 rfl (lv_at hl 0 rfl) ?_
      refine lv_iload_n hx hb dX3_length_29 rfl (lv_at hl 1 rfl) ?_
      refine va_put (D := D) (ci := 3) (v := .int (zz_i (x))) (ty := .int) (C := RX3) (T := TX3) (N := 23) hx hb hts hiX3 tyX3 tyX3_ok nmX3 hown hK hP hD hS (0) rfl rfl 4 (by decide) hf7 (fun _ h9 => h9) rfl (by decide +kernel) rfl rfl (Nat.le_of_ble_eq_true rfl) dX3_length_30 (fun H locs hP hD hS => ?_)
      have hP : va_P D zz_cl (rk_ cy gr 0 (up_s σ 3 (x))) H := hP
      have hD : va_D A (rk_ cy gr 0 (up_s σ 3 (x))) := hD
      refine lv_iconst (v := zz_i (0)) hx hb dX3_length_33 rfl ?_
      refine lv_istore_n (lv' := [(2, .int (zz_i (0))), (0, .ref (gr 0)), (1, .int (zz_i (x)))]) hx hb dX3_length_34 rfl hl (by decide) rfl (fun ls hl => ?_)
      refine lv_iconst (v := zz_i (0)) hx hb dX3_length_35 rfl ?_
      refine lv_istore_n (lv' := [(3, .int (zz_i (0))), (2, .int (zz_i (0))), (0, .ref (gr 0)), (1, .int (zz_i (x)))]) hx hb dX3_length_36 rfl hl (by decide) rfl (fun ls hl => ?_)
      refine zz_lp (α := Int × Int) (μ := fun z9 => (σ 0 0 - z9.1).toNat) (cf := fun _ => 0) (sf := fun _ => 0) (I := fun z9 H locs ls => (0 ≤ z9.1 ∧ z9.1 ≤ σ 0 0) ∧ (z9.2 = sm_ (f_lg σ x) z9.1.toNat) ∧ va_P D zz_cl (rk_ cy gr 0 (up_s σ 3 (x))) H ∧ va_D A (rk_ cy gr 0 (up_s σ 3 (x))) ∧ va_S A s.heap H locs ∧ lv_has ls 4 [(0, .ref (gr 0)), (1, .int (zz_i (x))), (2, .int (zz_i (z9.2))), (3, .int (zz_i (z9.1)))]) ?_ (0, 0) _ _ _ ⟨(show 0 ≤ (0 : Int) ∧ (0 : Int) ≤ σ 0 0 from (by omega)), (show (0 : Int) = sm_ (f_lg σ x) (0 : Int).toNat from rfl), hP, hD, hS, lv_sub hl [2, 3, 1, 0] rfl⟩
      rintro ⟨j, a⟩ H locs ls ⟨v1, v2, hP, hD, hS, hl⟩ ih37
      have v1 : 0 ≤ j ∧ j ≤ σ 0 0 := v1
      have v2 : a = sm_ (f_lg σ x) j.toNat := v2
      have hP : va_P D zz_cl (rk_ cy gr 0 (up_s σ 3 (x))) H := hP
      have hD : va_D A (rk_ cy gr 0 (up_s σ 3 (x))) := hD
      have hl : lv_has ls 4 [(0, .ref (gr 0)), (1, .int (zz_i (x))), (2, .int (zz_i (a))), (3, .int (zz_i (j)))] := hl
      have v3 := sm_b (f := f_lg σ x) (f_lg_r σ x) j.toNat
      have v4 := f_lg_b σ x j
      have h10 := j11 j
      refine lv_iload_n hx hb dX3_length_37 rfl (lv_at hl 3 rfl) ?_
      refine lv_aload_n hx hb dX3_length_38 rfl (lv_at hl 0 rfl) ?_
      refine va_get (D := D) (ci := 3) (v := .int (zz_i (σ 0 0))) (C := RX3) (T := TX3) (N := 23) hx hb hts hiX3 hown hK hP (0) rfl rfl 1 (by decide) hf57 (fun _ h9 => h9) rfl dX3_length_39 ?_
      refine zz_icmp_ge (tgt := 83) hx hb dX3_length_42 (by decide) (by omega) (by omega) (fun c5 => ?_) (fun c5 => ?_)
      · refine lv_iload_n hx hb dX3_length_83 rfl (lv_at hl 2 rfl) ?_
        have hv9 : an_ (k_len σ x) (v_len σ x) = a := by (have hk9 : k_len σ x = 0 := by unfold k_len; (repeat (first | rw [if_pos (by omega)] | rw [if_neg (by omega)])) <;> first | rfl | omega); rw [hk9]; show v_len σ x = a; (have e9 : j = σ 0 0 := by omega); unfold v_len; rw [v2, e9]
        have hw9 : rk_ cy gr (k_len σ x) (nx_ (k_len σ x) σ (s_len σ x)) = rk_ cy gr 0 (up_s σ 3 (x)) := by (have hk9 : k_len σ x = 0 := by unfold k_len; (repeat (first | rw [if_pos (by omega)] | rw [if_neg (by omega)])) <;> first | rfl | omega); rw [hk9]; show rk_ cy gr 0 (s_len σ x) = rk_ cy gr 0 (up_s σ 3 (x)); rfl
        subst hAe
        exact W.iret (v := zz_i (a)) hx hb hr (fun t ht hW => ⟨congrArg (fun z => Outcome.returned (some (Value.int (zz_i z)))) hv9.symm, ⟨(), trivial, by rw [ht, hw9]; exact hP, va_K.moved hW.alike hK, by rw [hw9]; exact hD⟩, hS.F ht⟩) hS.2.2 dX3_length_84
      · refine lv_iload_n hx hb dX3_length_45 rfl (lv_at hl 2 rfl) ?_
        refine lv_aload_n hx hb dX3_length_46 rfl (lv_at hl 0 rfl) ?_
        refine va_get (D := D) (ci := 3) (v := .ref (gr 1)) (C := RX3) (T := TX3) (N := 23) hx hb hts hiX3 hown hK hP (0) rfl rfl 5 (by decide) hf13 (fun _ h9 => h9) rfl dX3_length_47 ?_
        refine lv_iload_n hx hb dX3_length_50 rfl (lv_at hl 3 rfl) ?_
        refine zz_iald hx hb hK hP 1 0 rfl rfl (show 0 ≤ j ∧ j < ((40 : Nat) : Int) by omega) (show 40 < 2147483648 by omega) dX3_length_51 ?_
        refine W.eq (g2 := F0 m 52 ls [.int (zz_i (σ 10 j)), .int (zz_i (a))]) rfl ?_
        refine zz_if_eq (tgt := 74) hx hb dX3_length_52 (by decide) (by omega) (fun c6 => ?_) (fun c6 => ?_)
        · refine lv_iconst (v := zz_i (0)) hx hb dX3_length_74 rfl ?_
          refine zz_iadd hx hb dX3_length_75 ?_
          refine lv_istore_n (lv' := [(2, .int (zz_i (a + 0))), (0, .ref (gr 0)), (1, .int (zz_i (x))), (3, .int (zz_i (j)))]) hx hb dX3_length_76 rfl hl (by decide) rfl (fun ls hl => ?_)
          refine lv_iinc (v := zz_i (j + 1)) (lv' := [(3, .int (zz_i (j + 1))), (2, .int (zz_i (a + 0))), (0, .ref (gr 0)), (1, .int (zz_i (x)))]) hx hb dX3_length_77 hl (k := 3) rfl (zz_add _ _) (by decide) rfl (fun ls hl => ?_)
          refine lv_goto (tgt := 37) hx hb dX3_length_80 (by decide) ?_
          exact ih37 (j + 1, a + 0) _ _ _ (show (σ 0 0 - (j + 1)).toNat < (σ 0 0 - j).toNat by omega) ⟨(show 0 ≤ (j + 1) ∧ (j + 1) ≤ σ 0 0 from (by omega)), (show (a + 0) = sm_ (f_lg σ x) (j + 1).toNat from (by rw [sm_s _ (show 0 ≤ j by omega)]; omega)), hP, hD, hS, lv_sub hl [2, 3, 1, 0] rfl⟩
        · refine lv_aload_n hx hb dX3_length_55 rfl (lv_at hl 0 rfl) ?_
          refine va_get (D := D) (ci := 3) (v := .ref (gr 3)) (C := RX3) (T := TX3) (N := 23) hx hb hts hiX3 hown hK hP (0) rfl rfl 8 (by decide) hf21 (fun _ h9 => h9) rfl dX3_length_56 ?_
          refine lv_aload_n hx hb dX3_length_59 rfl (lv_at hl 0 rfl) ?_
          refine va_get (D := D) (ci := 3) (v := .ref (gr 1)) (C := RX3) (T := TX3) (N := 23) hx hb hts hiX3 hown hK hP (0) rfl rfl 5 (by decide) hf13 (fun _ h9 => h9) rfl dX3_length_60 ?_
          refine lv_iload_n hx hb dX3_length_63 rfl (lv_at hl 3 rfl) ?_
          refine zz_iald hx hb hK hP 1 0 rfl rfl (show 0 ≤ j ∧ j < ((40 : Nat) : Int) by omega) (show 40 < 2147483648 by omega) dX3_length_64 ?_
          refine W.eq (g2 := F0 m 65 ls [.int (zz_i (σ 10 j)), .ref (gr 3), .int (zz_i (a))]) rfl ?_
          refine zz_iald hx hb hK hP 3 0 rfl rfl (show 0 ≤ σ 10 j ∧ σ 10 j < ((61 : Nat) : Int) by omega) (show 61 < 2147483648 by omega) dX3_length_65 ?_
          refine W.eq (g2 := F0 m 66 ls [.int (zz_i (σ 12 (σ 10 j))), .int (zz_i (a))]) rfl ?_
          have hit := j13 (σ 10 j) (by omega) (by omega)
          refine lv_iload_n hx hb dX3_length_66 rfl (lv_at hl 1 rfl) ?_
          refine zz_icmp_le (tgt := 74) hx hb dX3_length_67 (by decide) (by omega) (by omega) (fun c7 => ?_) (fun c7 => ?_)
          · refine lv_iconst (v := zz_i (0)) hx hb dX3_length_74 rfl ?_
            refine zz_iadd hx hb dX3_length_75 ?_
            refine lv_istore_n (lv' := [(2, .int (zz_i (a + 0))), (0, .ref (gr 0)), (1, .int (zz_i (x))), (3, .int (zz_i (j)))]) hx hb dX3_length_76 rfl hl (by decide) rfl (fun ls hl => ?_)
            refine lv_iinc (v := zz_i (j + 1)) (lv' := [(3, .int (zz_i (j + 1))), (2, .int (zz_i (a + 0))), (0, .ref (gr 0)), (1, .int (zz_i (x)))]) hx hb dX3_length_77 hl (k := 3) rfl (zz_add _ _) (by decide) rfl (fun ls hl => ?_)
            refine lv_goto (tgt := 37) hx hb dX3_length_80 (by decide) ?_
            exact ih37 (j + 1, a + 0) _ _ _ (show (σ 0 0 - (j + 1)).toNat < (σ 0 0 - j).toNat by omega) ⟨(show 0 ≤ (j + 1) ∧ (j + 1) ≤ σ 0 0 from (by omega)), (show (a + 0) = sm_ (f_lg σ x) (j + 1).toNat from (by rw [sm_s _ (show 0 ≤ j by omega)]; omega)), hP, hD, hS, lv_sub hl [2, 3, 1, 0] rfl⟩
          · refine lv_iconst (v := zz_i (1)) hx hb dX3_length_70 rfl ?_
            refine lv_goto (tgt := 75) hx hb dX3_length_71 (by decide) ?_
            refine zz_iadd hx hb dX3_length_75 ?_
            refine lv_istore_n (lv' := [(2, .int (zz_i (a + 1))), (0, .ref (gr 0)), (1, .int (zz_i (x))), (3, .int (zz_i (j)))]) hx hb dX3_length_76 rfl hl (by decide) rfl (fun ls hl => ?_)
            refine lv_iinc (v := zz_i (j + 1)) (lv' := [(3, .int (zz_i (j + 1))), (2, .int (zz_i (a + 1))), (0, .ref (gr 0)), (1, .int (zz_i (x)))]) hx hb dX3_length_77 hl (k := 3) rfl (zz_add _ _) (by decide) rfl (fun ls hl => ?_)
            refine lv_goto (tgt := 37) hx hb dX3_length_80 (by decide) ?_
            exact ih37 (j + 1, a + 1) _ _ _ (show (σ 0 0 - (j + 1)).toNat < (σ 0 0 - j).toNat by omega) ⟨(show 0 ≤ (j + 1) ∧ (j + 1) ≤ σ 0 0 from (by omega)), (show (a + 1) = sm_ (f_lg σ x) (j + 1).toNat from (by rw [sm_s _ (show 0 ≤ j by omega)]; omega)), hP, hD, hS, lv_sub hl [2, 3, 1, 0] rfl⟩
    · exact absurd c4 (by omega)
end
