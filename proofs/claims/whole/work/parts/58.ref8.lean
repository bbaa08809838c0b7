section
set_option maxHeartbeats 4000000 in
set_option maxRecDepth 100000 in
theorem r_step (l : Launch) (D : va_G) (cy gr : Nat → Nat) (kc : Int) (σ : zz_S) (sz : Nat) (hI : iv_ σ) (x : Int) (q_x : (-2147483648 ≤ x ∧ x < 2147483648)) (hs : σ 2 0 ≤ 99999900) : Met l yX3_step wsX3_step ({ frames := 2, cells := 0, slots := 0, locals := 47 }) (ct_P D cy [.ref (gr 0), .int (zz_i (x))] (rk_ cy gr kc σ) sz) (ct_Q D cy (rk_ cy gr kc σ) sz (some (.int (zz_i (an_ (k_stp σ x) (s_stp σ x 5 0 - σ 5 0))))) (fun _ : Unit => True) (fun _ => rk_ cy gr (k_stp σ x) (nx_ (k_stp σ x) σ (s_stp σ x)))) 0 0 (va_A (rk_ cy gr kc σ) sz) := by
  refine Met.ofW (cc := cX3_step) (maxL := 5) (ret := (some .int)) (by decide) rfl ?_
  intro p e s m args below meth c s₁ B hml hv
  obtain ⟨rfl, rfl, hP, hK, hD0, hE⟩ := hv
  have hx := B.exec
  have hb := B.bytes
  have hr := B.returns
  have hts := atoms_spec (ws := wsX3_step) B.pre
  have hown : s.vm.findClass RX3 = some m.cls := findClass_of_methodNamed B.named
  have hlocks := B.notSynchronized
  have hD := hD0.self (sz := s.heap.size)
  obtain ⟨A, hAe⟩ : ∃ A, A = va_A (rk_ cy gr kc σ) s.heap.size := ⟨_, rfl⟩
  rw [← hAe] at hD hE
  have hA : ∀ q : Nat, s.heap.size ≤ q → A q := fun q h => by rw [hAe]; exact Or.inr h
  have hS : va_S A s.heap s.heap [] := va_S.rf
  have hP : va_P D zz_cl (rk_ cy gr kc σ) s.heap := hP
  have hl := lv_entry ([.ref (gr 0), .int (zz_i (x))]) (n := 5) (Nat.le_of_ble_eq_true rfl)
  rw [lg_entry_eq]
  generalize (lg_sl ([.ref (gr 0), .int (zz_i (x))]) ++ List.replicate (5 - (lg_sl ([.ref (gr 0), .int (zz_i (x))])).length) Slot.unset).toArray = ls at hl ⊢
  have hl : lv_has ls 5 [(0, .ref (gr 0)), (1, .int (zz_i (x)))] := hl
  obtain ⟨⟨j1, j2, j3, j4, j5, j6, j7, j8, j9, j10⟩, j11, j12, j13, j14, j15, j16, j17, j18, j19, j20, j21, j22, j23, j24⟩ := id hI
  have hiX3 : ∀ w ∈ wsX30, w ∈ wsX3_step := by decide +kernel
  have hf94 := hts (.fieldLink RX3 94 "SorterStepsModel" "jammed" "Z") (by decide +kernel)
  have hf63 := hts (.fieldLink RX3 63 "SorterStepsModel" "code" "I") (by decide +kernel)
  have hf98 := hts (.fieldLink RX3 98 "SorterStepsModel" "left" "I") (by decide +kernel)
  have hf81 := hts (.fieldLink RX3 81 "SorterStepsModel" "steps" "I") (by decide +kernel)
  refine lv_aload_n hx hb dX3_step_0 rfl (lv_at hl 0 rfl) ?_
  refine lv_iload_n hx hb dX3_step_1 rfl (lv_at hl 1 rfl) ?_
  refine lv_iconst (v := zz_i (0)) hx hb dX3_step_2 rfl ?_
  refine lv_bipush (v := zz_i (100)) hx hb dX3_step_3 (by decide) ?_
  refine zc_s (As := [.int (zz_i (x)), .int (zz_i (0)), .int (zz_i (100))]) (rest := [.ref (gr 0)]) (S := Unit) (pc := 5) ⟨hx, hb, hml, hown, hts⟩ (r_in l D cy (rk_ cy gr kc σ) _ (x) (0) (100) (by omega) (by omega) (by omega)) (va_cwS 3 hts gX3_step_X3_in rfl rfl rfl (by decide +kernel) ⟨Nat.le_of_ble_eq_true rfl, Nat.le_of_ble_eq_true rfl⟩) hK hP hD hS hA hE rfl hl.1 rfl (Nat.le_of_ble_eq_true rfl) dX3_step_5 ⟨Nat.le_of_ble_eq_true rfl, Nat.le_of_ble_eq_true rfl⟩ (fun _ H locs k1 hP hD hS => ?_)
  refine W.eq (g2 := F0 m 8 ls [.int (zz_i (sp_bt (x) (0) (100))), .ref (gr 0)]) rfl ?_
  have b1 := sp_bt_b (x) (0) (100)
  refine zz_if_ne (tgt := 15) hx hb dX3_step_8 (by decide) (by omega) (fun c2 => ?_) (fun c2 => ?_)
  · refine lv_aload_n hx hb dX3_step_15 rfl (lv_at hl 0 rfl) ?_
    refine va_get (D := D) (ci := 3) (v := .int (zz_i (σ 6 0))) (C := RX3) (T := TX3) (N := 23) hx hb hts hiX3 hown hK hP (0) rfl rfl 19 (by decide) hf94 (fun _ h9 => h9) rfl dX3_step_16 ?_
    refine zz_if_eq (tgt := 26) hx hb dX3_step_19 (by decide) (by omega) (fun c3 => ?_) (fun c3 => ?_)
    · refine lv_iconst (v := zz_i (0)) hx hb dX3_step_26 rfl ?_
      refine va_put (D := D) (ci := 3) (v := .int (zz_i (0))) (ty := .int) (C := RX3) (T := TX3) (N := 23) hx hb hts hiX3 tyX3 tyX3_ok nmX3 hown hK hP hD hS (0) rfl rfl 0 (by decide) hf63 (fun _ h9 => h9) rfl (by decide +kernel) rfl rfl (Nat.le_of_ble_eq_true rfl) dX3_step_27 (fun H locs hP hD hS => ?_)
      have hP : va_P D zz_cl (rk_ cy gr 0 σ) H := hP
      have hD : va_D A (rk_ cy gr 0 σ) := hD
      refine lv_aload_n hx hb dX3_step_30 rfl (lv_at hl 0 rfl) ?_
      refine va_get (D := D) (ci := 3) (v := .int (zz_i (0))) (C := RX3) (T := TX3) (N := 23) hx hb hts hiX3 hown hK hP (0) rfl rfl 0 (by decide) hf63 (fun _ h9 => h9) rfl dX3_step_31 ?_
      refine zz_if_le (tgt := 39) hx hb dX3_step_34 (by decide) (by omega) (fun c4 => ?_) (fun c4 => ?_)
      · refine lv_aload_n hx hb dX3_step_39 rfl (lv_at hl 0 rfl) ?_
        refine va_get (D := D) (ci := 3) (v := .int (zz_i (σ 5 0))) (C := RX3) (T := TX3) (N := 23) hx hb hts hiX3 hown hK hP (0) rfl rfl 14 (by decide) hf98 (fun _ h9 => h9) rfl dX3_step_40 ?_
        refine lv_istore_n (lv' := [(2, .int (zz_i (σ 5 0))), (0, .ref (gr 0)), (1, .int (zz_i (x)))]) hx hb dX3_step_43 rfl hl (by decide) rfl (fun ls hl => ?_)
        refine lv_iconst (v := zz_i (0)) hx hb dX3_step_44 rfl ?_
        refine lv_istore_n (lv' := [(3, .int (zz_i (0))), (2, .int (zz_i (σ 5 0))), (0, .ref (gr 0)), (1, .int (zz_i (x)))]) hx hb dX3_step_45 rfl hl (by decide) rfl (fun ls hl => ?_)
        refine zz_lp (α := Int × zz_S) (μ := fun z9 => (x - z9.1).toNat) (cf := fun _ => 0) (sf := fun _ => 0) (I := fun z9 H locs ls => (0 ≤ z9.1 ∧ z9.1 ≤ x) ∧ (z9.2 = it_ms σ z9.1.toNat) ∧ (iv_ z9.2) ∧ (z9.2 6 0 = 0 ∧ z9.2 2 0 = σ 2 0 + z9.1) ∧ va_P D zz_cl (rk_ cy gr 0 z9.2) H ∧ va_D A (rk_ cy gr 0 z9.2) ∧ va_S A s.heap H locs ∧ lv_has ls 5 [(0, .ref (gr 0)), (1, .int (zz_i (x))), (2, .int (zz_i (σ 5 0))), (3, .int (zz_i (z9.1)))]) ?_ (0, σ) _ _ _ ⟨(show 0 ≤ (0 : Int) ∧ (0 : Int) ≤ x from (by omega)), (show σ = it_ms σ (0 : Int).toNat from rfl), (show iv_ σ from hI), (show σ 6 0 = 0 ∧ σ 2 0 = σ 2 0 + (0 : Int) from ⟨by omega, by omega⟩), hP, hD, hS, lv_sub hl [2, 3, 1, 0] rfl⟩
        rintro ⟨j, τ⟩ H locs ls ⟨v1, v2, v3, v4, hP, hD, hS, hl⟩ ih46
        have v1 : 0 ≤ j ∧ j ≤ x := v1
        have v2 : τ = it_ms σ j.toNat := v2
        have v3 : iv_ τ := v3
        have v4 : τ 6 0 = 0 ∧ τ 2 0 = σ 2 0 + j := v4
        have hP : va_P D zz_cl (rk_ cy gr 0 τ) H := hP
        have hD : va_D A (rk_ cy gr 0 τ) := hD
        have hl : lv_has ls 5 [(0, .ref (gr 0)), (1, .int (zz_i (x))), (2, .int (zz_i (σ 5 0))), (3, .int (zz_i (j)))] := hl
        obtain ⟨⟨t1, t2, t3, t4, t5, t6, t7, t8, t9, t10⟩, -⟩ := id v3
        refine lv_iload_n hx hb dX3_step_46 rfl (lv_at hl 3 rfl) ?_
        refine lv_iload_n hx hb dX3_step_47 rfl (lv_at hl 1 rfl) ?_
        refine zz_icmp_ge (tgt := 95) hx hb dX3_step_48 (by decide) (by omega) (by omega) (fun c5 => ?_) (fun c5 => ?_)
        · refine lv_aload_n hx hb dX3_step_95 rfl (lv_at hl 0 rfl) ?_
          refine va_get (D := D) (ci := 3) (v := .int (zz_i (τ 5 0))) (C := RX3) (T := TX3) (N := 23) hx hb hts hiX3 hown hK hP (0) rfl rfl 14 (by decide) hf98 (fun _ h9 => h9) rfl dX3_step_96 ?_
          refine lv_iload_n hx hb dX3_step_99 rfl (lv_at hl 2 rfl) ?_
          refine zz_isub hx hb dX3_step_100 ?_
          have hv9 : an_ (k_stp σ x) (s_stp σ x 5 0 - σ 5 0) = (τ 5 0) - (σ 5 0) := by (have hk9 : k_stp σ x = 0 := by unfold k_stp; (repeat (first | rw [if_pos (by omega)] | rw [if_neg (by omega)])) <;> first | rfl | omega); rw [hk9]; show s_stp σ x 5 0 - σ 5 0 = (τ 5 0) - (σ 5 0); (have e9 : τ = s_stp σ x := by rw [v2, show j = x by omega]; rfl); rw [e9]
          have hw9 : rk_ cy gr (k_stp σ x) (nx_ (k_stp σ x) σ (s_stp σ x)) = rk_ cy gr 0 τ := by (have hk9 : k_stp σ x = 0 := by unfold k_stp; (repeat (first | rw [if_pos (by omega)] | rw [if_neg (by omega)])) <;> first | rfl | omega); rw [hk9]; show rk_ cy gr 0 (s_stp σ x) = rk_ cy gr 0 τ; (have e9 : τ = s_stp σ x := by rw [v2, show j = x by omega]; rfl); rw [e9]
          subst hAe
          exact W.iret (v := zz_i ((τ 5 0) - (σ 5 0))) hx hb hr (fun t ht hW => ⟨congrArg (fun z => Outcome.returned (some (Value.int (zz_i z)))) hv9.symm, ⟨(), trivial, by rw [ht, hw9]; exact hP, va_K.moved hW.alike hK, by rw [hw9]; exact hD⟩, hS.F ht⟩) hS.2.2 dX3_step_101
        · refine lv_aload_n hx hb dX3_step_51 rfl (lv_at hl 0 rfl) ?_
          refine lv_dup hx hb dX3_step_52 rfl ?_
          refine va_get (D := D) (ci := 3) (v := .int (zz_i (τ 2 0))) (C := RX3) (T := TX3) (N := 23) hx hb hts hiX3 hown hK hP (0) rfl rfl 3 (by decide) hf81 (fun _ h9 => h9) rfl dX3_step_53 ?_
          refine lv_iconst (v := zz_i (1)) hx hb dX3_step_56 rfl ?_
          refine zz_iadd hx hb dX3_step_57 ?_
          refine va_put (D := D) (ci := 3) (v := .int (zz_i ((τ 2 0) + 1))) (ty := .int) (C := RX3) (T := TX3) (N := 23) hx hb hts hiX3 tyX3 tyX3_ok nmX3 hown hK hP hD hS (0) rfl rfl 3 (by decide) hf81 (fun _ h9 => h9) rfl (by decide +kernel) rfl rfl (Nat.le_of_ble_eq_true rfl) dX3_step_58 (fun H locs hP hD hS => ?_)
          have hP : va_P D zz_cl (rk_ cy gr 0 (up_s τ 2 ((τ 2 0) + 1))) H := hP
          have hD : va_D A (rk_ cy gr 0 (up_s τ 2 ((τ 2 0) + 1))) := hD
          refine lv_iconst (v := zz_i (1)) hx hb dX3_step_61 rfl ?_
          refine lv_istore (lv' := [(4, .int (zz_i (1))), (0, .ref (gr 0)), (1, .int (zz_i (x))), (2, .int (zz_i (σ 5 0))), (3, .int (zz_i (j)))]) hx hb dX3_step_62 hl (by decide) rfl (fun ls hl => ?_)
          refine zz_lp (α := Int × zz_S) (μ := fun z9 => (τ 28 0 + 1 - z9.1).toNat) (cf := fun _ => 0) (sf := fun _ => 0) (I := fun z9 H locs ls => (1 ≤ z9.1 ∧ z9.1 ≤ τ 28 0 + 1) ∧ (z9.2 = it_pc (sp_s1 τ) (z9.1 - 1).toNat) ∧ (iv_ z9.2) ∧ (z9.2 28 0 = τ 28 0 ∧ z9.2 6 0 = 0) ∧ va_P D zz_cl (rk_ cy gr 0 z9.2) H ∧ va_D A (rk_ cy gr 0 z9.2) ∧ va_S A s.heap H locs ∧ lv_has ls 5 [(0, .ref (gr 0)), (1, .int (zz_i (x))), (2, .int (zz_i (σ 5 0))), (3, .int (zz_i (j))), (4, .int (zz_i (z9.1)))]) ?_ (1, (sp_s1 τ)) _ _ _ ⟨(show 1 ≤ (1 : Int) ∧ (1 : Int) ≤ τ 28 0 + 1 from (by omega)), (show (sp_s1 τ) = it_pc (sp_s1 τ) ((1 : Int) - 1).toNat from rfl), (show iv_ (sp_s1 τ) from (pv_s1 v3 (by omega))), (show (sp_s1 τ) 28 0 = τ 28 0 ∧ (sp_s1 τ) 6 0 = 0 from ⟨rfl, v4.1⟩), hP, hD, hS, lv_sub hl [1, 2, 3, 4, 0] rfl⟩
          rintro ⟨i, ρ⟩ H locs ls ⟨w1, w2, w3, w4, hP, hD, hS, hl⟩ ih64
          have w1 : 1 ≤ i ∧ i ≤ τ 28 0 + 1 := w1
          have w2 : ρ = it_pc (sp_s1 τ) (i - 1).toNat := w2
          have w3 : iv_ ρ := w3
          have w4 : ρ 28 0 = τ 28 0 ∧ ρ 6 0 = 0 := w4
          have hP : va_P D zz_cl (rk_ cy gr 0 ρ) H := hP
          have hD : va_D A (rk_ cy gr 0 ρ) := hD
          have hl : lv_has ls 5 [(0, .ref (gr 0)), (1, .int (zz_i (x))), (2, .int (zz_i (σ 5 0))), (3, .int (zz_i (j))), (4, .int (zz_i (i)))] := hl
          have s28 := w3.1.2.2.2.2.2.2.2.2.2
          have s00 := w3.1.1
          refine lv_iload hx hb dX3_step_64 (lv_at hl 4 rfl) ?_
          refine lv_aload_n hx hb dX3_step_66 rfl (lv_at hl 0 rfl) ?_
          refine zc_v (As := []) (rest := [.int (zz_i (i))]) (S := Unit) (pc := 67) ⟨hx, hb, hml, hown, hts⟩ (r_chutes l D cy gr 0 ρ _ w3.1) (cwV 0 hts gX3_step_X3_chutes rfl rfl rfl (by decide +kernel) ⟨Nat.le_of_ble_eq_true rfl, Nat.le_of_ble_eq_true rfl⟩) hK hP hD hS hA hE (va_recv hK hP (ci := 3) (q0 := 0) rfl rfl) rfl hl.1 rfl (Nat.le_of_ble_eq_true rfl) dX3_step_67 ⟨Nat.le_of_ble_eq_true rfl, Nat.le_of_ble_eq_true rfl⟩ (fun _ H locs k6 hP hD hS => ?_)
          refine W.eq (g2 := F0 m 70 ls [.int (zz_i (ρ 28 0)), .int (zz_i (i))]) rfl ?_
          refine zz_icmp_gt (tgt := 85) hx hb dX3_step_70 (by decide) (by omega) (by omega) (fun c7 => ?_) (fun c7 => ?_)
          · refine lv_aload_n hx hb dX3_step_85 rfl (lv_at hl 0 rfl) ?_
            refine zc_v (As := []) (rest := []) (S := Unit) (pc := 86) ⟨hx, hb, hml, hown, hts⟩ (r_atReader l D cy gr 0 ρ _ w3) (cwV 0 hts gX3_step_X3_atReader rfl rfl rfl (by decide +kernel) ⟨Nat.le_of_ble_eq_true rfl, Nat.le_of_ble_eq_true rfl⟩) hK hP hD hS hA hE (va_recv hK hP (ci := 3) (q0 := 0) rfl rfl) rfl hl.1 rfl (Nat.le_of_ble_eq_true rfl) dX3_step_86 ⟨Nat.le_of_ble_eq_true rfl, Nat.le_of_ble_eq_true rfl⟩ (fun _ H locs k8 hP hD hS => ?_)
            refine W.eq (g2 := F0 m 89 ls []) rfl ?_
            refine lv_iinc (v := zz_i (j + 1)) (lv' := [(3, .int (zz_i (j + 1))), (0, .ref (gr 0)), (1, .int (zz_i (x))), (2, .int (zz_i (σ 5 0))), (4, .int (zz_i (i)))]) hx hb dX3_step_89 hl (k := 3) rfl (zz_add _ _) (by decide) rfl (fun ls hl => ?_)
            refine lv_goto (tgt := 46) hx hb dX3_step_92 (by decide) ?_
            have hm9 := pv_ms v3 v4.1 (by omega)
            have hms : sp_ra ρ = sp_ms τ := by unfold sp_ms; rw [w2, show (i - 1).toNat = (τ 28 0).toNat by omega]
            exact ih46 (j + 1, (sp_ra ρ)) _ _ _ (show (x - (j + 1)).toNat < (x - j).toNat by omega) ⟨(show 0 ≤ (j + 1) ∧ (j + 1) ≤ x from (by omega)), (show (sp_ra ρ) = it_ms σ (j + 1).toNat from (by rw [← it_ms_n v2 (by omega)]; exact hms)), (show iv_ (sp_ra ρ) from (by rw [hms]; exact hm9.1)), (show (sp_ra ρ) 6 0 = 0 ∧ (sp_ra ρ) 2 0 = σ 2 0 + (j + 1) from (by rw [hms]; exact ⟨by rw [hm9.2.2.2.1]; exact v4.1, by rw [hm9.2.2.2.2]; omega⟩)), hP, hD, hS, lv_sub hl [1, 2, 3, 0] rfl⟩
          · refine lv_aload_n hx hb dX3_step_73 rfl (lv_at hl 0 rfl) ?_
            refine lv_iload hx hb dX3_step_74 (lv_at hl 4 rfl) ?_
            refine zc_v (As := [.int (zz_i (i))]) (rest := []) (S := Unit) (pc := 76) ⟨hx, hb, hml, hown, hts⟩ (r_atChute l D cy gr 0 ρ _ w3 (i) (by omega)) (cwV 1 hts gX3_step_X3_atChute rfl rfl rfl (by decide +kernel) ⟨Nat.le_of_ble_eq_true rfl, Nat.le_of_ble_eq_true rfl⟩) hK hP hD hS hA hE (va_recv hK hP (ci := 3) (q0 := 0) rfl rfl) rfl hl.1 rfl (Nat.le_of_ble_eq_true rfl) dX3_step_76 ⟨Nat.le_of_ble_eq_true rfl, Nat.le_of_ble_eq_true rfl⟩ (fun _ H locs k9 hP hD hS => ?_)
            refine W.eq (g2 := F0 m 79 ls []) rfl ?_
            refine lv_iinc (v := zz_i (i + 1)) (lv' := [(4, .int (zz_i (i + 1))), (0, .ref (gr 0)), (1, .int (zz_i (x))), (2, .int (zz_i (σ 5 0))), (3, .int (zz_i (j)))]) hx hb dX3_step_79 hl (k := 4) rfl (zz_add _ _) (by decide) rfl (fun ls hl => ?_)
            refine lv_goto (tgt := 64) hx hb dX3_step_82 (by decide) ?_
            exact ih64 (i + 1, (sp_pc ρ (i))) _ _ _ (show (τ 28 0 + 1 - (i + 1)).toNat < (τ 28 0 + 1 - i).toNat by omega) ⟨(show 1 ≤ (i + 1) ∧ (i + 1) ≤ τ 28 0 + 1 from (by omega)), (show (sp_pc ρ (i)) = it_pc (sp_s1 τ) ((i + 1) - 1).toNat from (it_pc_n w2 (by omega))), (show iv_ (sp_pc ρ (i)) from (pv_pc w3 w4.2 (by omega))), (show (sp_pc ρ (i)) 28 0 = τ 28 0 ∧ (sp_pc ρ (i)) 6 0 = 0 from ⟨by rw [kp_pc28]; exact w4.1, by rw [kp_pc6]; exact w4.2⟩), hP, hD, hS, lv_sub hl [1, 2, 3, 4, 0] rfl⟩
      · exact absurd c4 (by omega)
    · refine lv_iconst (v := zz_i (2)) hx hb dX3_step_22 rfl ?_
      refine lv_goto (tgt := 27) hx hb dX3_step_23 (by decide) ?_
      refine va_put (D := D) (ci := 3) (v := .int (zz_i (2))) (ty := .int) (C := RX3) (T := TX3) (N := 23) hx hb hts hiX3 tyX3 tyX3_ok nmX3 hown hK hP hD hS (0) rfl rfl 0 (by decide) hf63 (fun _ h9 => h9) rfl (by decide +kernel) rfl rfl (Nat.le_of_ble_eq_true rfl) dX3_step_27 (fun H locs hP hD hS => ?_)
      have hP : va_P D zz_cl (rk_ cy gr 2 σ) H := hP
      have hD : va_D A (rk_ cy gr 2 σ) := hD
      refine lv_aload_n hx hb dX3_step_30 rfl (lv_at hl 0 rfl) ?_
      refine va_get (D := D) (ci := 3) (v := .int (zz_i (2))) (C := RX3) (T := TX3) (N := 23) hx hb hts hiX3 hown hK hP (0) rfl rfl 0 (by decide) hf63 (fun _ h9 => h9) rfl dX3_step_31 ?_
      refine zz_if_le (tgt := 39) hx hb dX3_step_34 (by decide) (by omega) (fun c10 => ?_) (fun c10 => ?_)
      · exact absurd c10 (by omega)
      · refine lv_iconst (v := zz_i (0)) hx hb dX3_step_37 rfl ?_
        have hv9 : an_ (k_stp σ x) (s_stp σ x 5 0 - σ 5 0) = 0 := by (have hk9 : k_stp σ x = 2 := by unfold k_stp; (repeat (first | rw [if_pos (by omega)] | rw [if_neg (by omega)])) <;> first | rfl | omega); rw [hk9]; rfl
        have hw9 : rk_ cy gr (k_stp σ x) (nx_ (k_stp σ x) σ (s_stp σ x)) = rk_ cy gr 2 σ := by (have hk9 : k_stp σ x = 2 := by unfold k_stp; (repeat (first | rw [if_pos (by omega)] | rw [if_neg (by omega)])) <;> first | rfl | omega); rw [hk9]; rfl
        subst hAe
        exact W.iret (v := zz_i (0)) hx hb hr (fun t ht hW => ⟨congrArg (fun z => Outcome.returned (some (Value.int (zz_i z)))) hv9.symm, ⟨(), trivial, by rw [ht, hw9]; exact hP, va_K.moved hW.alike hK, by rw [hw9]; exact hD⟩, hS.F ht⟩) hS.2.2 dX3_step_38
  · refine lv_iconst (v := zz_i (1)) hx hb dX3_step_11 rfl ?_
    refine lv_goto (tgt := 27) hx hb dX3_step_12 (by decide) ?_
    refine va_put (D := D) (ci := 3) (v := .int (zz_i (1))) (ty := .int) (C := RX3) (T := TX3) (N := 23) hx hb hts hiX3 tyX3 tyX3_ok nmX3 hown hK hP hD hS (0) rfl rfl 0 (by decide) hf63 (fun _ h9 => h9) rfl (by decide +kernel) rfl rfl (Nat.le_of_ble_eq_true rfl) dX3_step_27 (fun H locs hP hD hS => ?_)
    have hP : va_P D zz_cl (rk_ cy gr 1 σ) H := hP
    have hD : va_D A (rk_ cy gr 1 σ) := hD
    refine lv_aload_n hx hb dX3_step_30 rfl (lv_at hl 0 rfl) ?_
    refine va_get (D := D) (ci := 3) (v := .int (zz_i (1))) (C := RX3) (T := TX3) (N := 23) hx hb hts hiX3 hown hK hP (0) rfl rfl 0 (by decide) hf63 (fun _ h9 => h9) rfl dX3_step_31 ?_
    refine zz_if_le (tgt := 39) hx hb dX3_step_34 (by decide) (by omega) (fun c11 => ?_) (fun c11 => ?_)
    · exact absurd c11 (by omega)
    · refine lv_iconst (v := zz_i (0)) hx hb dX3_step_37 rfl ?_
      have hv9 : an_ (k_stp σ x) (s_stp σ x 5 0 - σ 5 0) = 0 := by (have hk9 : k_stp σ x = 1 := by unfold k_stp; (repeat (first | rw [if_pos (by omega)] | rw [if_neg (by omega)])) <;> first | rfl | omega); rw [hk9]; rfl
      have hw9 : rk_ cy gr (k_stp σ x) (nx_ (k_stp σ x) σ (s_stp σ x)) = rk_ cy gr 1 σ := by (have hk9 : k_stp σ x = 1 := by unfold k_stp; (repeat (first | rw [if_pos (by omega)] | rw [if_neg (by omega)])) <;> first | rfl | omega); rw [hk9]; rfl
      subst hAe
      exact W.iret (v := zz_i (0)) hx hb hr (fun t ht hW => ⟨congrArg (fun z => Outcome.returned (some (Value.int (zz_i z)))) hv9.symm, ⟨(), trivial, by rw [ht, hw9]; exact hP, va_K.moved hW.alike hK, by rw [hw9]; exact hD⟩, hS.F ht⟩) hS.2.2 dX3_step_38
end
