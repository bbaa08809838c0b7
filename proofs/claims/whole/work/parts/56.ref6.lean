section
set_option maxHeartbeats 4000000 in
set_option maxRecDepth 100000 in
theorem r_count (l : Launch) (D : va_G) (cy gr : Nat → Nat) (kc : Int) (σ : zz_S) (sz : Nat) (hI : iv_ σ) (x : Int) (q_x : (-2147483648 ≤ x ∧ x < 2147483648)) : Met l yX3_count wsX3_count ({ frames := 1, cells := 0, slots := 0, locals := 20 }) (ct_P D cy [.ref (gr 0), .int (zz_i (x))] (rk_ cy gr kc σ) sz) (ct_Q D cy (rk_ cy gr kc σ) sz (some (.int (zz_i (v_cou σ x)))) (fun _ : Unit => True) (fun _ => rk_ cy gr 0 σ)) 0 0 (va_A (rk_ cy gr kc σ) sz) := by
  refine Met.ofW (cc := cX3_count) (maxL := 4) (ret := (some .int)) (by decide) rfl ?_
  intro p e s m args below meth c s₁ B hml hv
  obtain ⟨rfl, rfl, hP, hK, hD0, hE⟩ := hv
  have hx := B.exec
  have hb := B.bytes
  have hr := B.returns
  have hts := atoms_spec (ws := wsX3_count) B.pre
  have hown : s.vm.findClass RX3 = some m.cls := findClass_of_methodNamed B.named
  have hlocks := B.notSynchronized
  have hD := hD0.self (sz := s.heap.size)
  obtain ⟨A, hAe⟩ : ∃ A, A = va_A (rk_ cy gr kc σ) s.heap.size := ⟨_, rfl⟩
  rw [← hAe] at hD hE
  have hA : ∀ q : Nat, s.heap.size ≤ q → A q := fun q h => by rw [hAe]; exact Or.inr h
  have hS : va_S A s.heap s.heap [] := va_S.rf
  have hP : va_P D zz_cl (rk_ cy gr kc σ) s.heap := hP
  have hl := lv_entry ([.ref (gr 0), .int (zz_i (x))]) (n := 4) (Nat.le_of_ble_eq_true rfl)
  rw [lg_entry_eq]
  generalize (lg_sl ([.ref (gr 0), .int (zz_i (x))]) ++ List.replicate (4 - (lg_sl ([.ref (gr 0), .int (zz_i (x))])).length) Slot.unset).toArray = ls at hl ⊢
  have hl : lv_has ls 4 [(0, .ref (gr 0)), (1, .int (zz_i (x)))] := hl
  obtain ⟨⟨j1, j2, j3, j4, j5, j6, j7, j8, j9, j10⟩, j11, j12, j13, j14, j15, j16, j17, j18, j19, j20, j21, j22, j23, j24⟩ := id hI
  have hiX3 : ∀ w ∈ wsX30, w ∈ wsX3_count := by decide +kernel
  have hf63 := hts (.fieldLink RX3 63 "SorterStepsModel" "code" "I") (by decide +kernel)
  have hf57 := hts (.fieldLink RX3 57 "SorterStepsModel" "trays" "I") (by decide +kernel)
  have hf66 := hts (.fieldLink RX3 66 "SorterStepsModel" "items" "I") (by decide +kernel)
  have hf24 := hts (.fieldLink RX3 24 "SorterStepsModel" "state" "[I") (by decide +kernel)
  have hf13 := hts (.fieldLink RX3 13 "SorterStepsModel" "on" "[I") (by decide +kernel)
  have hf94 := hts (.fieldLink RX3 94 "SorterStepsModel" "jammed" "Z") (by decide +kernel)
  have hf81 := hts (.fieldLink RX3 81 "SorterStepsModel" "steps" "I") (by decide +kernel)
  refine lv_aload_n hx hb dX3_count_0 rfl (lv_at hl 0 rfl) ?_
  refine lv_iconst (v := zz_i (0)) hx hb dX3_count_1 rfl ?_
  refine va_put (D := D) (ci := 3) (v := .int (zz_i (0))) (ty := .int) (C := RX3) (T := TX3) (N := 23) hx hb hts hiX3 tyX3 tyX3_ok nmX3 hown hK hP hD hS (0) rfl rfl 0 (by decide) hf63 (fun _ h9 => h9) rfl (by decide +kernel) rfl rfl (Nat.le_of_ble_eq_true rfl) dX3_count_2 (fun H locs hP hD hS => ?_)
  have hP : va_P D zz_cl (rk_ cy gr 0 σ) H := hP
  have hD : va_D A (rk_ cy gr 0 σ) := hD
  refine lv_iload_n hx hb dX3_count_5 rfl (lv_at hl 1 rfl) ?_
  refine zz_if_ne (tgt := 14) hx hb dX3_count_6 (by decide) (by omega) (fun c1 => ?_) (fun c1 => ?_)
  · refine lv_iload_n hx hb dX3_count_14 rfl (lv_at hl 1 rfl) ?_
    refine lv_iconst (v := zz_i (1)) hx hb dX3_count_15 rfl ?_
    refine zz_icmp_ne (tgt := 24) hx hb dX3_count_16 (by decide) (by omega) (by omega) (fun c2 => ?_) (fun c2 => ?_)
    · refine lv_iload_n hx hb dX3_count_24 rfl (lv_at hl 1 rfl) ?_
      refine lv_iconst (v := zz_i (3)) hx hb dX3_count_25 rfl ?_
      refine zz_icmp_ne (tgt := 34) hx hb dX3_count_26 (by decide) (by omega) (by omega) (fun c3 => ?_) (fun c3 => ?_)
      · refine lv_iload_n hx hb dX3_count_34 rfl (lv_at hl 1 rfl) ?_
        refine lv_iconst (v := zz_i (4)) hx hb dX3_count_35 rfl ?_
        refine zz_icmp_ne (tgt := 44) hx hb dX3_count_36 (by decide) (by omega) (by omega) (fun c4 => ?_) (fun c4 => ?_)
        · refine lv_iload_n hx hb dX3_count_44 rfl (lv_at hl 1 rfl) ?_
          refine lv_bipush (v := zz_i (6)) hx hb dX3_count_45 (by decide) ?_
          refine zz_icmp_ne (tgt := 63) hx hb dX3_count_47 (by decide) (by omega) (by omega) (fun c5 => ?_) (fun c5 => ?_)
          · refine lv_iconst (v := zz_i (0)) hx hb dX3_count_63 rfl ?_
            refine lv_istore_n (lv' := [(2, .int (zz_i (0))), (0, .ref (gr 0)), (1, .int (zz_i (x)))]) hx hb dX3_count_64 rfl hl (by decide) rfl (fun ls hl => ?_)
            refine lv_iconst (v := zz_i (0)) hx hb dX3_count_65 rfl ?_
            refine lv_istore_n (lv' := [(3, .int (zz_i (0))), (2, .int (zz_i (0))), (0, .ref (gr 0)), (1, .int (zz_i (x)))]) hx hb dX3_count_66 rfl hl (by decide) rfl (fun ls hl => ?_)
            refine zz_lp (α := Int × Int) (μ := fun z9 => (σ 0 0 - z9.1).toNat) (cf := fun _ => 0) (sf := fun _ => 0) (I := fun z9 H locs ls => (0 ≤ z9.1 ∧ z9.1 ≤ σ 0 0) ∧ ((x = 2 ∧ z9.2 = sm_ (f_et σ) z9.1.toNat) ∨ (x ≠ 2 ∧ z9.2 = 0 ∧ z9.1 = 0)) ∧ va_P D zz_cl (rk_ cy gr 0 σ) H ∧ va_D A (rk_ cy gr 0 σ) ∧ va_S A s.heap H locs ∧ lv_has ls 4 [(0, .ref (gr 0)), (1, .int (zz_i (x))), (2, .int (zz_i (z9.2))), (3, .int (zz_i (z9.1)))]) ?_ (0, 0) _ _ _ ⟨(show 0 ≤ (0 : Int) ∧ (0 : Int) ≤ σ 0 0 from (by omega)), (show (x = 2 ∧ (0 : Int) = sm_ (f_et σ) (0 : Int).toNat) ∨ (x ≠ 2 ∧ (0 : Int) = 0 ∧ (0 : Int) = 0) from (by by_cases q : x = 2; exact Or.inl ⟨q, rfl⟩; exact Or.inr ⟨q, rfl, rfl⟩)), hP, hD, hS, lv_sub hl [2, 3, 1, 0] rfl⟩
            rintro ⟨j, a⟩ H locs ls ⟨v1, v2, hP, hD, hS, hl⟩ ih67
            have v1 : 0 ≤ j ∧ j ≤ σ 0 0 := v1
            have v2 : (x = 2 ∧ a = sm_ (f_et σ) j.toNat) ∨ (x ≠ 2 ∧ a = 0 ∧ j = 0) := v2
            have hP : va_P D zz_cl (rk_ cy gr 0 σ) H := hP
            have hD : va_D A (rk_ cy gr 0 σ) := hD
            have hl : lv_has ls 4 [(0, .ref (gr 0)), (1, .int (zz_i (x))), (2, .int (zz_i (a))), (3, .int (zz_i (j)))] := hl
            have v4 := f_et_b σ j
            have h10 := j11 j
            refine lv_iload_n hx hb dX3_count_67 rfl (lv_at hl 3 rfl) ?_
            refine lv_aload_n hx hb dX3_count_68 rfl (lv_at hl 0 rfl) ?_
            refine va_get (D := D) (ci := 3) (v := .int (zz_i (σ 0 0))) (C := RX3) (T := TX3) (N := 23) hx hb hts hiX3 hown hK hP (0) rfl rfl 1 (by decide) hf57 (fun _ h9 => h9) rfl dX3_count_69 ?_
            refine zz_icmp_ge (tgt := 103) hx hb dX3_count_72 (by decide) (by omega) (by omega) (fun c6 => ?_) (fun c6 => ?_)
            · refine lv_iconst (v := zz_i (1)) hx hb dX3_count_103 rfl ?_
              refine lv_istore_n (lv' := [(3, .int (zz_i (1))), (0, .ref (gr 0)), (1, .int (zz_i (x))), (2, .int (zz_i (a)))]) hx hb dX3_count_104 rfl hl (by decide) rfl (fun ls hl => ?_)
              refine zz_lp (α := Int × Int) (μ := fun z9 => (σ 4 0 + 1 - z9.1).toNat) (cf := fun _ => 0) (sf := fun _ => 0) (I := fun z9 H locs ls => (1 ≤ z9.1 ∧ z9.1 ≤ σ 4 0 + 1) ∧ ((x = 5 ∧ z9.2 = sm_ (f_ou σ) (z9.1 - 1).toNat) ∨ (x = 2 ∧ z9.2 = sm_ (f_et σ) (σ 0 0).toNat ∧ z9.1 = 1) ∨ (x ≠ 2 ∧ x ≠ 5 ∧ z9.1 = 1)) ∧ va_P D zz_cl (rk_ cy gr 0 σ) H ∧ va_D A (rk_ cy gr 0 σ) ∧ va_S A s.heap H locs ∧ lv_has ls 4 [(0, .ref (gr 0)), (1, .int (zz_i (x))), (2, .int (zz_i (z9.2))), (3, .int (zz_i (z9.1)))]) ?_ (1, a) _ _ _ ⟨(show 1 ≤ (1 : Int) ∧ (1 : Int) ≤ σ 4 0 + 1 from (by omega)), (show (x = 5 ∧ a = sm_ (f_ou σ) ((1 : Int) - 1).toNat) ∨ (x = 2 ∧ a = sm_ (f_et σ) (σ 0 0).toNat ∧ (1 : Int) = 1) ∨ (x ≠ 2 ∧ x ≠ 5 ∧ (1 : Int) = 1) from (cnt_0 v2 (by omega))), hP, hD, hS, lv_sub hl [1, 2, 3, 0] rfl⟩
              rintro ⟨i, b⟩ H locs ls ⟨u1, u2, hP, hD, hS, hl⟩ ih105
              have u1 : 1 ≤ i ∧ i ≤ σ 4 0 + 1 := u1
              have u2 : (x = 5 ∧ b = sm_ (f_ou σ) (i - 1).toNat) ∨ (x = 2 ∧ b = sm_ (f_et σ) (σ 0 0).toNat ∧ i = 1) ∨ (x ≠ 2 ∧ x ≠ 5 ∧ i = 1) := u2
              have hP : va_P D zz_cl (rk_ cy gr 0 σ) H := hP
              have hD : va_D A (rk_ cy gr 0 σ) := hD
              have hl : lv_has ls 4 [(0, .ref (gr 0)), (1, .int (zz_i (x))), (2, .int (zz_i (b))), (3, .int (zz_i (i)))] := hl
              have w4 := f_ou_b σ (i - 1)
              rw [show i - 1 + 1 = i by omega] at w4
              refine lv_iload_n hx hb dX3_count_105 rfl (lv_at hl 3 rfl) ?_
              refine lv_aload_n hx hb dX3_count_106 rfl (lv_at hl 0 rfl) ?_
              refine va_get (D := D) (ci := 3) (v := .int (zz_i (σ 4 0))) (C := RX3) (T := TX3) (N := 23) hx hb hts hiX3 hown hK hP (0) rfl rfl 7 (by decide) hf66 (fun _ h9 => h9) rfl dX3_count_107 ?_
              refine zz_icmp_gt (tgt := 142) hx hb dX3_count_110 (by decide) (by omega) (by omega) (fun c7 => ?_) (fun c7 => ?_)
              · refine lv_iload_n hx hb dX3_count_142 rfl (lv_at hl 1 rfl) ?_
                refine lv_iconst (v := zz_i (2)) hx hb dX3_count_143 rfl ?_
                refine zz_icmp_eq (tgt := 152) hx hb dX3_count_144 (by decide) (by omega) (by omega) (fun c8 => ?_) (fun c8 => ?_)
                · refine lv_iload_n hx hb dX3_count_152 rfl (lv_at hl 2 rfl) ?_
                  refine lv_goto (tgt := 157) hx hb dX3_count_153 (by decide) ?_
                  have hv9 : v_cou σ x = b := by (have e9 : x = 5 → sm_ (f_ou σ) (i - 1).toNat = sm_ (f_ou σ) (σ 4 0).toNat := fun q => by rw [show i - 1 = σ 4 0 by omega]); unfold v_cou; (repeat (first | rw [if_pos (by omega)] | rw [if_neg (by omega)])) <;> first | rfl | omega
                  have hw9 : rk_ cy gr 0 σ = rk_ cy gr 0 σ := by rfl
                  subst hAe
                  exact W.iret (v := zz_i (b)) hx hb hr (fun t ht hW => ⟨congrArg (fun z => Outcome.returned (some (Value.int (zz_i z)))) hv9.symm, ⟨(), trivial, by rw [ht, hw9]; exact hP, va_K.moved hW.alike hK, by rw [hw9]; exact hD⟩, hS.F ht⟩) hS.2.2 dX3_count_157
                · refine lv_iload_n hx hb dX3_count_147 rfl (lv_at hl 1 rfl) ?_
                  refine lv_iconst (v := zz_i (5)) hx hb dX3_count_148 rfl ?_
                  refine zz_icmp_ne (tgt := 156) hx hb dX3_count_149 (by decide) (by omega) (by omega) (fun c9 => ?_) (fun c9 => ?_)
                  · refine lv_iconst (v := zz_i (-1)) hx hb dX3_count_156 rfl ?_
                    have hv9 : v_cou σ x = -1 := by unfold v_cou; (repeat (first | rw [if_pos (by omega)] | rw [if_neg (by omega)])) <;> first | rfl | omega
                    have hw9 : rk_ cy gr 0 σ = rk_ cy gr 0 σ := by rfl
                    subst hAe
                    exact W.iret (v := zz_i (-1)) hx hb hr (fun t ht hW => ⟨congrArg (fun z => Outcome.returned (some (Value.int (zz_i z)))) hv9.symm, ⟨(), trivial, by rw [ht, hw9]; exact hP, va_K.moved hW.alike hK, by rw [hw9]; exact hD⟩, hS.F ht⟩) hS.2.2 dX3_count_157
                  · refine lv_iload_n hx hb dX3_count_152 rfl (lv_at hl 2 rfl) ?_
                    refine lv_goto (tgt := 157) hx hb dX3_count_153 (by decide) ?_
                    have hv9 : v_cou σ x = b := by (have e9 : x = 5 → sm_ (f_ou σ) (i - 1).toNat = sm_ (f_ou σ) (σ 4 0).toNat := fun q => by rw [show i - 1 = σ 4 0 by omega]); unfold v_cou; (repeat (first | rw [if_pos (by omega)] | rw [if_neg (by omega)])) <;> first | rfl | omega
                    have hw9 : rk_ cy gr 0 σ = rk_ cy gr 0 σ := by rfl
                    subst hAe
                    exact W.iret (v := zz_i (b)) hx hb hr (fun t ht hW => ⟨congrArg (fun z => Outcome.returned (some (Value.int (zz_i z)))) hv9.symm, ⟨(), trivial, by rw [ht, hw9]; exact hP, va_K.moved hW.alike hK, by rw [hw9]; exact hD⟩, hS.F ht⟩) hS.2.2 dX3_count_157
              · refine lv_iload_n hx hb dX3_count_113 rfl (lv_at hl 1 rfl) ?_
                refine lv_iconst (v := zz_i (5)) hx hb dX3_count_114 rfl ?_
                refine zz_icmp_ne (tgt := 142) hx hb dX3_count_115 (by decide) (by omega) (by omega) (fun c10 => ?_) (fun c10 => ?_)
                · refine lv_iload_n hx hb dX3_count_142 rfl (lv_at hl 1 rfl) ?_
                  refine lv_iconst (v := zz_i (2)) hx hb dX3_count_143 rfl ?_
                  refine zz_icmp_eq (tgt := 152) hx hb dX3_count_144 (by decide) (by omega) (by omega) (fun c11 => ?_) (fun c11 => ?_)
                  · refine lv_iload_n hx hb dX3_count_152 rfl (lv_at hl 2 rfl) ?_
                    refine lv_goto (tgt := 157) hx hb dX3_count_153 (by decide) ?_
                    have hv9 : v_cou σ x = b := by (have e9 : x = 5 → sm_ (f_ou σ) (i - 1).toNat = sm_ (f_ou σ) (σ 4 0).toNat := fun q => by rw [show i - 1 = σ 4 0 by omega]); unfold v_cou; (repeat (first | rw [if_pos (by omega)] | rw [if_neg (by omega)])) <;> first | rfl | omega
                    have hw9 : rk_ cy gr 0 σ = rk_ cy gr 0 σ := by rfl
                    subst hAe
                    exact W.iret (v := zz_i (b)) hx hb hr (fun t ht hW => ⟨congrArg (fun z => Outcome.returned (some (Value.int (zz_i z)))) hv9.symm, ⟨(), trivial, by rw [ht, hw9]; exact hP, va_K.moved hW.alike hK, by rw [hw9]; exact hD⟩, hS.F ht⟩) hS.2.2 dX3_count_157
                  · refine lv_iload_n hx hb dX3_count_147 rfl (lv_at hl 1 rfl) ?_
                    refine lv_iconst (v := zz_i (5)) hx hb dX3_count_148 rfl ?_
                    refine zz_icmp_ne (tgt := 156) hx hb dX3_count_149 (by decide) (by omega) (by omega) (fun c12 => ?_) (fun c12 => ?_)
                    · refine lv_iconst (v := zz_i (-1)) hx hb dX3_count_156 rfl ?_
                      have hv9 : v_cou σ x = -1 := by unfold v_cou; (repeat (first | rw [if_pos (by omega)] | rw [if_neg (by omega)])) <;> first | rfl | omega
                      have hw9 : rk_ cy gr 0 σ = rk_ cy gr 0 σ := by rfl
                      subst hAe
                      exact W.iret (v := zz_i (-1)) hx hb hr (fun t ht hW => ⟨congrArg (fun z => Outcome.returned (some (Value.int (zz_i z)))) hv9.symm, ⟨(), trivial, by rw [ht, hw9]; exact hP, va_K.moved hW.alike hK, by rw [hw9]; exact hD⟩, hS.F ht⟩) hS.2.2 dX3_count_157
                    · refine lv_iload_n hx hb dX3_count_152 rfl (lv_at hl 2 rfl) ?_
                      refine lv_goto (tgt := 157) hx hb dX3_count_153 (by decide) ?_
                      have hv9 : v_cou σ x = b := by (have e9 : x = 5 → sm_ (f_ou σ) (i - 1).toNat = sm_ (f_ou σ) (σ 4 0).toNat := fun q => by rw [show i - 1 = σ 4 0 by omega]); unfold v_cou; (repeat (first | rw [if_pos (by omega)] | rw [if_neg (by omega)])) <;> first | rfl | omega
                      have hw9 : rk_ cy gr 0 σ = rk_ cy gr 0 σ := by rfl
                      subst hAe
                      exact W.iret (v := zz_i (b)) hx hb hr (fun t ht hW => ⟨congrArg (fun z => Outcome.returned (some (Value.int (zz_i z)))) hv9.symm, ⟨(), trivial, by rw [ht, hw9]; exact hP, va_K.moved hW.alike hK, by rw [hw9]; exact hD⟩, hS.F ht⟩) hS.2.2 dX3_count_157
                · refine lv_iload_n hx hb dX3_count_118 rfl (lv_at hl 2 rfl) ?_
                  refine lv_aload_n hx hb dX3_count_119 rfl (lv_at hl 0 rfl) ?_
                  refine va_get (D := D) (ci := 3) (v := .ref (gr 4)) (C := RX3) (T := TX3) (N := 23) hx hb hts hiX3 hown hK hP (0) rfl rfl 9 (by decide) hf24 (fun _ h9 => h9) rfl dX3_count_120 ?_
                  refine lv_iload_n hx hb dX3_count_123 rfl (lv_at hl 3 rfl) ?_
                  have hit := j13 i (by omega) (by omega)
                  refine zz_iald hx hb hK hP 4 0 rfl rfl (show 0 ≤ i ∧ i < ((61 : Nat) : Int) by omega) (show 61 < 2147483648 by omega) dX3_count_124 ?_
                  refine lv_iconst (v := zz_i (2)) hx hb dX3_count_125 rfl ?_
                  refine zz_icmp_ne (tgt := 133) hx hb dX3_count_126 (by decide) (by omega) (by omega) (fun c13 => ?_) (fun c13 => ?_)
                  · refine lv_iconst (v := zz_i (0)) hx hb dX3_count_133 rfl ?_
                    refine zz_iadd hx hb dX3_count_134 ?_
                    refine lv_istore_n (lv' := [(2, .int (zz_i (b + 0))), (0, .ref (gr 0)), (1, .int (zz_i (x))), (3, .int (zz_i (i)))]) hx hb dX3_count_135 rfl hl (by decide) rfl (fun ls hl => ?_)
                    refine lv_iinc (v := zz_i (i + 1)) (lv' := [(3, .int (zz_i (i + 1))), (2, .int (zz_i (b + 0))), (0, .ref (gr 0)), (1, .int (zz_i (x)))]) hx hb dX3_count_136 hl (k := 3) rfl (zz_add _ _) (by decide) rfl (fun ls hl => ?_)
                    refine lv_goto (tgt := 105) hx hb dX3_count_139 (by decide) ?_
                    exact ih105 (i + 1, b + 0) _ _ _ (show (σ 4 0 + 1 - (i + 1)).toNat < (σ 4 0 + 1 - i).toNat by omega) ⟨(show 1 ≤ (i + 1) ∧ (i + 1) ≤ σ 4 0 + 1 from (by omega)), (show (x = 5 ∧ (b + 0) = sm_ (f_ou σ) ((i + 1) - 1).toNat) ∨ (x = 2 ∧ (b + 0) = sm_ (f_et σ) (σ 0 0).toNat ∧ (i + 1) = 1) ∨ (x ≠ 2 ∧ x ≠ 5 ∧ (i + 1) = 1) from (Or.inl ⟨by omega, by rw [show i + 1 - 1 = (i - 1) + 1 by omega, sm_s _ (show 0 ≤ i - 1 by omega)]; omega⟩)), hP, hD, hS, lv_sub hl [2, 3, 1, 0] rfl⟩
                  · refine lv_iconst (v := zz_i (1)) hx hb dX3_count_129 rfl ?_
                    refine lv_goto (tgt := 134) hx hb dX3_count_130 (by decide) ?_
                    refine zz_iadd hx hb dX3_count_134 ?_
                    refine lv_istore_n (lv' := [(2, .int (zz_i (b + 1))), (0, .ref (gr 0)), (1, .int (zz_i (x))), (3, .int (zz_i (i)))]) hx hb dX3_count_135 rfl hl (by decide) rfl (fun ls hl => ?_)
                    refine lv_iinc (v := zz_i (i + 1)) (lv' := [(3, .int (zz_i (i + 1))), (2, .int (zz_i (b + 1))), (0, .ref (gr 0)), (1, .int (zz_i (x)))]) hx hb dX3_count_136 hl (k := 3) rfl (zz_add _ _) (by decide) rfl (fun ls hl => ?_)
                    refine lv_goto (tgt := 105) hx hb dX3_count_139 (by decide) ?_
                    exact ih105 (i + 1, b + 1) _ _ _ (show (σ 4 0 + 1 - (i + 1)).toNat < (σ 4 0 + 1 - i).toNat by omega) ⟨(show 1 ≤ (i + 1) ∧ (i + 1) ≤ σ 4 0 + 1 from (by omega)), (show (x = 5 ∧ (b + 1) = sm_ (f_ou σ) ((i + 1) - 1).toNat) ∨ (x = 2 ∧ (b + 1) = sm_ (f_et σ) (σ 0 0).toNat ∧ (i + 1) = 1) ∨ (x ≠ 2 ∧ x ≠ 5 ∧ (i + 1) = 1) from (Or.inl ⟨by omega, by rw [show i + 1 - 1 = (i - 1) + 1 by omega, sm_s _ (show 0 ≤ i - 1 by omega)]; omega⟩)), hP, hD, hS, lv_sub hl [2, 3, 1, 0] rfl⟩
            · refine lv_iload_n hx hb dX3_count_75 rfl (lv_at hl 1 rfl) ?_
              refine lv_iconst (v := zz_i (2)) hx hb dX3_count_76 rfl ?_
              refine zz_icmp_ne (tgt := 103) hx hb dX3_count_77 (by decide) (by omega) (by omega) (fun c14 => ?_) (fun c14 => ?_)
              · refine lv_iconst (v := zz_i (1)) hx hb dX3_count_103 rfl ?_
                refine lv_istore_n (lv' := [(3, .int (zz_i (1))), (0, .ref (gr 0)), (1, .int (zz_i (x))), (2, .int (zz_i (a)))]) hx hb dX3_count_104 rfl hl (by decide) rfl (fun ls hl => ?_)
                refine zz_lp (α := Int × Int) (μ := fun z9 => (σ 4 0 + 1 - z9.1).toNat) (cf := fun _ => 0) (sf := fun _ => 0) (I := fun z9 H locs ls => (1 ≤ z9.1 ∧ z9.1 ≤ σ 4 0 + 1) ∧ ((x = 5 ∧ z9.2 = sm_ (f_ou σ) (z9.1 - 1).toNat) ∨ (x = 2 ∧ z9.2 = sm_ (f_et σ) (σ 0 0).toNat ∧ z9.1 = 1) ∨ (x ≠ 2 ∧ x ≠ 5 ∧ z9.1 = 1)) ∧ va_P D zz_cl (rk_ cy gr 0 σ) H ∧ va_D A (rk_ cy gr 0 σ) ∧ va_S A s.heap H locs ∧ lv_has ls 4 [(0, .ref (gr 0)), (1, .int (zz_i (x))), (2, .int (zz_i (z9.2))), (3, .int (zz_i (z9.1)))]) ?_ (1, a) _ _ _ ⟨(show 1 ≤ (1 : Int) ∧ (1 : Int) ≤ σ 4 0 + 1 from (by omega)), (show (x = 5 ∧ a = sm_ (f_ou σ) ((1 : Int) - 1).toNat) ∨ (x = 2 ∧ a = sm_ (f_et σ) (σ 0 0).toNat ∧ (1 : Int) = 1) ∨ (x ≠ 2 ∧ x ≠ 5 ∧ (1 : Int) = 1) from (cnt_0 v2 (by omega))), hP, hD, hS, lv_sub hl [1, 2, 3, 0] rfl⟩
                rintro ⟨i, b⟩ H locs ls ⟨u1, u2, hP, hD, hS, hl⟩ ih105
                have u1 : 1 ≤ i ∧ i ≤ σ 4 0 + 1 := u1
                have u2 : (x = 5 ∧ b = sm_ (f_ou σ) (i - 1).toNat) ∨ (x = 2 ∧ b = sm_ (f_et σ) (σ 0 0).toNat ∧ i = 1) ∨ (x ≠ 2 ∧ x ≠ 5 ∧ i = 1) := u2
                have hP : va_P D zz_cl (rk_ cy gr 0 σ) H := hP
                have hD : va_D A (rk_ cy gr 0 σ) := hD
                have hl : lv_has ls 4 [(0, .ref (gr 0)), (1, .int (zz_i (x))), (2, .int (zz_i (b))), (3, .int (zz_i (i)))] := hl
                have w4 := f_ou_b σ (i - 1)
                rw [show i - 1 + 1 = i by omega] at w4
                refine lv_iload_n hx hb dX3_count_105 rfl (lv_at hl 3 rfl) ?_
                refine lv_aload_n hx hb dX3_count_106 rfl (lv_at hl 0 rfl) ?_
                refine va_get (D := D) (ci := 3) (v := .int (zz_i (σ 4 0))) (C := RX3) (T := TX3) (N := 23) hx hb hts hiX3 hown hK hP (0) rfl rfl 7 (by decide) hf66 (fun _ h9 => h9) rfl dX3_count_107 ?_
                refine zz_icmp_gt (tgt := 142) hx hb dX3_count_110 (by decide) (by omega) (by omega) (fun c15 => ?_) (fun c15 => ?_)
                · refine lv_iload_n hx hb dX3_count_142 rfl (lv_at hl 1 rfl) ?_
                  refine lv_iconst (v := zz_i (2)) hx hb dX3_count_143 rfl ?_
                  refine zz_icmp_eq (tgt := 152) hx hb dX3_count_144 (by decide) (by omega) (by omega) (fun c16 => ?_) (fun c16 => ?_)
                  · refine lv_iload_n hx hb dX3_count_152 rfl (lv_at hl 2 rfl) ?_
                    refine lv_goto (tgt := 157) hx hb dX3_count_153 (by decide) ?_
                    have hv9 : v_cou σ x = b := by (have e9 : x = 5 → sm_ (f_ou σ) (i - 1).toNat = sm_ (f_ou σ) (σ 4 0).toNat := fun q => by rw [show i - 1 = σ 4 0 by omega]); unfold v_cou; (repeat (first | rw [if_pos (by omega)] | rw [if_neg (by omega)])) <;> first | rfl | omega
                    have hw9 : rk_ cy gr 0 σ = rk_ cy gr 0 σ := by rfl
                    subst hAe
                    exact W.iret (v := zz_i (b)) hx hb hr (fun t ht hW => ⟨congrArg (fun z => Outcome.returned (some (Value.int (zz_i z)))) hv9.symm, ⟨(), trivial, by rw [ht, hw9]; exact hP, va_K.moved hW.alike hK, by rw [hw9]; exact hD⟩, hS.F ht⟩) hS.2.2 dX3_count_157
                  · refine lv_iload_n hx hb dX3_count_147 rfl (lv_at hl 1 rfl) ?_
                    refine lv_iconst (v := zz_i (5)) hx hb dX3_count_148 rfl ?_
                    refine zz_icmp_ne (tgt := 156) hx hb dX3_count_149 (by decide) (by omega) (by omega) (fun c17 => ?_) (fun c17 => ?_)
                    · refine lv_iconst (v := zz_i (-1)) hx hb dX3_count_156 rfl ?_
                      have hv9 : v_cou σ x = -1 := by unfold v_cou; (repeat (first | rw [if_pos (by omega)] | rw [if_neg (by omega)])) <;> first | rfl | omega
                      have hw9 : rk_ cy gr 0 σ = rk_ cy gr 0 σ := by rfl
                      subst hAe
                      exact W.iret (v := zz_i (-1)) hx hb hr (fun t ht hW => ⟨congrArg (fun z => Outcome.returned (some (Value.int (zz_i z)))) hv9.symm, ⟨(), trivial, by rw [ht, hw9]; exact hP, va_K.moved hW.alike hK, by rw [hw9]; exact hD⟩, hS.F ht⟩) hS.2.2 dX3_count_157
                    · refine lv_iload_n hx hb dX3_count_152 rfl (lv_at hl 2 rfl) ?_
                      refine lv_goto (tgt := 157) hx hb dX3_count_153 (by decide) ?_
                      have hv9 : v_cou σ x = b := by (have e9 : x = 5 → sm_ (f_ou σ) (i - 1).toNat = sm_ (f_ou σ) (σ 4 0).toNat := fun q => by rw [show i - 1 = σ 4 0 by omega]); unfold v_cou; (repeat (first | rw [if_pos (by omega)] | rw [if_neg (by omega)])) <;> first | rfl | omega
                      have hw9 : rk_ cy gr 0 σ = rk_ cy gr 0 σ := by rfl
                      subst hAe
                      exact W.iret (v := zz_i (b)) hx hb hr (fun t ht hW => ⟨congrArg (fun z => Outcome.returned (some (Value.int (zz_i z)))) hv9.symm, ⟨(), trivial, by rw [ht, hw9]; exact hP, va_K.moved hW.alike hK, by rw [hw9]; exact hD⟩, hS.F ht⟩) hS.2.2 dX3_count_157
                · refine lv_iload_n hx hb dX3_count_113 rfl (lv_at hl 1 rfl) ?_
                  refine lv_iconst (v := zz_i (5)) hx hb dX3_count_114 rfl ?_
                  refine zz_icmp_ne (tgt := 142) hx hb dX3_count_115 (by decide) (by omega) (by omega) (fun c18 => ?_) (fun c18 => ?_)
                  · refine lv_iload_n hx hb dX3_count_142 rfl (lv_at hl 1 rfl) ?_
                    refine lv_iconst (v := zz_i (2)) hx hb dX3_count_143 rfl ?_
                    refine zz_icmp_eq (tgt := 152) hx hb dX3_count_144 (by decide) (by omega) (by omega) (fun c19 => ?_) (fun c19 => ?_)
                    · refine lv_iload_n hx hb dX3_count_152 rfl (lv_at hl 2 rfl) ?_
                      refine lv_goto (tgt := 157) hx hb dX3_count_153 (by decide) ?_
                      have hv9 : v_cou σ x = b := by (have e9 : x = 5 → sm_ (f_ou σ) (i - 1).toNat = sm_ (f_ou σ) (σ 4 0).toNat := fun q => by rw [show i - 1 = σ 4 0 by omega]); unfold v_cou; (repeat (first | rw [if_pos (by omega)] | rw [if_neg (by omega)])) <;> first | rfl | omega
                      have hw9 : rk_ cy gr 0 σ = rk_ cy gr 0 σ := by rfl
                      subst hAe
                      exact W.iret (v := zz_i (b)) hx hb hr (fun t ht hW => ⟨congrArg (fun z => Outcome.returned (some (Value.int (zz_i z)))) hv9.symm, ⟨(), trivial, by rw [ht, hw9]; exact hP, va_K.moved hW.alike hK, by rw [hw9]; exact hD⟩, hS.F ht⟩) hS.2.2 dX3_count_157
                    · refine lv_iload_n hx hb dX3_count_147 rfl (lv_at hl 1 rfl) ?_
                      refine lv_iconst (v := zz_i (5)) hx hb dX3_count_148 rfl ?_
                      refine zz_icmp_ne (tgt := 156) hx hb dX3_count_149 (by decide) (by omega) (by omega) (fun c20 => ?_) (fun c20 => ?_)
                      · refine lv_iconst (v := zz_i (-1)) hx hb dX3_count_156 rfl ?_
                        have hv9 : v_cou σ x = -1 := by unfold v_cou; (repeat (first | rw [if_pos (by omega)] | rw [if_neg (by omega)])) <;> first | rfl | omega
                        have hw9 : rk_ cy gr 0 σ = rk_ cy gr 0 σ := by rfl
                        subst hAe
                        exact W.iret (v := zz_i (-1)) hx hb hr (fun t ht hW => ⟨congrArg (fun z => Outcome.returned (some (Value.int (zz_i z)))) hv9.symm, ⟨(), trivial, by rw [ht, hw9]; exact hP, va_K.moved hW.alike hK, by rw [hw9]; exact hD⟩, hS.F ht⟩) hS.2.2 dX3_count_157
                      · refine lv_iload_n hx hb dX3_count_152 rfl (lv_at hl 2 rfl) ?_
                        refine lv_goto (tgt := 157) hx hb dX3_count_153 (by decide) ?_
                        have hv9 : v_cou σ x = b := by (have e9 : x = 5 → sm_ (f_ou σ) (i - 1).toNat = sm_ (f_ou σ) (σ 4 0).toNat := fun q => by rw [show i - 1 = σ 4 0 by omega]); unfold v_cou; (repeat (first | rw [if_pos (by omega)] | rw [if_neg (by omega)])) <;> first | rfl | omega
                        have hw9 : rk_ cy gr 0 σ = rk_ cy gr 0 σ := by rfl
                        subst hAe
                        exact W.iret (v := zz_i (b)) hx hb hr (fun t ht hW => ⟨congrArg (fun z => Outcome.returned (some (Value.int (zz_i z)))) hv9.symm, ⟨(), trivial, by rw [ht, hw9]; exact hP, va_K.moved hW.alike hK, by rw [hw9]; exact hD⟩, hS.F ht⟩) hS.2.2 dX3_count_157
                  · refine lv_iload_n hx hb dX3_count_118 rfl (lv_at hl 2 rfl) ?_
                    refine lv_aload_n hx hb dX3_count_119 rfl (lv_at hl 0 rfl) ?_
                    refine va_get (D := D) (ci := 3) (v := .ref (gr 4)) (C := RX3) (T := TX3) (N := 23) hx hb hts hiX3 hown hK hP (0) rfl rfl 9 (by decide) hf24 (fun _ h9 => h9) rfl dX3_count_120 ?_
                    refine lv_iload_n hx hb dX3_count_123 rfl (lv_at hl 3 rfl) ?_
                    have hit := j13 i (by omega) (by omega)
                    refine zz_iald hx hb hK hP 4 0 rfl rfl (show 0 ≤ i ∧ i < ((61 : Nat) : Int) by omega) (show 61 < 2147483648 by omega) dX3_count_124 ?_
                    refine lv_iconst (v := zz_i (2)) hx hb dX3_count_125 rfl ?_
                    refine zz_icmp_ne (tgt := 133) hx hb dX3_count_126 (by decide) (by omega) (by omega) (fun c21 => ?_) (fun c21 => ?_)
                    · refine lv_iconst (v := zz_i (0)) hx hb dX3_count_133 rfl ?_
                      refine zz_iadd hx hb dX3_count_134 ?_
                      refine lv_istore_n (lv' := [(2, .int (zz_i (b + 0))), (0, .ref (gr 0)), (1, .int (zz_i (x))), (3, .int (zz_i (i)))]) hx hb dX3_count_135 rfl hl (by decide) rfl (fun ls hl => ?_)
                      refine lv_iinc (v := zz_i (i + 1)) (lv' := [(3, .int (zz_i (i + 1))), (2, .int (zz_i (b + 0))), (0, .ref (gr 0)), (1, .int (zz_i (x)))]) hx hb dX3_count_136 hl (k := 3) rfl (zz_add _ _) (by decide) rfl (fun ls hl => ?_)
                      refine lv_goto (tgt := 105) hx hb dX3_count_139 (by decide) ?_
                      exact ih105 (i + 1, b + 0) _ _ _ (show (σ 4 0 + 1 - (i + 1)).toNat < (σ 4 0 + 1 - i).toNat by omega) ⟨(show 1 ≤ (i + 1) ∧ (i + 1) ≤ σ 4 0 + 1 from (by omega)), (show (x = 5 ∧ (b + 0) = sm_ (f_ou σ) ((i + 1) - 1).toNat) ∨ (x = 2 ∧ (b + 0) = sm_ (f_et σ) (σ 0 0).toNat ∧ (i + 1) = 1) ∨ (x ≠ 2 ∧ x ≠ 5 ∧ (i + 1) = 1) from (Or.inl ⟨by omega, by rw [show i + 1 - 1 = (i - 1) + 1 by omega, sm_s _ (show 0 ≤ i - 1 by omega)]; omega⟩)), hP, hD, hS, lv_sub hl [2, 3, 1, 0] rfl⟩
                    · refine lv_iconst (v := zz_i (1)) hx hb dX3_count_129 rfl ?_
                      refine lv_goto (tgt := 134) hx hb dX3_count_130 (by decide) ?_
                      refine zz_iadd hx hb dX3_count_134 ?_
                      refine lv_istore_n (lv' := [(2, .int (zz_i (b + 1))), (0, .ref (gr 0)), (1, .int (zz_i (x))), (3, .int (zz_i (i)))]) hx hb dX3_count_135 rfl hl (by decide) rfl (fun ls hl => ?_)
                      refine lv_iinc (v := zz_i (i + 1)) (lv' := [(3, .int (zz_i (i + 1))), (2, .int (zz_i (b + 1))), (0, .ref (gr 0)), (1, .int (zz_i (x)))]) hx hb dX3_count_136 hl (k := 3) rfl (zz_add _ _) (by decide) rfl (fun ls hl => ?_)
                      refine lv_goto (tgt := 105) hx hb dX3_count_139 (by decide) ?_
                      exact ih105 (i + 1, b + 1) _ _ _ (show (σ 4 0 + 1 - (i + 1)).toNat < (σ 4 0 + 1 - i).toNat by omega) ⟨(show 1 ≤ (i + 1) ∧ (i + 1) ≤ σ 4 0 + 1 from (by omega)), (show (x = 5 ∧ (b + 1) = sm_ (f_ou σ) ((i + 1) - 1).toNat) ∨ (x = 2 ∧ (b + 1) = sm_ (f_et σ) (σ 0 0).toNat ∧ (i + 1) = 1) ∨ (x ≠ 2 ∧ x ≠ 5 ∧ (i + 1) = 1) from (Or.inl ⟨by omega, by rw [show i + 1 - 1 = (i - 1) + 1 by omega, sm_s _ (show 0 ≤ i - 1 by omega)]; omega⟩)), hP, hD, hS, lv_sub hl [2, 3, 1, 0] rfl⟩
              · refine lv_iload_n hx hb dX3_count_80 rfl (lv_at hl 2 rfl) ?_
                refine lv_aload_n hx hb dX3_count_81 rfl (lv_at hl 0 rfl) ?_
                refine va_get (D := D) (ci := 3) (v := .ref (gr 1)) (C := RX3) (T := TX3) (N := 23) hx hb hts hiX3 hown hK hP (0) rfl rfl 5 (by decide) hf13 (fun _ h9 => h9) rfl dX3_count_82 ?_
                refine lv_iload_n hx hb dX3_count_85 rfl (lv_at hl 3 rfl) ?_
                refine zz_iald hx hb hK hP 1 0 rfl rfl (show 0 ≤ j ∧ j < ((40 : Nat) : Int) by omega) (show 40 < 2147483648 by omega) dX3_count_86 ?_
                refine zz_if_ne (tgt := 94) hx hb dX3_count_87 (by decide) (by omega) (fun c22 => ?_) (fun c22 => ?_)
                · refine lv_iconst (v := zz_i (0)) hx hb dX3_count_94 rfl ?_
                  refine zz_iadd hx hb dX3_count_95 ?_
                  refine lv_istore_n (lv' := [(2, .int (zz_i (a + 0))), (0, .ref (gr 0)), (1, .int (zz_i (x))), (3, .int (zz_i (j)))]) hx hb dX3_count_96 rfl hl (by decide) rfl (fun ls hl => ?_)
                  refine lv_iinc (v := zz_i (j + 1)) (lv' := [(3, .int (zz_i (j + 1))), (2, .int (zz_i (a + 0))), (0, .ref (gr 0)), (1, .int (zz_i (x)))]) hx hb dX3_count_97 hl (k := 3) rfl (zz_add _ _) (by decide) rfl (fun ls hl => ?_)
                  refine lv_goto (tgt := 67) hx hb dX3_count_100 (by decide) ?_
                  exact ih67 (j + 1, a + 0) _ _ _ (show (σ 0 0 - (j + 1)).toNat < (σ 0 0 - j).toNat by omega) ⟨(show 0 ≤ (j + 1) ∧ (j + 1) ≤ σ 0 0 from (by omega)), (show (x = 2 ∧ (a + 0) = sm_ (f_et σ) (j + 1).toNat) ∨ (x ≠ 2 ∧ (a + 0) = 0 ∧ (j + 1) = 0) from (Or.inl ⟨by omega, by rw [sm_s _ (show 0 ≤ j by omega)]; omega⟩)), hP, hD, hS, lv_sub hl [2, 3, 1, 0] rfl⟩
                · refine lv_iconst (v := zz_i (1)) hx hb dX3_count_90 rfl ?_
                  refine lv_goto (tgt := 95) hx hb dX3_count_91 (by decide) ?_
                  refine zz_iadd hx hb dX3_count_95 ?_
                  refine lv_istore_n (lv' := [(2, .int (zz_i (a + 1))), (0, .ref (gr 0)), (1, .int (zz_i (x))), (3, .int (zz_i (j)))]) hx hb dX3_count_96 rfl hl (by decide) rfl (fun ls hl => ?_)
                  refine lv_iinc (v := zz_i (j + 1)) (lv' := [(3, .int (zz_i (j + 1))), (2, .int (zz_i (a + 1))), (0, .ref (gr 0)), (1, .int (zz_i (x)))]) hx hb dX3_count_97 hl (k := 3) rfl (zz_add _ _) (by decide) rfl (fun ls hl => ?_)
                  refine lv_goto (tgt := 67) hx hb dX3_count_100 (by decide) ?_
                  exact ih67 (j + 1, a + 1) _ _ _ (show (σ 0 0 - (j + 1)).toNat < (σ 0 0 - j).toNat by omega) ⟨(show 0 ≤ (j + 1) ∧ (j + 1) ≤ σ 0 0 from (by omega)), (show (x = 2 ∧ (a + 1) = sm_ (f_et σ) (j + 1).toNat) ∨ (x ≠ 2 ∧ (a + 1) = 0 ∧ (j + 1) = 0) from (Or.inl ⟨by omega, by rw [sm_s _ (show 0 ≤ j by omega)]; omega⟩)), hP, hD, hS, lv_sub hl [2, 3, 1, 0] rfl⟩
          · refine lv_aload_n hx hb dX3_count_50 rfl (lv_at hl 0 rfl) ?_
            refine va_get (D := D) (ci := 3) (v := .int (zz_i (σ 6 0))) (C := RX3) (T := TX3) (N := 23) hx hb hts hiX3 hown hK hP (0) rfl rfl 19 (by decide) hf94 (fun _ h9 => h9) rfl dX3_count_51 ?_
            refine zz_if_eq (tgt := 61) hx hb dX3_count_54 (by decide) (by omega) (fun c23 => ?_) (fun c23 => ?_)
            · refine lv_iconst (v := zz_i (0)) hx hb dX3_count_61 rfl ?_
              have hv9 : v_cou σ x = 0 := by unfold v_cou; (repeat (first | rw [if_pos (by omega)] | rw [if_neg (by omega)])) <;> first | rfl | omega
              have hw9 : rk_ cy gr 0 σ = rk_ cy gr 0 σ := by rfl
              subst hAe
              exact W.iret (v := zz_i (0)) hx hb hr (fun t ht hW => ⟨congrArg (fun z => Outcome.returned (some (Value.int (zz_i z)))) hv9.symm, ⟨(), trivial, by rw [ht, hw9]; exact hP, va_K.moved hW.alike hK, by rw [hw9]; exact hD⟩, hS.F ht⟩) hS.2.2 dX3_count_62
            · refine lv_iconst (v := zz_i (1)) hx hb dX3_count_57 rfl ?_
              refine lv_goto (tgt := 62) hx hb dX3_count_58 (by decide) ?_
              have hv9 : v_cou σ x = 1 := by unfold v_cou; (repeat (first | rw [if_pos (by omega)] | rw [if_neg (by omega)])) <;> first | rfl | omega
              have hw9 : rk_ cy gr 0 σ = rk_ cy gr 0 σ := by rfl
              subst hAe
              exact W.iret (v := zz_i (1)) hx hb hr (fun t ht hW => ⟨congrArg (fun z => Outcome.returned (some (Value.int (zz_i z)))) hv9.symm, ⟨(), trivial, by rw [ht, hw9]; exact hP, va_K.moved hW.alike hK, by rw [hw9]; exact hD⟩, hS.F ht⟩) hS.2.2 dX3_count_62
        · refine lv_aload_n hx hb dX3_count_39 rfl (lv_at hl 0 rfl) ?_
          refine zc_v (As := []) (rest := []) (S := Unit) (pc := 40) ⟨hx, hb, hml, hown, hts⟩ (r_chutes l D cy gr 0 σ _ hI.1) (cwV 0 hts gX3_count_X3_chutes rfl rfl rfl (by decide +kernel) ⟨Nat.le_of_ble_eq_true rfl, Nat.le_of_ble_eq_true rfl⟩) hK hP hD hS hA hE (va_recv hK hP (ci := 3) (q0 := 0) rfl rfl) rfl hl.1 rfl (Nat.le_of_ble_eq_true rfl) dX3_count_40 ⟨Nat.le_of_ble_eq_true rfl, Nat.le_of_ble_eq_true rfl⟩ (fun _ H locs k24 hP hD hS => ?_)
          refine W.eq (g2 := F0 m 43 ls [.int (zz_i (σ 28 0))]) rfl ?_
          have hv9 : v_cou σ x = σ 28 0 := by unfold v_cou; (repeat (first | rw [if_pos (by omega)] | rw [if_neg (by omega)])) <;> first | rfl | omega
          have hw9 : rk_ cy gr 0 σ = rk_ cy gr 0 σ := by rfl
          subst hAe
          exact W.iret (v := zz_i (σ 28 0)) hx hb hr (fun t ht hW => ⟨congrArg (fun z => Outcome.returned (some (Value.int (zz_i z)))) hv9.symm, ⟨(), trivial, by rw [ht, hw9]; exact hP, va_K.moved hW.alike hK, by rw [hw9]; exact hD⟩, hS.F ht⟩) hS.2.2 dX3_count_43
      · refine lv_aload_n hx hb dX3_count_29 rfl (lv_at hl 0 rfl) ?_
        refine va_get (D := D) (ci := 3) (v := .int (zz_i (σ 2 0))) (C := RX3) (T := TX3) (N := 23) hx hb hts hiX3 hown hK hP (0) rfl rfl 3 (by decide) hf81 (fun _ h9 => h9) rfl dX3_count_30 ?_
        have hv9 : v_cou σ x = σ 2 0 := by unfold v_cou; (repeat (first | rw [if_pos (by omega)] | rw [if_neg (by omega)])) <;> first | rfl | omega
        have hw9 : rk_ cy gr 0 σ = rk_ cy gr 0 σ := by rfl
        subst hAe
        exact W.iret (v := zz_i (σ 2 0)) hx hb hr (fun t ht hW => ⟨congrArg (fun z => Outcome.returned (some (Value.int (zz_i z)))) hv9.symm, ⟨(), trivial, by rw [ht, hw9]; exact hP, va_K.moved hW.alike hK, by rw [hw9]; exact hD⟩, hS.F ht⟩) hS.2.2 dX3_count_33
    · refine lv_aload_n hx hb dX3_count_19 rfl (lv_at hl 0 rfl) ?_
      refine va_get (D := D) (ci := 3) (v := .int (zz_i (σ 4 0))) (C := RX3) (T := TX3) (N := 23) hx hb hts hiX3 hown hK hP (0) rfl rfl 7 (by decide) hf66 (fun _ h9 => h9) rfl dX3_count_20 ?_
      have hv9 : v_cou σ x = σ 4 0 := by unfold v_cou; (repeat (first | rw [if_pos (by omega)] | rw [if_neg (by omega)])) <;> first | rfl | omega
      have hw9 : rk_ cy gr 0 σ = rk_ cy gr 0 σ := by rfl
      subst hAe
      exact W.iret (v := zz_i (σ 4 0)) hx hb hr (fun t ht hW => ⟨congrArg (fun z => Outcome.returned (some (Value.int (zz_i z)))) hv9.symm, ⟨(), trivial, by rw [ht, hw9]; exact hP, va_K.moved hW.alike hK, by rw [hw9]; exact hD⟩, hS.F ht⟩) hS.2.2 dX3_count_23
  · refine lv_aload_n hx hb dX3_count_9 rfl (lv_at hl 0 rfl) ?_
    refine va_get (D := D) (ci := 3) (v := .int (zz_i (σ 0 0))) (C := RX3) (T := TX3) (N := 23) hx hb hts hiX3 hown hK hP (0) rfl rfl 1 (by decide) hf57 (fun _ h9 => h9) rfl dX3_count_10 ?_
    have hv9 : v_cou σ x = σ 0 0 := by unfold v_cou; (repeat (first | rw [if_pos (by omega)] | rw [if_neg (by omega)])) <;> first | rfl | omega
    have hw9 : rk_ cy gr 0 σ = rk_ cy gr 0 σ := by rfl
    subst hAe
    exact W.iret (v := zz_i (σ 0 0)) hx hb hr (fun t ht hW => ⟨congrArg (fun z => Outcome.returned (some (Value.int (zz_i z)))) hv9.symm, ⟨(), trivial, by rw [ht, hw9]; exact hP, va_K.moved hW.alike hK, by rw [hw9]; exact hD⟩, hS.F ht⟩) hS.2.2 dX3_count_13
end
