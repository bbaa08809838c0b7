section
set_option maxHeartbeats 4000000 in
set_option maxRecDepth 100000 in
theorem r_found (l : Launch) (D : va_G) (cy gr : Nat → Nat) (kc : Int) (σ : zz_S) (sz : Nat) (hI : iv_ σ) (x f : Int) (q_x : (-2147483648 ≤ x ∧ x < 2147483648)) (q_f : f = 0 ∨ f = 1) : Met l yX3_found wsX3_found ({ frames := 2, cells := 0, slots := 0, locals := 43 }) (ct_P D cy [.ref (gr 0), .int (zz_i (x)), .int (zz_i (f))] (rk_ cy gr kc σ) sz) (ct_Q D cy (rk_ cy gr kc σ) sz (some (.int (zz_i (an_ (k_fou σ x) (v_fou σ x f))))) (fun _ : Unit => True) (fun _ => rk_ cy gr (k_fou σ x) (nx_ (k_fou σ x) σ (up_a σ 20 x f)))) 0 0 (va_A (rk_ cy gr kc σ) sz) := by
  refine Met.ofW (cc := cX3_found) (maxL := 6) (ret := (some .int)) (by decide) rfl ?_
  intro p e s m args below meth c s₁ B hml hv
  obtain ⟨rfl, rfl, hP, hK, hD0, hE⟩ := hv
  have hx := B.exec
  have hb := B.bytes
  have hr := B.returns
  have hts := atoms_spec (ws := wsX3_found) B.pre
  have hown : s.vm.findClass RX3 = some m.cls := findClass_of_methodNamed B.named
  have hlocks := B.notSynchronized
  have hD := hD0.self (sz := s.heap.size)
  obtain ⟨A, hAe⟩ : ∃ A, A = va_A (rk_ cy gr kc σ) s.heap.size := ⟨_, rfl⟩
  rw [← hAe] at hD hE
  have hA : ∀ q : Nat, s.heap.size ≤ q → A q := fun q h => by rw [hAe]; exact Or.inr h
  have hS : va_S A s.heap s.heap [] := va_S.rf
  have hP : va_P D zz_cl (rk_ cy gr kc σ) s.heap := hP
  have hl := lv_entry ([.ref (gr 0), .int (zz_i (x)), .int (zz_i (f))]) (n := 6) (Nat.le_of_ble_eq_true rfl)
  rw [lg_entry_eq]
  generalize (lg_sl ([.ref (gr 0), .int (zz_i (x)), .int (zz_i (f))]) ++ List.replicate (6 - (lg_sl ([.ref (gr 0), .int (zz_i (x)), .int (zz_i (f))])).length) Slot.unset).toArray = ls at hl ⊢
  have hl : lv_has ls 6 [(0, .ref (gr 0)), (1, .int (zz_i (x))), (2, .int (zz_i (f)))] := hl
  obtain ⟨⟨j1, j2, j3, j4, j5, j6, j7, j8, j9, j10⟩, j11, j12, j13, j14, j15, j16, j17, j18, j19, j20, j21, j22, j23, j24⟩ := id hI
  have hiX3 : ∀ w ∈ wsX30, w ∈ wsX3_found := by decide +kernel
  have hf63 := hts (.fieldLink RX3 63 "SorterStepsModel" "code" "I") (by decide +kernel)
  have hf112 := hts (.fieldLink RX3 112 "SorterStepsModel" "doubts" "I") (by decide +kernel)
  have hf54 := hts (.fieldLink RX3 54 "SorterStepsModel" "isFound" "[Z") (by decide +kernel)
  have hf51 := hts (.fieldLink RX3 51 "SorterStepsModel" "doubted" "[I") (by decide +kernel)
  refine lv_aload_n hx hb dX3_found_0 rfl (lv_at hl 0 rfl) ?_
  refine lv_aload_n hx hb dX3_found_1 rfl (lv_at hl 0 rfl) ?_
  refine lv_iload_n hx hb dX3_found_2 rfl (lv_at hl 1 rfl) ?_
  refine zc_v (As := [.int (zz_i (x))]) (rest := [.ref (gr 0)]) (S := Unit) (pc := 3) ⟨hx, hb, hml, hown, hts⟩ (r_isItem l D cy gr kc σ _ hI.1 (x) (by omega)) (cwV 1 hts gX3_found_X3_isItem rfl rfl rfl (by decide +kernel) ⟨Nat.le_of_ble_eq_true rfl, Nat.le_of_ble_eq_true rfl⟩) hK hP hD hS hA hE (va_recv hK hP (ci := 3) (q0 := 0) rfl rfl) rfl hl.1 rfl (Nat.le_of_ble_eq_true rfl) dX3_found_3 ⟨Nat.le_of_ble_eq_true rfl, Nat.le_of_ble_eq_true rfl⟩ (fun _ H locs k1 hP hD hS => ?_)
  refine W.eq (g2 := F0 m 6 ls [.int (zz_i (sp_bt (x) 1 (σ 4 0))), .ref (gr 0)]) rfl ?_
  have b1 : (sp_bt (x) 1 (σ 4 0) = 1 ∧ 1 ≤ x ∧ x ≤ σ 4 0) ∨ (sp_bt (x) 1 (σ 4 0) = 0 ∧ (x < 1 ∨ σ 4 0 < x)) := sp_bt_b (x) 1 (σ 4 0)
  refine zz_if_eq (tgt := 13) hx hb dX3_found_6 (by decide) (by omega) (fun c2 => ?_) (fun c2 => ?_)
  · refine lv_iconst (v := zz_i (1)) hx hb dX3_found_13 rfl ?_
    refine va_put (D := D) (ci := 3) (v := .int (zz_i (1))) (ty := .int) (C := RX3) (T := TX3) (N := 23) hx hb hts hiX3 tyX3 tyX3_ok nmX3 hown hK hP hD hS (0) rfl rfl 0 (by decide) hf63 (fun _ h9 => h9) rfl (by decide +kernel) rfl rfl (Nat.le_of_ble_eq_true rfl) dX3_found_14 (fun H locs hP hD hS => ?_)
    have hP : va_P D zz_cl (rk_ cy gr 1 σ) H := hP
    have hD : va_D A (rk_ cy gr 1 σ) := hD
    refine lv_aload_n hx hb dX3_found_17 rfl (lv_at hl 0 rfl) ?_
    refine va_get (D := D) (ci := 3) (v := .int (zz_i (1))) (C := RX3) (T := TX3) (N := 23) hx hb hts hiX3 hown hK hP (0) rfl rfl 0 (by decide) hf63 (fun _ h9 => h9) rfl dX3_found_18 ?_
    refine zz_if_le (tgt := 26) hx hb dX3_found_21 (by decide) (by omega) (fun c3 => ?_) (fun c3 => ?_)
    · exact absurd c3 (by omega)
    · refine lv_iconst (v := zz_i (0)) hx hb dX3_found_24 rfl ?_
      have hv9 : an_ (k_fou σ x) (v_fou σ x f) = 0 := by (have hk9 : k_fou σ x = 1 := by unfold k_fou; (repeat (first | rw [if_pos (by omega)] | rw [if_neg (by omega)])) <;> first | rfl | omega); rw [hk9]; rfl
      have hw9 : rk_ cy gr (k_fou σ x) (nx_ (k_fou σ x) σ (up_a σ 20 x f)) = rk_ cy gr 1 σ := by (have hk9 : k_fou σ x = 1 := by unfold k_fou; (repeat (first | rw [if_pos (by omega)] | rw [if_neg (by omega)])) <;> first | rfl | omega); rw [hk9]; rfl
      subst hAe
      exact W.iret (v := zz_i (0)) hx hb hr (fun t ht hW => ⟨congrArg (fun z => Outcome.returned (some (Value.int (zz_i z)))) hv9.symm, ⟨(), trivial, by rw [ht, hw9]; exact hP, va_K.moved hW.alike hK, by rw [hw9]; exact hD⟩, hS.F ht⟩) hS.2.2 dX3_found_25
  · refine lv_iconst (v := zz_i (0)) hx hb dX3_found_9 rfl ?_
    refine lv_goto (tgt := 14) hx hb dX3_found_10 (by decide) ?_
    refine va_put (D := D) (ci := 3) (v := .int (zz_i (0))) (ty := .int) (C := RX3) (T := TX3) (N := 23) hx hb hts hiX3 tyX3 tyX3_ok nmX3 hown hK hP hD hS (0) rfl rfl 0 (by decide) hf63 (fun _ h9 => h9) rfl (by decide +kernel) rfl rfl (Nat.le_of_ble_eq_true rfl) dX3_found_14 (fun H locs hP hD hS => ?_)
    have hP : va_P D zz_cl (rk_ cy gr 0 σ) H := hP
    have hD : va_D A (rk_ cy gr 0 σ) := hD
    refine lv_aload_n hx hb dX3_found_17 rfl (lv_at hl 0 rfl) ?_
    refine va_get (D := D) (ci := 3) (v := .int (zz_i (0))) (C := RX3) (T := TX3) (N := 23) hx hb hts hiX3 hown hK hP (0) rfl rfl 0 (by decide) hf63 (fun _ h9 => h9) rfl dX3_found_18 ?_
    refine zz_if_le (tgt := 26) hx hb dX3_found_21 (by decide) (by omega) (fun c4 => ?_) (fun c4 => ?_)
    · refine lv_iconst (v := zz_i (0)) hx hb dX3_found_26 rfl ?_
      refine lv_istore_n (lv' := [(3, .int (zz_i (0))), (0, .ref (gr 0)), (1, .int (zz_i (x))), (2, .int (zz_i (f)))]) hx hb dX3_found_27 rfl hl (by decide) rfl (fun ls hl => ?_)
      refine lv_iconst (v := zz_i (0)) hx hb dX3_found_28 rfl ?_
      refine lv_istore (lv' := [(4, .int (zz_i (0))), (3, .int (zz_i (0))), (0, .ref (gr 0)), (1, .int (zz_i (x))), (2, .int (zz_i (f)))]) hx hb dX3_found_29 hl (by decide) rfl (fun ls hl => ?_)
      refine zz_lp (α := Int × Int) (μ := fun z9 => (σ 7 0 - z9.1).toNat) (cf := fun _ => 0) (sf := fun _ => 0) (I := fun z9 H locs ls => (0 ≤ z9.1 ∧ z9.1 ≤ σ 7 0) ∧ (z9.2 = 0 ∨ z9.2 = 1) ∧ (th_p σ x z9.1 z9.2) ∧ va_P D zz_cl (rk_ cy gr 0 σ) H ∧ va_D A (rk_ cy gr 0 σ) ∧ va_S A s.heap H locs ∧ lv_has ls 6 [(0, .ref (gr 0)), (1, .int (zz_i (x))), (2, .int (zz_i (f))), (3, .int (zz_i (z9.2))), (4, .int (zz_i (z9.1)))]) ?_ (0, 0) _ _ _ ⟨(show 0 ≤ (0 : Int) ∧ (0 : Int) ≤ σ 7 0 from (by omega)), (show (0 : Int) = 0 ∨ (0 : Int) = 1 from (by omega)), (show th_p σ x (0 : Int) (0 : Int) from (th_0 σ x)), hP, hD, hS, lv_sub hl [2, 3, 4, 1, 0] rfl⟩
      rintro ⟨j, b⟩ H locs ls ⟨v1, v2, v3, hP, hD, hS, hl⟩ ih31
      have v1 : 0 ≤ j ∧ j ≤ σ 7 0 := v1
      have v2 : b = 0 ∨ b = 1 := v2
      have v3 : th_p σ x j b := v3
      have hP : va_P D zz_cl (rk_ cy gr 0 σ) H := hP
      have hD : va_D A (rk_ cy gr 0 σ) := hD
      have hl : lv_has ls 6 [(0, .ref (gr 0)), (1, .int (zz_i (x))), (2, .int (zz_i (f))), (3, .int (zz_i (b))), (4, .int (zz_i (j)))] := hl
      refine lv_iload hx hb dX3_found_31 (lv_at hl 4 rfl) ?_
      refine lv_aload_n hx hb dX3_found_33 rfl (lv_at hl 0 rfl) ?_
      refine va_get (D := D) (ci := 3) (v := .int (zz_i (σ 7 0))) (C := RX3) (T := TX3) (N := 23) hx hb hts hiX3 hown hK hP (0) rfl rfl 20 (by decide) hf112 (fun _ h9 => h9) rfl dX3_found_34 ?_
      refine zz_icmp_ge (tgt := 67) hx hb dX3_found_37 (by decide) (by omega) (by omega) (fun c5 => ?_) (fun c5 => ?_)
      · have hit := (j13 x (by omega) (by omega)).2.2.2.2.2.2.2.1
        have h19 := th_e v3 (j20 x (by omega) (by omega)) (by omega)
        refine lv_aload_n hx hb dX3_found_67 rfl (lv_at hl 0 rfl) ?_
        refine lv_iload_n hx hb dX3_found_68 rfl (lv_at hl 3 rfl) ?_
        refine zz_if_eq (tgt := 76) hx hb dX3_found_69 (by decide) (by omega) (fun c6 => ?_) (fun c6 => ?_)
        · refine lv_iconst (v := zz_i (2)) hx hb dX3_found_76 rfl ?_
          refine va_put (D := D) (ci := 3) (v := .int (zz_i (2))) (ty := .int) (C := RX3) (T := TX3) (N := 23) hx hb hts hiX3 tyX3 tyX3_ok nmX3 hown hK hP hD hS (0) rfl rfl 0 (by decide) hf63 (fun _ h9 => h9) rfl (by decide +kernel) rfl rfl (Nat.le_of_ble_eq_true rfl) dX3_found_77 (fun H locs hP hD hS => ?_)
          have hP : va_P D zz_cl (rk_ cy gr 2 σ) H := hP
          have hD : va_D A (rk_ cy gr 2 σ) := hD
          refine lv_aload_n hx hb dX3_found_80 rfl (lv_at hl 0 rfl) ?_
          refine va_get (D := D) (ci := 3) (v := .int (zz_i (2))) (C := RX3) (T := TX3) (N := 23) hx hb hts hiX3 hown hK hP (0) rfl rfl 0 (by decide) hf63 (fun _ h9 => h9) rfl dX3_found_81 ?_
          refine zz_if_le (tgt := 89) hx hb dX3_found_84 (by decide) (by omega) (fun c7 => ?_) (fun c7 => ?_)
          · exact absurd c7 (by omega)
          · refine lv_iconst (v := zz_i (0)) hx hb dX3_found_87 rfl ?_
            have hv9 : an_ (k_fou σ x) (v_fou σ x f) = 0 := by (have hk9 : k_fou σ x = 2 := by unfold k_fou; (repeat (first | rw [if_pos (by omega)] | rw [if_neg (by omega)])) <;> first | rfl | omega); rw [hk9]; rfl
            have hw9 : rk_ cy gr (k_fou σ x) (nx_ (k_fou σ x) σ (up_a σ 20 x f)) = rk_ cy gr 2 σ := by (have hk9 : k_fou σ x = 2 := by unfold k_fou; (repeat (first | rw [if_pos (by omega)] | rw [if_neg (by omega)])) <;> first | rfl | omega); rw [hk9]; rfl
            subst hAe
            exact W.iret (v := zz_i (0)) hx hb hr (fun t ht hW => ⟨congrArg (fun z => Outcome.returned (some (Value.int (zz_i z)))) hv9.symm, ⟨(), trivial, by rw [ht, hw9]; exact hP, va_K.moved hW.alike hK, by rw [hw9]; exact hD⟩, hS.F ht⟩) hS.2.2 dX3_found_88
        · refine lv_iconst (v := zz_i (0)) hx hb dX3_found_72 rfl ?_
          refine lv_goto (tgt := 77) hx hb dX3_found_73 (by decide) ?_
          refine va_put (D := D) (ci := 3) (v := .int (zz_i (0))) (ty := .int) (C := RX3) (T := TX3) (N := 23) hx hb hts hiX3 tyX3 tyX3_ok nmX3 hown hK hP hD hS (0) rfl rfl 0 (by decide) hf63 (fun _ h9 => h9) rfl (by decide +kernel) rfl rfl (Nat.le_of_ble_eq_true rfl) dX3_found_77 (fun H locs hP hD hS => ?_)
          have hP : va_P D zz_cl (rk_ cy gr 0 σ) H := hP
          have hD : va_D A (rk_ cy gr 0 σ) := hD
          refine lv_aload_n hx hb dX3_found_80 rfl (lv_at hl 0 rfl) ?_
          refine va_get (D := D) (ci := 3) (v := .int (zz_i (0))) (C := RX3) (T := TX3) (N := 23) hx hb hts hiX3 hown hK hP (0) rfl rfl 0 (by decide) hf63 (fun _ h9 => h9) rfl dX3_found_81 ?_
          refine zz_if_le (tgt := 89) hx hb dX3_found_84 (by decide) (by omega) (fun c8 => ?_) (fun c8 => ?_)
          · refine lv_aload_n hx hb dX3_found_89 rfl (lv_at hl 0 rfl) ?_
            refine va_get (D := D) (ci := 3) (v := .ref (gr 14)) (C := RX3) (T := TX3) (N := 23) hx hb hts hiX3 hown hK hP (0) rfl rfl 22 (by decide) hf54 (fun _ h9 => h9) rfl dX3_found_90 ?_
            refine lv_iload_n hx hb dX3_found_93 rfl (lv_at hl 1 rfl) ?_
            refine lv_iload_n hx hb dX3_found_94 rfl (lv_at hl 2 rfl) ?_
            refine zz_zast hx hb hK hP hD hS 14 1 rfl rfl (show 0 ≤ x ∧ x < ((61 : Nat) : Int) by omega) (show 61 < 2147483648 by omega) (by omega) dX3_found_95 (fun H locs hP hD hS => ?_)
            have hP : va_P D zz_cl (rk_ cy gr 0 (up_a σ 20 (x) (f))) H := hP
            have hD : va_D A (rk_ cy gr 0 (up_a σ 20 (x) (f))) := hD
            refine lv_iconst (v := zz_i (0)) hx hb dX3_found_96 rfl ?_
            refine lv_istore (lv' := [(4, .int (zz_i (0))), (0, .ref (gr 0)), (1, .int (zz_i (x))), (2, .int (zz_i (f))), (3, .int (zz_i (b)))]) hx hb dX3_found_97 hl (by decide) rfl (fun ls hl => ?_)
            refine lv_iconst (v := zz_i (0)) hx hb dX3_found_99 rfl ?_
            refine lv_istore (lv' := [(5, .int (zz_i (0))), (4, .int (zz_i (0))), (0, .ref (gr 0)), (1, .int (zz_i (x))), (2, .int (zz_i (f))), (3, .int (zz_i (b)))]) hx hb dX3_found_100 hl (by decide) rfl (fun ls hl => ?_)
            refine zz_lp (α := Int × Int) (μ := fun z9 => (σ 7 0 - z9.1).toNat) (cf := fun _ => 0) (sf := fun _ => 0) (I := fun z9 H locs ls => (0 ≤ z9.1 ∧ z9.1 ≤ σ 7 0) ∧ (z9.2 = sm_ (f_nf (up_a σ 20 x f)) z9.1.toNat) ∧ va_P D zz_cl (rk_ cy gr 0 (up_a σ 20 (x) (f))) H ∧ va_D A (rk_ cy gr 0 (up_a σ 20 (x) (f))) ∧ va_S A s.heap H locs ∧ lv_has ls 6 [(0, .ref (gr 0)), (1, .int (zz_i (x))), (4, .int (zz_i (z9.2))), (5, .int (zz_i (z9.1)))]) ?_ (0, 0) _ _ _ ⟨(show 0 ≤ (0 : Int) ∧ (0 : Int) ≤ σ 7 0 from (by omega)), (show (0 : Int) = sm_ (f_nf (up_a σ 20 x f)) (0 : Int).toNat from rfl), hP, hD, hS, lv_sub hl [2, 3, 1, 0] rfl⟩
            rintro ⟨i, a⟩ H locs ls ⟨u1, u2, hP, hD, hS, hl⟩ ih102
            have u1 : 0 ≤ i ∧ i ≤ σ 7 0 := u1
            have u2 : a = sm_ (f_nf (up_a σ 20 x f)) i.toNat := u2
            have hP : va_P D zz_cl (rk_ cy gr 0 (up_a σ 20 (x) (f))) H := hP
            have hD : va_D A (rk_ cy gr 0 (up_a σ 20 (x) (f))) := hD
            have hl : lv_has ls 6 [(0, .ref (gr 0)), (1, .int (zz_i (x))), (4, .int (zz_i (a))), (5, .int (zz_i (i)))] := hl
            have v4 : (f_nf (up_a σ 20 x f) i = 1 ∧ (up_a σ 20 (x) (f)) 20 (σ 27 i) = 0) ∨ (f_nf (up_a σ 20 x f) i = 0 ∧ (up_a σ 20 (x) (f)) 20 (σ 27 i) ≠ 0) := f_nf_b (up_a σ 20 x f) i
            refine lv_iload hx hb dX3_found_102 (lv_at hl 3 rfl) ?_
            refine lv_aload_n hx hb dX3_found_104 rfl (lv_at hl 0 rfl) ?_
            refine va_get (D := D) (ci := 3) (v := .int (zz_i (σ 7 0))) (C := RX3) (T := TX3) (N := 23) hx hb hts hiX3 hown hK hP (0) rfl rfl 20 (by decide) hf112 (fun _ h9 => h9) rfl dX3_found_105 ?_
            refine zz_icmp_ge (tgt := 142) hx hb dX3_found_108 (by decide) (by omega) (by omega) (fun c9 => ?_) (fun c9 => ?_)
            · refine lv_iload hx hb dX3_found_142 (lv_at hl 2 rfl) ?_
              have hv9 : an_ (k_fou σ x) (v_fou σ x f) = a := by (have hk9 : k_fou σ x = 0 := by unfold k_fou; (repeat (first | rw [if_pos (by omega)] | rw [if_neg (by omega)])) <;> first | rfl | omega); rw [hk9]; show v_fou σ x f = a; (have e9 : i = σ 7 0 := by omega); unfold v_fou; rw [u2, e9]
              have hw9 : rk_ cy gr (k_fou σ x) (nx_ (k_fou σ x) σ (up_a σ 20 x f)) = rk_ cy gr 0 (up_a σ 20 (x) (f)) := by (have hk9 : k_fou σ x = 0 := by unfold k_fou; (repeat (first | rw [if_pos (by omega)] | rw [if_neg (by omega)])) <;> first | rfl | omega); rw [hk9]; show rk_ cy gr 0 (up_a σ 20 x f) = rk_ cy gr 0 (up_a σ 20 (x) (f)); rfl
              subst hAe
              exact W.iret (v := zz_i (a)) hx hb hr (fun t ht hW => ⟨congrArg (fun z => Outcome.returned (some (Value.int (zz_i z)))) hv9.symm, ⟨(), trivial, by rw [ht, hw9]; exact hP, va_K.moved hW.alike hK, by rw [hw9]; exact hD⟩, hS.F ht⟩) hS.2.2 dX3_found_144
            · refine lv_iload hx hb dX3_found_111 (lv_at hl 2 rfl) ?_
              refine lv_aload_n hx hb dX3_found_113 rfl (lv_at hl 0 rfl) ?_
              refine va_get (D := D) (ci := 3) (v := .ref (gr 14)) (C := RX3) (T := TX3) (N := 23) hx hb hts hiX3 hown hK hP (0) rfl rfl 22 (by decide) hf54 (fun _ h9 => h9) rfl dX3_found_114 ?_
              refine lv_aload_n hx hb dX3_found_117 rfl (lv_at hl 0 rfl) ?_
              refine va_get (D := D) (ci := 3) (v := .ref (gr 13)) (C := RX3) (T := TX3) (N := 23) hx hb hts hiX3 hown hK hP (0) rfl rfl 21 (by decide) hf51 (fun _ h9 => h9) rfl dX3_found_118 ?_
              refine lv_iload hx hb dX3_found_121 (lv_at hl 3 rfl) ?_
              refine zz_iald hx hb hK hP 13 0 rfl rfl (show 0 ≤ i ∧ i < ((40 : Nat) : Int) by omega) (show 40 < 2147483648 by omega) dX3_found_123 ?_
              refine W.eq (g2 := F0 m 124 ls [.int (zz_i (σ 27 i)), .ref (gr 14), .int (zz_i (a))]) rfl ?_
              have h15 := j15 i (by omega) (by omega)
              have hit2 := ((pv_20 hI (i := x) (v := f) (by omega) q_f).2.2.2.1 (σ 27 i) h15.1 h15.2.1).2.2.2.2.2.2.2.2.1
              refine zz_zald hx hb hK hP 14 1 rfl rfl (show 0 ≤ σ 27 i ∧ σ 27 i < ((61 : Nat) : Int) by omega) (show 61 < 2147483648 by omega) dX3_found_124 ?_
              refine W.eq (g2 := F0 m 125 ls [.int (zz_i ((up_a σ 20 (x) (f)) 20 (σ 27 i))), .int (zz_i (a))]) rfl ?_
              refine zz_if_eq (tgt := 132) hx hb dX3_found_125 (by decide) (by omega) (fun c10 => ?_) (fun c10 => ?_)
              · refine lv_iconst (v := zz_i (1)) hx hb dX3_found_132 rfl ?_
                refine zz_iadd hx hb dX3_found_133 ?_
                refine lv_istore (lv' := [(4, .int (zz_i (a + 1))), (0, .ref (gr 0)), (1, .int (zz_i (x))), (5, .int (zz_i (i)))]) hx hb dX3_found_134 hl (by decide) rfl (fun ls hl => ?_)
                refine lv_iinc (v := zz_i (i + 1)) (lv' := [(5, .int (zz_i (i + 1))), (4, .int (zz_i (a + 1))), (0, .ref (gr 0)), (1, .int (zz_i (x)))]) hx hb dX3_found_136 hl (k := 3) rfl (zz_add _ _) (by decide) rfl (fun ls hl => ?_)
                refine lv_goto (tgt := 102) hx hb dX3_found_139 (by decide) ?_
                exact ih102 (i + 1, a + 1) _ _ _ (show (σ 7 0 - (i + 1)).toNat < (σ 7 0 - i).toNat by omega) ⟨(show 0 ≤ (i + 1) ∧ (i + 1) ≤ σ 7 0 from (by omega)), (show (a + 1) = sm_ (f_nf (up_a σ 20 x f)) (i + 1).toNat from (by rw [sm_s _ (show 0 ≤ i by omega)]; omega)), hP, hD, hS, lv_sub hl [2, 3, 1, 0] rfl⟩
              · refine lv_iconst (v := zz_i (0)) hx hb dX3_found_128 rfl ?_
                refine lv_goto (tgt := 133) hx hb dX3_found_129 (by decide) ?_
                refine zz_iadd hx hb dX3_found_133 ?_
                refine lv_istore (lv' := [(4, .int (zz_i (a + 0))), (0, .ref (gr 0)), (1, .int (zz_i (x))), (5, .int (zz_i (i)))]) hx hb dX3_found_134 hl (by decide) rfl (fun ls hl => ?_)
                refine lv_iinc (v := zz_i (i + 1)) (lv' := [(5, .int (zz_i (i + 1))), (4, .int (zz_i (a + 0))), (0, .ref (gr 0)), (1, .int (zz_i (x)))]) hx hb dX3_found_136 hl (k := 3) rfl (zz_add _ _) (by decide) rfl (fun ls hl => ?_)
                refine lv_goto (tgt := 102) hx hb dX3_found_139 (by decide) ?_
                exact ih102 (i + 1, a + 0) _ _ _ (show (σ 7 0 - (i + 1)).toNat < (σ 7 0 - i).toNat by omega) ⟨(show 0 ≤ (i + 1) ∧ (i + 1) ≤ σ 7 0 from (by omega)), (show (a + 0) = sm_ (f_nf (up_a σ 20 x f)) (i + 1).toNat from (by rw [sm_s _ (show 0 ≤ i by omega)]; omega)), hP, hD, hS, lv_sub hl [2, 3, 1, 0] rfl⟩
          · exact absurd c8 (by omega)
      · refine lv_iload_n hx hb dX3_found_40 rfl (lv_at hl 3 rfl) ?_
        refine zz_if_ne (tgt := 55) hx hb dX3_found_41 (by decide) (by omega) (fun c11 => ?_) (fun c11 => ?_)
        · refine lv_iconst (v := zz_i (1)) hx hb dX3_found_55 rfl ?_
          refine lv_goto (tgt := 60) hx hb dX3_found_56 (by decide) ?_
          refine lv_istore_n (lv' := [(3, .int (zz_i (1))), (0, .ref (gr 0)), (1, .int (zz_i (x))), (2, .int (zz_i (f))), (4, .int (zz_i (j)))]) hx hb dX3_found_60 rfl hl (by decide) rfl (fun ls hl => ?_)
          refine lv_iinc (v := zz_i (j + 1)) (lv' := [(4, .int (zz_i (j + 1))), (3, .int (zz_i (1))), (0, .ref (gr 0)), (1, .int (zz_i (x))), (2, .int (zz_i (f)))]) hx hb dX3_found_61 hl (k := 4) rfl (zz_add _ _) (by decide) rfl (fun ls hl => ?_)
          refine lv_goto (tgt := 31) hx hb dX3_found_64 (by decide) ?_
          exact ih31 (j + 1, 1) _ _ _ (show (σ 7 0 - (j + 1)).toNat < (σ 7 0 - j).toNat by omega) ⟨(show 0 ≤ (j + 1) ∧ (j + 1) ≤ σ 7 0 from (by omega)), (show (1 : Int) = 0 ∨ (1 : Int) = 1 from (by omega)), (show th_p σ x (j + 1) (1 : Int) from (th_s v2 v3 (by omega) (by omega))), hP, hD, hS, lv_sub hl [2, 3, 4, 1, 0] rfl⟩
        · refine lv_aload_n hx hb dX3_found_44 rfl (lv_at hl 0 rfl) ?_
          refine va_get (D := D) (ci := 3) (v := .ref (gr 13)) (C := RX3) (T := TX3) (N := 23) hx hb hts hiX3 hown hK hP (0) rfl rfl 21 (by decide) hf51 (fun _ h9 => h9) rfl dX3_found_45 ?_
          refine lv_iload hx hb dX3_found_48 (lv_at hl 4 rfl) ?_
          have h27 := j23 j
          refine zz_iald hx hb hK hP 13 0 rfl rfl (show 0 ≤ j ∧ j < ((40 : Nat) : Int) by omega) (show 40 < 2147483648 by omega) dX3_found_50 ?_
          refine lv_iload_n hx hb dX3_found_51 rfl (lv_at hl 1 rfl) ?_
          refine zz_icmp_ne (tgt := 59) hx hb dX3_found_52 (by decide) (by omega) (by omega) (fun c12 => ?_) (fun c12 => ?_)
          · refine lv_iconst (v := zz_i (0)) hx hb dX3_found_59 rfl ?_
            refine lv_istore_n (lv' := [(3, .int (zz_i (0))), (0, .ref (gr 0)), (1, .int (zz_i (x))), (2, .int (zz_i (f))), (4, .int (zz_i (j)))]) hx hb dX3_found_60 rfl hl (by decide) rfl (fun ls hl => ?_)
            refine lv_iinc (v := zz_i (j + 1)) (lv' := [(4, .int (zz_i (j + 1))), (3, .int (zz_i (0))), (0, .ref (gr 0)), (1, .int (zz_i (x))), (2, .int (zz_i (f)))]) hx hb dX3_found_61 hl (k := 4) rfl (zz_add _ _) (by decide) rfl (fun ls hl => ?_)
            refine lv_goto (tgt := 31) hx hb dX3_found_64 (by decide) ?_
            exact ih31 (j + 1, 0) _ _ _ (show (σ 7 0 - (j + 1)).toNat < (σ 7 0 - j).toNat by omega) ⟨(show 0 ≤ (j + 1) ∧ (j + 1) ≤ σ 7 0 from (by omega)), (show (0 : Int) = 0 ∨ (0 : Int) = 1 from (by omega)), (show th_p σ x (j + 1) (0 : Int) from (th_s v2 v3 (by omega) (by omega))), hP, hD, hS, lv_sub hl [2, 3, 4, 1, 0] rfl⟩
          · refine lv_iconst (v := zz_i (1)) hx hb dX3_found_55 rfl ?_
            refine lv_goto (tgt := 60) hx hb dX3_found_56 (by decide) ?_
            refine lv_istore_n (lv' := [(3, .int (zz_i (1))), (0, .ref (gr 0)), (1, .int (zz_i (x))), (2, .int (zz_i (f))), (4, .int (zz_i (j)))]) hx hb dX3_found_60 rfl hl (by decide) rfl (fun ls hl => ?_)
            refine lv_iinc (v := zz_i (j + 1)) (lv' := [(4, .int (zz_i (j + 1))), (3, .int (zz_i (1))), (0, .ref (gr 0)), (1, .int (zz_i (x))), (2, .int (zz_i (f)))]) hx hb dX3_found_61 hl (k := 4) rfl (zz_add _ _) (by decide) rfl (fun ls hl => ?_)
            refine lv_goto (tgt := 31) hx hb dX3_found_64 (by decide) ?_
            exact ih31 (j + 1, 1) _ _ _ (show (σ 7 0 - (j + 1)).toNat < (σ 7 0 - j).toNat by omega) ⟨(show 0 ≤ (j + 1) ∧ (j + 1) ≤ σ 7 0 from (by omega)), (show (1 : Int) = 0 ∨ (1 : Int) = 1 from (by omega)), (show th_p σ x (j + 1) (1 : Int) from (th_s v2 v3 (by omega) (by omega))), hP, hD, hS, lv_sub hl [2, 3, 4, 1, 0] rfl⟩
    · exact absurd c4 (by omega)
end
