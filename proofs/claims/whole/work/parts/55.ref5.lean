section
set_option maxHeartbeats 4000000 in
set_option maxRecDepth 100000 in
theorem r_told (l : Launch) (D : va_G) (cy gr : Nat → Nat) (kc : Int) (σ : zz_S) (sz : Nat) (hI : iv_ σ) (x y : Int) (q_x : (-2147483648 ≤ x ∧ x < 2147483648)) (q_y : (-2147483648 ≤ y ∧ y < 2147483648)) : Met l yX3_told wsX3_told ({ frames := 2, cells := 0, slots := 0, locals := 43 }) (ct_P D cy [.ref (gr 0), .int (zz_i (x)), .int (zz_i (y))] (rk_ cy gr kc σ) sz) (ct_Q D cy (rk_ cy gr kc σ) sz (some (.int (zz_i (an_ (k_tol σ x y) (v_tol σ x y))))) (fun _ : Unit => True) (fun _ => rk_ cy gr (k_tol σ x y) (nx_ (k_tol σ x y) σ σ))) 0 0 (va_A (rk_ cy gr kc σ) sz) := by
  refine Met.ofW (cc := cX3_told) (maxL := 4) (ret := (some .int)) (by decide) rfl ?_
  intro p e s m args below meth c s₁ B hml hv
  obtain ⟨rfl, rfl, hP, hK, hD0, hE⟩ := hv
  have hx := B.exec
  have hb := B.bytes
  have hr := B.returns
  have hts := atoms_spec (ws := wsX3_told) B.pre
  have hown : s.vm.findClass RX3 = some m.cls := findClass_of_methodNamed B.named
  have hlocks := B.notSynchronized
  have hD := hD0.self (sz := s.heap.size)
  obtain ⟨A, hAe⟩ : ∃ A, A = va_A (rk_ cy gr kc σ) s.heap.size := ⟨_, rfl⟩
  rw [← hAe] at hD hE
  have hA : ∀ q : Nat, s.heap.size ≤ q → A q := fun q h => by rw [hAe]; exact Or.inr h
  have hS : va_S A s.heap s.heap [] := va_S.rf
  have hP : va_P D zz_cl (rk_ cy gr kc σ) s.heap := hP
  have hl := lv_entry ([.ref (gr 0), .int (zz_i (x)), .int (zz_i (y))]) (n := 4) (Nat.le_of_ble_eq_true rfl)
  rw [lg_entry_eq]
  generalize (lg_sl ([.ref (gr 0), .int (zz_i (x)), .int (zz_i (y))]) ++ List.replicate (4 - (lg_sl ([.ref (gr 0), .int (zz_i (x)), .int (zz_i (y))])).length) Slot.unset).toArray = ls at hl ⊢
  have hl : lv_has ls 4 [(0, .ref (gr 0)), (1, .int (zz_i (x))), (2, .int (zz_i (y)))] := hl
  obtain ⟨⟨j1, j2, j3, j4, j5, j6, j7, j8, j9, j10⟩, j11, j12, j13, j14, j15, j16, j17, j18, j19, j20, j21, j22, j23, j24⟩ := id hI
  have hiX3 : ∀ w ∈ wsX30, w ∈ wsX3_told := by decide +kernel
  have hf63 := hts (.fieldLink RX3 63 "SorterStepsModel" "code" "I") (by decide +kernel)
  have hf81 := hts (.fieldLink RX3 81 "SorterStepsModel" "steps" "I") (by decide +kernel)
  have hf57 := hts (.fieldLink RX3 57 "SorterStepsModel" "trays" "I") (by decide +kernel)
  have hf33 := hts (.fieldLink RX3 33 "SorterStepsModel" "retries" "[I") (by decide +kernel)
  have hf21 := hts (.fieldLink RX3 21 "SorterStepsModel" "length" "[I") (by decide +kernel)
  have hf30 := hts (.fieldLink RX3 30 "SorterStepsModel" "rounds" "[I") (by decide +kernel)
  have hf27 := hts (.fieldLink RX3 27 "SorterStepsModel" "way" "[I") (by decide +kernel)
  have hf24 := hts (.fieldLink RX3 24 "SorterStepsModel" "state" "[I") (by decide +kernel)
  refine lv_aload_n hx hb dX3_told_0 rfl (lv_at hl 0 rfl) ?_
  refine lv_aload_n hx hb dX3_told_1 rfl (lv_at hl 0 rfl) ?_
  refine lv_iload_n hx hb dX3_told_2 rfl (lv_at hl 1 rfl) ?_
  refine zc_v (As := [.int (zz_i (x))]) (rest := [.ref (gr 0)]) (S := Unit) (pc := 3) ⟨hx, hb, hml, hown, hts⟩ (r_isItem l D cy gr kc σ _ hI.1 (x) (by omega)) (cwV 1 hts gX3_told_X3_isItem rfl rfl rfl (by decide +kernel) ⟨Nat.le_of_ble_eq_true rfl, Nat.le_of_ble_eq_true rfl⟩) hK hP hD hS hA hE (va_recv hK hP (ci := 3) (q0 := 0) rfl rfl) rfl hl.1 rfl (Nat.le_of_ble_eq_true rfl) dX3_told_3 ⟨Nat.le_of_ble_eq_true rfl, Nat.le_of_ble_eq_true rfl⟩ (fun _ H locs k1 hP hD hS => ?_)
  refine W.eq (g2 := F0 m 6 ls [.int (zz_i (sp_bt (x) 1 (σ 4 0))), .ref (gr 0)]) rfl ?_
  have b1 : (sp_bt (x) 1 (σ 4 0) = 1 ∧ 1 ≤ x ∧ x ≤ σ 4 0) ∨ (sp_bt (x) 1 (σ 4 0) = 0 ∧ (x < 1 ∨ σ 4 0 < x)) := sp_bt_b (x) 1 (σ 4 0)
  refine zz_if_eq (tgt := 19) hx hb dX3_told_6 (by decide) (by omega) (fun c2 => ?_) (fun c2 => ?_)
  · refine lv_iconst (v := zz_i (1)) hx hb dX3_told_19 rfl ?_
    refine lv_goto (tgt := 24) hx hb dX3_told_20 (by decide) ?_
    refine va_put (D := D) (ci := 3) (v := .int (zz_i (1))) (ty := .int) (C := RX3) (T := TX3) (N := 23) hx hb hts hiX3 tyX3 tyX3_ok nmX3 hown hK hP hD hS (0) rfl rfl 0 (by decide) hf63 (fun _ h9 => h9) rfl (by decide +kernel) rfl rfl (Nat.le_of_ble_eq_true rfl) dX3_told_24 (fun H locs hP hD hS => ?_)
    have hP : va_P D zz_cl (rk_ cy gr 1 σ) H := hP
    have hD : va_D A (rk_ cy gr 1 σ) := hD
    refine lv_aload_n hx hb dX3_told_27 rfl (lv_at hl 0 rfl) ?_
    refine va_get (D := D) (ci := 3) (v := .int (zz_i (1))) (C := RX3) (T := TX3) (N := 23) hx hb hts hiX3 hown hK hP (0) rfl rfl 0 (by decide) hf63 (fun _ h9 => h9) rfl dX3_told_28 ?_
    refine zz_if_le (tgt := 36) hx hb dX3_told_31 (by decide) (by omega) (fun c3 => ?_) (fun c3 => ?_)
    · exact absurd c3 (by omega)
    · refine lv_iconst (v := zz_i (0)) hx hb dX3_told_34 rfl ?_
      have hv9 : an_ (k_tol σ x y) (v_tol σ x y) = 0 := by (have hk9 : k_tol σ x y = 1 := by unfold k_tol; (repeat (first | rw [if_pos (by omega)] | rw [if_neg (by omega)])) <;> first | rfl | omega); rw [hk9]; rfl
      have hw9 : rk_ cy gr (k_tol σ x y) (nx_ (k_tol σ x y) σ σ) = rk_ cy gr 1 σ := by (have hk9 : k_tol σ x y = 1 := by unfold k_tol; (repeat (first | rw [if_pos (by omega)] | rw [if_neg (by omega)])) <;> first | rfl | omega); rw [hk9]; rfl
      subst hAe
      exact W.iret (v := zz_i (0)) hx hb hr (fun t ht hW => ⟨congrArg (fun z => Outcome.returned (some (Value.int (zz_i z)))) hv9.symm, ⟨(), trivial, by rw [ht, hw9]; exact hP, va_K.moved hW.alike hK, by rw [hw9]; exact hD⟩, hS.F ht⟩) hS.2.2 dX3_told_35
  · refine lv_iload_n hx hb dX3_told_9 rfl (lv_at hl 2 rfl) ?_
    refine lv_iconst (v := zz_i (0)) hx hb dX3_told_10 rfl ?_
    refine lv_bipush (v := zz_i (6)) hx hb dX3_told_11 (by decide) ?_
    refine zc_s (As := [.int (zz_i (y)), .int (zz_i (0)), .int (zz_i (6))]) (rest := [.ref (gr 0)]) (S := Unit) (pc := 13) ⟨hx, hb, hml, hown, hts⟩ (r_in l D cy (rk_ cy gr kc σ) _ (y) (0) (6) (by omega) (by omega) (by omega)) (va_cwS 3 hts gX3_told_X3_in rfl rfl rfl (by decide +kernel) ⟨Nat.le_of_ble_eq_true rfl, Nat.le_of_ble_eq_true rfl⟩) hK hP hD hS hA hE rfl hl.1 rfl (Nat.le_of_ble_eq_true rfl) dX3_told_13 ⟨Nat.le_of_ble_eq_true rfl, Nat.le_of_ble_eq_true rfl⟩ (fun _ H locs k4 hP hD hS => ?_)
    refine W.eq (g2 := F0 m 16 ls [.int (zz_i (sp_bt (y) (0) (6))), .ref (gr 0)]) rfl ?_
    have b4 := sp_bt_b (y) (0) (6)
    refine zz_if_ne (tgt := 23) hx hb dX3_told_16 (by decide) (by omega) (fun c5 => ?_) (fun c5 => ?_)
    · refine lv_iconst (v := zz_i (0)) hx hb dX3_told_23 rfl ?_
      refine va_put (D := D) (ci := 3) (v := .int (zz_i (0))) (ty := .int) (C := RX3) (T := TX3) (N := 23) hx hb hts hiX3 tyX3 tyX3_ok nmX3 hown hK hP hD hS (0) rfl rfl 0 (by decide) hf63 (fun _ h9 => h9) rfl (by decide +kernel) rfl rfl (Nat.le_of_ble_eq_true rfl) dX3_told_24 (fun H locs hP hD hS => ?_)
      have hP : va_P D zz_cl (rk_ cy gr 0 σ) H := hP
      have hD : va_D A (rk_ cy gr 0 σ) := hD
      refine lv_aload_n hx hb dX3_told_27 rfl (lv_at hl 0 rfl) ?_
      refine va_get (D := D) (ci := 3) (v := .int (zz_i (0))) (C := RX3) (T := TX3) (N := 23) hx hb hts hiX3 hown hK hP (0) rfl rfl 0 (by decide) hf63 (fun _ h9 => h9) rfl dX3_told_28 ?_
      refine zz_if_le (tgt := 36) hx hb dX3_told_31 (by decide) (by omega) (fun c6 => ?_) (fun c6 => ?_)
      · have hit := j13 x (by omega) (by omega)
        refine lv_iload_n hx hb dX3_told_36 rfl (lv_at hl 2 rfl) ?_
        refine zz_if_ne (tgt := 47) hx hb dX3_told_37 (by decide) (by omega) (fun c7 => ?_) (fun c7 => ?_)
        · refine lv_iload_n hx hb dX3_told_47 rfl (lv_at hl 2 rfl) ?_
          refine lv_iconst (v := zz_i (1)) hx hb dX3_told_48 rfl ?_
          refine zz_icmp_ne (tgt := 59) hx hb dX3_told_49 (by decide) (by omega) (by omega) (fun c8 => ?_) (fun c8 => ?_)
          · refine lv_iload_n hx hb dX3_told_59 rfl (lv_at hl 2 rfl) ?_
            refine lv_iconst (v := zz_i (2)) hx hb dX3_told_60 rfl ?_
            refine zz_icmp_ne (tgt := 71) hx hb dX3_told_61 (by decide) (by omega) (by omega) (fun c9 => ?_) (fun c9 => ?_)
            · refine lv_iload_n hx hb dX3_told_71 rfl (lv_at hl 2 rfl) ?_
              refine lv_iconst (v := zz_i (3)) hx hb dX3_told_72 rfl ?_
              refine zz_icmp_ne (tgt := 83) hx hb dX3_told_73 (by decide) (by omega) (by omega) (fun c10 => ?_) (fun c10 => ?_)
              · refine lv_iload_n hx hb dX3_told_83 rfl (lv_at hl 2 rfl) ?_
                refine lv_bipush (v := zz_i (6)) hx hb dX3_told_84 (by decide) ?_
                refine zz_icmp_ne (tgt := 96) hx hb dX3_told_86 (by decide) (by omega) (by omega) (fun c11 => ?_) (fun c11 => ?_)
                · refine lv_aload_n hx hb dX3_told_96 rfl (lv_at hl 0 rfl) ?_
                  refine lv_iload_n hx hb dX3_told_97 rfl (lv_at hl 1 rfl) ?_
                  refine zc_v (As := [.int (zz_i (x))]) (rest := []) (S := Unit) (pc := 98) ⟨hx, hb, hml, hown, hts⟩ (r_trayOf l D cy gr 0 σ _ _ hI (x) (by omega)) (cwV 1 hts gX3_told_X3_trayOf rfl rfl rfl (by decide +kernel) ⟨Nat.le_of_ble_eq_true rfl, Nat.le_of_ble_eq_true rfl⟩) hK hP hD hS hA hE (va_recv hK hP (ci := 3) (q0 := 0) rfl rfl) rfl hl.1 rfl (Nat.le_of_ble_eq_true rfl) dX3_told_98 ⟨Nat.le_of_ble_eq_true rfl, Nat.le_of_ble_eq_true rfl⟩ (fun _ H locs k12 hP hD hS => ?_)
                  refine W.eq (g2 := F0 m 101 ls [.int (zz_i (σ 18 (x)))]) rfl ?_
                  refine lv_istore_n (lv' := [(3, .int (zz_i (σ 18 (x)))), (0, .ref (gr 0)), (1, .int (zz_i (x))), (2, .int (zz_i (y)))]) hx hb dX3_told_101 rfl hl (by decide) rfl (fun ls hl => ?_)
                  refine lv_iload_n hx hb dX3_told_102 rfl (lv_at hl 0 rfl) ?_
                  refine lv_iconst (v := zz_i (-1)) hx hb dX3_told_103 rfl ?_
                  refine zz_icmp_ne (tgt := 111) hx hb dX3_told_104 (by decide) (by omega) (by omega) (fun c13 => ?_) (fun c13 => ?_)
                  · refine lv_iload_n hx hb dX3_told_111 rfl (lv_at hl 3 rfl) ?_
                    refine lv_iconst (v := zz_i (4)) hx hb dX3_told_112 rfl ?_
                    refine zz_icmp_ne (tgt := 120) hx hb dX3_told_113 (by decide) (by omega) (by omega) (fun c14 => ?_) (fun c14 => ?_)
                    · refine lv_iload_n hx hb dX3_told_120 rfl (lv_at hl 0 rfl) ?_
                      refine lv_aload_n hx hb dX3_told_121 rfl (lv_at hl 1 rfl) ?_
                      refine va_get (D := D) (ci := 3) (v := .int (zz_i (σ 2 0))) (C := RX3) (T := TX3) (N := 23) hx hb hts hiX3 hown hK hP (0) rfl rfl 3 (by decide) hf81 (fun _ h9 => h9) rfl dX3_told_122 ?_
                      refine zz_iadd hx hb dX3_told_125 ?_
                      refine lv_aload_n hx hb dX3_told_126 rfl (lv_at hl 1 rfl) ?_
                      refine va_get (D := D) (ci := 3) (v := .int (zz_i (σ 0 0))) (C := RX3) (T := TX3) (N := 23) hx hb hts hiX3 hown hK hP (0) rfl rfl 1 (by decide) hf57 (fun _ h9 => h9) rfl dX3_told_127 ?_
                      refine zz_irem hx hb dX3_told_130 (by omega) (by omega) ?_
                      refine W.eq (g2 := F0 m 131 ls [.int (zz_i (sp_in σ (σ 18 (x) + σ 8 0)))]) (by rw [md_po hI.1 j17 (show 0 ≤ σ 18 (x) ∧ σ 18 (x) < σ 0 0 by omega)]) ?_
                      have hv9 : an_ (k_tol σ x y) (v_tol σ x y) = sp_in σ (σ 18 (x) + σ 8 0) := by (have hk9 : k_tol σ x y = 0 := by unfold k_tol; (repeat (first | rw [if_pos (by omega)] | rw [if_neg (by omega)])) <;> first | rfl | omega); rw [hk9]; show v_tol σ x y = sp_in σ (σ 18 (x) + σ 8 0); (have b_p := sp_po_b σ x); unfold v_tol; (repeat (first | rw [if_pos (by omega)] | rw [if_neg (by omega)])) <;> first | rfl | omega
                      have hw9 : rk_ cy gr (k_tol σ x y) (nx_ (k_tol σ x y) σ σ) = rk_ cy gr 0 σ := by (have hk9 : k_tol σ x y = 0 := by unfold k_tol; (repeat (first | rw [if_pos (by omega)] | rw [if_neg (by omega)])) <;> first | rfl | omega); rw [hk9]; show rk_ cy gr 0 σ = rk_ cy gr 0 σ; rfl
                      subst hAe
                      exact W.iret (v := zz_i (sp_in σ (σ 18 (x) + σ 8 0))) hx hb hr (fun t ht hW => ⟨congrArg (fun z => Outcome.returned (some (Value.int (zz_i z)))) hv9.symm, ⟨(), trivial, by rw [ht, hw9]; exact hP, va_K.moved hW.alike hK, by rw [hw9]; exact hD⟩, hS.F ht⟩) hS.2.2 dX3_told_131
                    · refine lv_iload_n hx hb dX3_told_116 rfl (lv_at hl 0 rfl) ?_
                      refine lv_goto (tgt := 131) hx hb dX3_told_117 (by decide) ?_
                      have hv9 : an_ (k_tol σ x y) (v_tol σ x y) = σ 18 (x) := by (have hk9 : k_tol σ x y = 0 := by unfold k_tol; (repeat (first | rw [if_pos (by omega)] | rw [if_neg (by omega)])) <;> first | rfl | omega); rw [hk9]; show v_tol σ x y = σ 18 (x); (have b_p := sp_po_b σ x); unfold v_tol; (repeat (first | rw [if_pos (by omega)] | rw [if_neg (by omega)])) <;> first | rfl | omega
                      have hw9 : rk_ cy gr (k_tol σ x y) (nx_ (k_tol σ x y) σ σ) = rk_ cy gr 0 σ := by (have hk9 : k_tol σ x y = 0 := by unfold k_tol; (repeat (first | rw [if_pos (by omega)] | rw [if_neg (by omega)])) <;> first | rfl | omega); rw [hk9]; show rk_ cy gr 0 σ = rk_ cy gr 0 σ; rfl
                      subst hAe
                      exact W.iret (v := zz_i (σ 18 (x))) hx hb hr (fun t ht hW => ⟨congrArg (fun z => Outcome.returned (some (Value.int (zz_i z)))) hv9.symm, ⟨(), trivial, by rw [ht, hw9]; exact hP, va_K.moved hW.alike hK, by rw [hw9]; exact hD⟩, hS.F ht⟩) hS.2.2 dX3_told_131
                  · refine lv_iconst (v := zz_i (-1)) hx hb dX3_told_107 rfl ?_
                    refine lv_goto (tgt := 131) hx hb dX3_told_108 (by decide) ?_
                    have hv9 : an_ (k_tol σ x y) (v_tol σ x y) = -1 := by (have hk9 : k_tol σ x y = 0 := by unfold k_tol; (repeat (first | rw [if_pos (by omega)] | rw [if_neg (by omega)])) <;> first | rfl | omega); rw [hk9]; show v_tol σ x y = -1; (have b_p := sp_po_b σ x); unfold v_tol; (repeat (first | rw [if_pos (by omega)] | rw [if_neg (by omega)])) <;> first | rfl | omega
                    have hw9 : rk_ cy gr (k_tol σ x y) (nx_ (k_tol σ x y) σ σ) = rk_ cy gr 0 σ := by (have hk9 : k_tol σ x y = 0 := by unfold k_tol; (repeat (first | rw [if_pos (by omega)] | rw [if_neg (by omega)])) <;> first | rfl | omega); rw [hk9]; show rk_ cy gr 0 σ = rk_ cy gr 0 σ; rfl
                    subst hAe
                    exact W.iret (v := zz_i (-1)) hx hb hr (fun t ht hW => ⟨congrArg (fun z => Outcome.returned (some (Value.int (zz_i z)))) hv9.symm, ⟨(), trivial, by rw [ht, hw9]; exact hP, va_K.moved hW.alike hK, by rw [hw9]; exact hD⟩, hS.F ht⟩) hS.2.2 dX3_told_131
                · refine lv_aload_n hx hb dX3_told_89 rfl (lv_at hl 0 rfl) ?_
                  refine va_get (D := D) (ci := 3) (v := .ref (gr 7)) (C := RX3) (T := TX3) (N := 23) hx hb hts hiX3 hown hK hP (0) rfl rfl 12 (by decide) hf33 (fun _ h9 => h9) rfl dX3_told_90 ?_
                  refine lv_iload_n hx hb dX3_told_93 rfl (lv_at hl 1 rfl) ?_
                  refine zz_iald hx hb hK hP 7 0 rfl rfl (show 0 ≤ x ∧ x < ((61 : Nat) : Int) by omega) (show 61 < 2147483648 by omega) dX3_told_94 ?_
                  have hv9 : an_ (k_tol σ x y) (v_tol σ x y) = σ 16 x := by (have hk9 : k_tol σ x y = 0 := by unfold k_tol; (repeat (first | rw [if_pos (by omega)] | rw [if_neg (by omega)])) <;> first | rfl | omega); rw [hk9]; show v_tol σ x y = σ 16 x; (have b_p := sp_po_b σ x); unfold v_tol; (repeat (first | rw [if_pos (by omega)] | rw [if_neg (by omega)])) <;> first | rfl | omega
                  have hw9 : rk_ cy gr (k_tol σ x y) (nx_ (k_tol σ x y) σ σ) = rk_ cy gr 0 σ := by (have hk9 : k_tol σ x y = 0 := by unfold k_tol; (repeat (first | rw [if_pos (by omega)] | rw [if_neg (by omega)])) <;> first | rfl | omega); rw [hk9]; show rk_ cy gr 0 σ = rk_ cy gr 0 σ; rfl
                  subst hAe
                  exact W.iret (v := zz_i (σ 16 x)) hx hb hr (fun t ht hW => ⟨congrArg (fun z => Outcome.returned (some (Value.int (zz_i z)))) hv9.symm, ⟨(), trivial, by rw [ht, hw9]; exact hP, va_K.moved hW.alike hK, by rw [hw9]; exact hD⟩, hS.F ht⟩) hS.2.2 dX3_told_95
              · refine lv_aload_n hx hb dX3_told_76 rfl (lv_at hl 0 rfl) ?_
                refine va_get (D := D) (ci := 3) (v := .ref (gr 3)) (C := RX3) (T := TX3) (N := 23) hx hb hts hiX3 hown hK hP (0) rfl rfl 8 (by decide) hf21 (fun _ h9 => h9) rfl dX3_told_77 ?_
                refine lv_iload_n hx hb dX3_told_80 rfl (lv_at hl 1 rfl) ?_
                refine zz_iald hx hb hK hP 3 0 rfl rfl (show 0 ≤ x ∧ x < ((61 : Nat) : Int) by omega) (show 61 < 2147483648 by omega) dX3_told_81 ?_
                have hv9 : an_ (k_tol σ x y) (v_tol σ x y) = σ 12 x := by (have hk9 : k_tol σ x y = 0 := by unfold k_tol; (repeat (first | rw [if_pos (by omega)] | rw [if_neg (by omega)])) <;> first | rfl | omega); rw [hk9]; show v_tol σ x y = σ 12 x; (have b_p := sp_po_b σ x); unfold v_tol; (repeat (first | rw [if_pos (by omega)] | rw [if_neg (by omega)])) <;> first | rfl | omega
                have hw9 : rk_ cy gr (k_tol σ x y) (nx_ (k_tol σ x y) σ σ) = rk_ cy gr 0 σ := by (have hk9 : k_tol σ x y = 0 := by unfold k_tol; (repeat (first | rw [if_pos (by omega)] | rw [if_neg (by omega)])) <;> first | rfl | omega); rw [hk9]; show rk_ cy gr 0 σ = rk_ cy gr 0 σ; rfl
                subst hAe
                exact W.iret (v := zz_i (σ 12 x)) hx hb hr (fun t ht hW => ⟨congrArg (fun z => Outcome.returned (some (Value.int (zz_i z)))) hv9.symm, ⟨(), trivial, by rw [ht, hw9]; exact hP, va_K.moved hW.alike hK, by rw [hw9]; exact hD⟩, hS.F ht⟩) hS.2.2 dX3_told_82
            · refine lv_aload_n hx hb dX3_told_64 rfl (lv_at hl 0 rfl) ?_
              refine va_get (D := D) (ci := 3) (v := .ref (gr 6)) (C := RX3) (T := TX3) (N := 23) hx hb hts hiX3 hown hK hP (0) rfl rfl 11 (by decide) hf30 (fun _ h9 => h9) rfl dX3_told_65 ?_
              refine lv_iload_n hx hb dX3_told_68 rfl (lv_at hl 1 rfl) ?_
              refine zz_iald hx hb hK hP 6 0 rfl rfl (show 0 ≤ x ∧ x < ((61 : Nat) : Int) by omega) (show 61 < 2147483648 by omega) dX3_told_69 ?_
              have hv9 : an_ (k_tol σ x y) (v_tol σ x y) = σ 15 x := by (have hk9 : k_tol σ x y = 0 := by unfold k_tol; (repeat (first | rw [if_pos (by omega)] | rw [if_neg (by omega)])) <;> first | rfl | omega); rw [hk9]; show v_tol σ x y = σ 15 x; (have b_p := sp_po_b σ x); unfold v_tol; (repeat (first | rw [if_pos (by omega)] | rw [if_neg (by omega)])) <;> first | rfl | omega
              have hw9 : rk_ cy gr (k_tol σ x y) (nx_ (k_tol σ x y) σ σ) = rk_ cy gr 0 σ := by (have hk9 : k_tol σ x y = 0 := by unfold k_tol; (repeat (first | rw [if_pos (by omega)] | rw [if_neg (by omega)])) <;> first | rfl | omega); rw [hk9]; show rk_ cy gr 0 σ = rk_ cy gr 0 σ; rfl
              subst hAe
              exact W.iret (v := zz_i (σ 15 x)) hx hb hr (fun t ht hW => ⟨congrArg (fun z => Outcome.returned (some (Value.int (zz_i z)))) hv9.symm, ⟨(), trivial, by rw [ht, hw9]; exact hP, va_K.moved hW.alike hK, by rw [hw9]; exact hD⟩, hS.F ht⟩) hS.2.2 dX3_told_70
          · refine lv_aload_n hx hb dX3_told_52 rfl (lv_at hl 0 rfl) ?_
            refine va_get (D := D) (ci := 3) (v := .ref (gr 5)) (C := RX3) (T := TX3) (N := 23) hx hb hts hiX3 hown hK hP (0) rfl rfl 10 (by decide) hf27 (fun _ h9 => h9) rfl dX3_told_53 ?_
            refine lv_iload_n hx hb dX3_told_56 rfl (lv_at hl 1 rfl) ?_
            refine zz_iald hx hb hK hP 5 0 rfl rfl (show 0 ≤ x ∧ x < ((61 : Nat) : Int) by omega) (show 61 < 2147483648 by omega) dX3_told_57 ?_
            have hv9 : an_ (k_tol σ x y) (v_tol σ x y) = σ 14 x := by (have hk9 : k_tol σ x y = 0 := by unfold k_tol; (repeat (first | rw [if_pos (by omega)] | rw [if_neg (by omega)])) <;> first | rfl | omega); rw [hk9]; show v_tol σ x y = σ 14 x; (have b_p := sp_po_b σ x); unfold v_tol; (repeat (first | rw [if_pos (by omega)] | rw [if_neg (by omega)])) <;> first | rfl | omega
            have hw9 : rk_ cy gr (k_tol σ x y) (nx_ (k_tol σ x y) σ σ) = rk_ cy gr 0 σ := by (have hk9 : k_tol σ x y = 0 := by unfold k_tol; (repeat (first | rw [if_pos (by omega)] | rw [if_neg (by omega)])) <;> first | rfl | omega); rw [hk9]; show rk_ cy gr 0 σ = rk_ cy gr 0 σ; rfl
            subst hAe
            exact W.iret (v := zz_i (σ 14 x)) hx hb hr (fun t ht hW => ⟨congrArg (fun z => Outcome.returned (some (Value.int (zz_i z)))) hv9.symm, ⟨(), trivial, by rw [ht, hw9]; exact hP, va_K.moved hW.alike hK, by rw [hw9]; exact hD⟩, hS.F ht⟩) hS.2.2 dX3_told_58
        · refine lv_aload_n hx hb dX3_told_40 rfl (lv_at hl 0 rfl) ?_
          refine va_get (D := D) (ci := 3) (v := .ref (gr 4)) (C := RX3) (T := TX3) (N := 23) hx hb hts hiX3 hown hK hP (0) rfl rfl 9 (by decide) hf24 (fun _ h9 => h9) rfl dX3_told_41 ?_
          refine lv_iload_n hx hb dX3_told_44 rfl (lv_at hl 1 rfl) ?_
          refine zz_iald hx hb hK hP 4 0 rfl rfl (show 0 ≤ x ∧ x < ((61 : Nat) : Int) by omega) (show 61 < 2147483648 by omega) dX3_told_45 ?_
          have hv9 : an_ (k_tol σ x y) (v_tol σ x y) = σ 13 x := by (have hk9 : k_tol σ x y = 0 := by unfold k_tol; (repeat (first | rw [if_pos (by omega)] | rw [if_neg (by omega)])) <;> first | rfl | omega); rw [hk9]; show v_tol σ x y = σ 13 x; (have b_p := sp_po_b σ x); unfold v_tol; (repeat (first | rw [if_pos (by omega)] | rw [if_neg (by omega)])) <;> first | rfl | omega
          have hw9 : rk_ cy gr (k_tol σ x y) (nx_ (k_tol σ x y) σ σ) = rk_ cy gr 0 σ := by (have hk9 : k_tol σ x y = 0 := by unfold k_tol; (repeat (first | rw [if_pos (by omega)] | rw [if_neg (by omega)])) <;> first | rfl | omega); rw [hk9]; show rk_ cy gr 0 σ = rk_ cy gr 0 σ; rfl
          subst hAe
          exact W.iret (v := zz_i (σ 13 x)) hx hb hr (fun t ht hW => ⟨congrArg (fun z => Outcome.returned (some (Value.int (zz_i z)))) hv9.symm, ⟨(), trivial, by rw [ht, hw9]; exact hP, va_K.moved hW.alike hK, by rw [hw9]; exact hD⟩, hS.F ht⟩) hS.2.2 dX3_told_46
      · exact absurd c6 (by omega)
    · refine lv_iconst (v := zz_i (1)) hx hb dX3_told_19 rfl ?_
      refine lv_goto (tgt := 24) hx hb dX3_told_20 (by decide) ?_
      refine va_put (D := D) (ci := 3) (v := .int (zz_i (1))) (ty := .int) (C := RX3) (T := TX3) (N := 23) hx hb hts hiX3 tyX3 tyX3_ok nmX3 hown hK hP hD hS (0) rfl rfl 0 (by decide) hf63 (fun _ h9 => h9) rfl (by decide +kernel) rfl rfl (Nat.le_of_ble_eq_true rfl) dX3_told_24 (fun H locs hP hD hS => ?_)
      have hP : va_P D zz_cl (rk_ cy gr 1 σ) H := hP
      have hD : va_D A (rk_ cy gr 1 σ) := hD
      refine lv_aload_n hx hb dX3_told_27 rfl (lv_at hl 0 rfl) ?_
      refine va_get (D := D) (ci := 3) (v := .int (zz_i (1))) (C := RX3) (T := TX3) (N := 23) hx hb hts hiX3 hown hK hP (0) rfl rfl 0 (by decide) hf63 (fun _ h9 => h9) rfl dX3_told_28 ?_
      refine zz_if_le (tgt := 36) hx hb dX3_told_31 (by decide) (by omega) (fun c15 => ?_) (fun c15 => ?_)
      · exact absurd c15 (by omega)
      · refine lv_iconst (v := zz_i (0)) hx hb dX3_told_34 rfl ?_
        have hv9 : an_ (k_tol σ x y) (v_tol σ x y) = 0 := by (have hk9 : k_tol σ x y = 1 := by unfold k_tol; (repeat (first | rw [if_pos (by omega)] | rw [if_neg (by omega)])) <;> first | rfl | omega); rw [hk9]; rfl
        have hw9 : rk_ cy gr (k_tol σ x y) (nx_ (k_tol σ x y) σ σ) = rk_ cy gr 1 σ := by (have hk9 : k_tol σ x y = 1 := by unfold k_tol; (repeat (first | rw [if_pos (by omega)] | rw [if_neg (by omega)])) <;> first | rfl | omega); rw [hk9]; rfl
        subst hAe
        exact W.iret (v := zz_i (0)) hx hb hr (fun t ht hW => ⟨congrArg (fun z => Outcome.returned (some (Value.int (zz_i z)))) hv9.symm, ⟨(), trivial, by rw [ht, hw9]; exact hP, va_K.moved hW.alike hK, by rw [hw9]; exact hD⟩, hS.F ht⟩) hS.2.2 dX3_told_35

set_option maxHeartbeats 4000000 in
set_option maxRecDepth 100000 in
theorem r_retrack (l : Launch) (D : va_G) (cy gr : Nat → Nat) (kc : Int) (σ : zz_S) (sz : Nat) (hI : iv_ σ) : Met l yX3_retrack wsX3_retrack ({ frames := 1, cells := 0, slots := 0, locals := 24 }) (ct_P D cy [.ref (gr 0)] (rk_ cy gr kc σ) sz) (ct_Q D cy (rk_ cy gr kc σ) sz (some (.int (zz_i (an_ (k_rtk σ) (s_rtk σ 5 0 - σ 5 0))))) (fun _ : Unit => True) (fun _ => rk_ cy gr (k_rtk σ) (nx_ (k_rtk σ) σ (s_rtk σ)))) 0 0 (va_A (rk_ cy gr kc σ) sz) := by
  refine Met.ofW (cc := cX3_retrack) (maxL := 3) (ret := (some .int)) (by decide) rfl ?_
  intro p e s m args below meth c s₁ B hml hv
  obtain ⟨rfl, rfl, hP, hK, hD0, hE⟩ := hv
  have hx := B.exec
  have hb := B.bytes
  have hr := B.returns
  have hts := atoms_spec (ws := wsX3_retrack) B.pre
  have hown : s.vm.findClass RX3 = some m.cls := findClass_of_methodNamed B.named
  have hlocks := B.notSynchronized
  have hD := hD0.self (sz := s.heap.size)
  obtain ⟨A, hAe⟩ : ∃ A, A = va_A (rk_ cy gr kc σ) s.heap.size := ⟨_, rfl⟩
  rw [← hAe] at hD hE
  have hA : ∀ q : Nat, s.heap.size ≤ q → A q := fun q h => by rw [hAe]; exact Or.inr h
  have hS : va_S A s.heap s.heap [] := va_S.rf
  have hP : va_P D zz_cl (rk_ cy gr kc σ) s.heap := hP
  have hl := lv_entry ([.ref (gr 0)]) (n := 3) (Nat.le_of_ble_eq_true rfl)
  rw [lg_entry_eq]
  generalize (lg_sl ([.ref (gr 0)]) ++ List.replicate (3 - (lg_sl ([.ref (gr 0)])).length) Slot.unset).toArray = ls at hl ⊢
  have hl : lv_has ls 3 [(0, .ref (gr 0))] := hl
  obtain ⟨⟨j1, j2, j3, j4, j5, j6, j7, j8, j9, j10⟩, j11, j12, j13, j14, j15, j16, j17, j18, j19, j20, j21, j22, j23, j24⟩ := id hI
  have hiX3 : ∀ w ∈ wsX30, w ∈ wsX3_retrack := by decide +kernel
  have hf94 := hts (.fieldLink RX3 94 "SorterStepsModel" "jammed" "Z") (by decide +kernel)
  have hf63 := hts (.fieldLink RX3 63 "SorterStepsModel" "code" "I") (by decide +kernel)
  have hf98 := hts (.fieldLink RX3 98 "SorterStepsModel" "left" "I") (by decide +kernel)
  have hf112 := hts (.fieldLink RX3 112 "SorterStepsModel" "doubts" "I") (by decide +kernel)
  have hf54 := hts (.fieldLink RX3 54 "SorterStepsModel" "isFound" "[Z") (by decide +kernel)
  have hf51 := hts (.fieldLink RX3 51 "SorterStepsModel" "doubted" "[I") (by decide +kernel)
  refine lv_aload_n hx hb dX3_retrack_0 rfl (lv_at hl 0 rfl) ?_
  refine lv_aload_n hx hb dX3_retrack_1 rfl (lv_at hl 0 rfl) ?_
  refine va_get (D := D) (ci := 3) (v := .int (zz_i (σ 6 0))) (C := RX3) (T := TX3) (N := 23) hx hb hts hiX3 hown hK hP (0) rfl rfl 19 (by decide) hf94 (fun _ h9 => h9) rfl dX3_retrack_2 ?_
  refine zz_if_eq (tgt := 12) hx hb dX3_retrack_5 (by decide) (by omega) (fun c1 => ?_) (fun c1 => ?_)
  · refine lv_iconst (v := zz_i (1)) hx hb dX3_retrack_12 rfl ?_
    refine va_put (D := D) (ci := 3) (v := .int (zz_i (1))) (ty := .int) (C := RX3) (T := TX3) (N := 23) hx hb hts hiX3 tyX3 tyX3_ok nmX3 hown hK hP hD hS (0) rfl rfl 0 (by decide) hf63 (fun _ h9 => h9) rfl (by decide +kernel) rfl rfl (Nat.le_of_ble_eq_true rfl) dX3_retrack_13 (fun H locs hP hD hS => ?_)
    have hP : va_P D zz_cl (rk_ cy gr 1 σ) H := hP
    have hD : va_D A (rk_ cy gr 1 σ) := hD
    refine lv_aload_n hx hb dX3_retrack_16 rfl (lv_at hl 0 rfl) ?_
    refine va_get (D := D) (ci := 3) (v := .int (zz_i (1))) (C := RX3) (T := TX3) (N := 23) hx hb hts hiX3 hown hK hP (0) rfl rfl 0 (by decide) hf63 (fun _ h9 => h9) rfl dX3_retrack_17 ?_
    refine zz_if_le (tgt := 25) hx hb dX3_retrack_20 (by decide) (by omega) (fun c2 => ?_) (fun c2 => ?_)
    · exact absurd c2 (by omega)
    · refine lv_iconst (v := zz_i (0)) hx hb dX3_retrack_23 rfl ?_
      have hv9 : an_ (k_rtk σ) (s_rtk σ 5 0 - σ 5 0) = 0 := by (have hk9 : k_rtk σ = 1 := by unfold k_rtk; (repeat (first | rw [if_pos (by omega)] | rw [if_neg (by omega)])) <;> first | rfl | omega); rw [hk9]; rfl
      have hw9 : rk_ cy gr (k_rtk σ) (nx_ (k_rtk σ) σ (s_rtk σ)) = rk_ cy gr 1 σ := by (have hk9 : k_rtk σ = 1 := by unfold k_rtk; (repeat (first | rw [if_pos (by omega)] | rw [if_neg (by omega)])) <;> first | rfl | omega); rw [hk9]; rfl
      subst hAe
      exact W.iret (v := zz_i (0)) hx hb hr (fun t ht hW => ⟨congrArg (fun z => Outcome.returned (some (Value.int (zz_i z)))) hv9.symm, ⟨(), trivial, by rw [ht, hw9]; exact hP, va_K.moved hW.alike hK, by rw [hw9]; exact hD⟩, hS.F ht⟩) hS.2.2 dX3_retrack_24
  · refine lv_iconst (v := zz_i (0)) hx hb dX3_retrack_8 rfl ?_
    refine lv_goto (tgt := 13) hx hb dX3_retrack_9 (by decide) ?_
    refine va_put (D := D) (ci := 3) (v := .int (zz_i (0))) (ty := .int) (C := RX3) (T := TX3) (N := 23) hx hb hts hiX3 tyX3 tyX3_ok nmX3 hown hK hP hD hS (0) rfl rfl 0 (by decide) hf63 (fun _ h9 => h9) rfl (by decide +kernel) rfl rfl (Nat.le_of_ble_eq_true rfl) dX3_retrack_13 (fun H locs hP hD hS => ?_)
    have hP : va_P D zz_cl (rk_ cy gr 0 σ) H := hP
    have hD : va_D A (rk_ cy gr 0 σ) := hD
    refine lv_aload_n hx hb dX3_retrack_16 rfl (lv_at hl 0 rfl) ?_
    refine va_get (D := D) (ci := 3) (v := .int (zz_i (0))) (C := RX3) (T := TX3) (N := 23) hx hb hts hiX3 hown hK hP (0) rfl rfl 0 (by decide) hf63 (fun _ h9 => h9) rfl dX3_retrack_17 ?_
    refine zz_if_le (tgt := 25) hx hb dX3_retrack_20 (by decide) (by omega) (fun c3 => ?_) (fun c3 => ?_)
    · refine lv_aload_n hx hb dX3_retrack_25 rfl (lv_at hl 0 rfl) ?_
      refine va_get (D := D) (ci := 3) (v := .int (zz_i (σ 5 0))) (C := RX3) (T := TX3) (N := 23) hx hb hts hiX3 hown hK hP (0) rfl rfl 14 (by decide) hf98 (fun _ h9 => h9) rfl dX3_retrack_26 ?_
      refine lv_istore_n (lv' := [(1, .int (zz_i (σ 5 0))), (0, .ref (gr 0))]) hx hb dX3_retrack_29 rfl hl (by decide) rfl (fun ls hl => ?_)
      refine lv_iconst (v := zz_i (0)) hx hb dX3_retrack_30 rfl ?_
      refine lv_istore_n (lv' := [(2, .int (zz_i (0))), (1, .int (zz_i (σ 5 0))), (0, .ref (gr 0))]) hx hb dX3_retrack_31 rfl hl (by decide) rfl (fun ls hl => ?_)
      refine zz_lp (α := Int × zz_S) (μ := fun z9 => (σ 7 0 - z9.1).toNat) (cf := fun _ => 0) (sf := fun _ => 0) (I := fun z9 H locs ls => (0 ≤ z9.1 ∧ z9.1 ≤ σ 7 0) ∧ (z9.2 = it_ed σ z9.1.toNat) ∧ (ir_ z9.1 z9.2) ∧ (z9.2 7 0 = σ 7 0) ∧ (z9.2 27 z9.1 = σ 27 z9.1) ∧ va_P D zz_cl (rk_ cy gr 0 z9.2) H ∧ va_D A (rk_ cy gr 0 z9.2) ∧ va_S A s.heap H locs ∧ lv_has ls 3 [(0, .ref (gr 0)), (1, .int (zz_i (σ 5 0))), (2, .int (zz_i (z9.1)))]) ?_ (0, σ) _ _ _ ⟨(show 0 ≤ (0 : Int) ∧ (0 : Int) ≤ σ 7 0 from (by omega)), (show σ = it_ed σ (0 : Int).toNat from rfl), (show ir_ (0 : Int) σ from hI), (show σ 7 0 = σ 7 0 from rfl), (show σ 27 (0 : Int) = σ 27 (0 : Int) from rfl), hP, hD, hS, lv_sub hl [2, 1, 0] rfl⟩
      rintro ⟨j, τ⟩ H locs ls ⟨v1, v2, v3, v4, v5, hP, hD, hS, hl⟩ ih32
      have v1 : 0 ≤ j ∧ j ≤ σ 7 0 := v1
      have v2 : τ = it_ed σ j.toNat := v2
      have v3 : ir_ j τ := v3
      have v4 : τ 7 0 = σ 7 0 := v4
      have v5 : τ 27 j = σ 27 j := v5
      have hP : va_P D zz_cl (rk_ cy gr 0 τ) H := hP
      have hD : va_D A (rk_ cy gr 0 τ) := hD
      have hl : lv_has ls 3 [(0, .ref (gr 0)), (1, .int (zz_i (σ 5 0))), (2, .int (zz_i (j)))] := hl
      obtain ⟨⟨t1, t2, t3, t4, t5, t6, t7, t8, t9, t10⟩, -⟩ := id v3
      refine lv_iload_n hx hb dX3_retrack_32 rfl (lv_at hl 2 rfl) ?_
      refine lv_aload_n hx hb dX3_retrack_33 rfl (lv_at hl 0 rfl) ?_
      refine va_get (D := D) (ci := 3) (v := .int (zz_i (τ 7 0))) (C := RX3) (T := TX3) (N := 23) hx hb hts hiX3 hown hK hP (0) rfl rfl 20 (by decide) hf112 (fun _ h9 => h9) rfl dX3_retrack_34 ?_
      refine zz_icmp_ge (tgt := 77) hx hb dX3_retrack_37 (by decide) (by omega) (by omega) (fun c4 => ?_) (fun c4 => ?_)
      · refine lv_aload_n hx hb dX3_retrack_77 rfl (lv_at hl 0 rfl) ?_
        refine lv_iconst (v := zz_i (0)) hx hb dX3_retrack_78 rfl ?_
        refine va_put (D := D) (ci := 3) (v := .int (zz_i (0))) (ty := .boolean) (C := RX3) (T := TX3) (N := 23) hx hb hts hiX3 tyX3 tyX3_ok nmX3 hown hK hP hD hS (0) rfl rfl 19 (by decide) hf94 (fun _ h9 => h9) rfl (by decide +kernel) (zz_narB (by omega)) (zz_fitB (by omega)) (Nat.le_of_ble_eq_true rfl) dX3_retrack_79 (fun H locs hP hD hS => ?_)
        have hP : va_P D zz_cl (rk_ cy gr 0 (up_s τ 6 (0))) H := hP
        have hD : va_D A (rk_ cy gr 0 (up_s τ 6 (0))) := hD
        refine lv_aload_n hx hb dX3_retrack_82 rfl (lv_at hl 0 rfl) ?_
        refine lv_iconst (v := zz_i (0)) hx hb dX3_retrack_83 rfl ?_
        refine va_put (D := D) (ci := 3) (v := .int (zz_i (0))) (ty := .int) (C := RX3) (T := TX3) (N := 23) hx hb hts hiX3 tyX3 tyX3_ok nmX3 hown hK hP hD hS (0) rfl rfl 20 (by decide) hf112 (fun _ h9 => h9) rfl (by decide +kernel) rfl rfl (Nat.le_of_ble_eq_true rfl) dX3_retrack_84 (fun H locs hP hD hS => ?_)
        have hP : va_P D zz_cl (rk_ cy gr 0 (up_s (up_s τ 6 (0)) 7 (0))) H := hP
        have hD : va_D A (rk_ cy gr 0 (up_s (up_s τ 6 (0)) 7 (0))) := hD
        refine lv_aload_n hx hb dX3_retrack_87 rfl (lv_at hl 0 rfl) ?_
        refine va_get (D := D) (ci := 3) (v := .int (zz_i (τ 5 0))) (C := RX3) (T := TX3) (N := 23) hx hb hts hiX3 hown hK hP (0) rfl rfl 14 (by decide) hf98 (fun _ h9 => h9) rfl dX3_retrack_88 ?_
        refine lv_iload_n hx hb dX3_retrack_91 rfl (lv_at hl 1 rfl) ?_
        refine zz_isub hx hb dX3_retrack_92 ?_
        have hv9 : an_ (k_rtk σ) (s_rtk σ 5 0 - σ 5 0) = (τ 5 0) - (σ 5 0) := by (have hk9 : k_rtk σ = 0 := by unfold k_rtk; (repeat (first | rw [if_pos (by omega)] | rw [if_neg (by omega)])) <;> first | rfl | omega); rw [hk9]; show s_rtk σ 5 0 - σ 5 0 = (τ 5 0) - (σ 5 0); (have e9 : τ = it_ed σ (σ 7 0).toNat := by rw [v2, show j = σ 7 0 by omega]); unfold s_rtk; rw [← e9]; rfl
        have hw9 : rk_ cy gr (k_rtk σ) (nx_ (k_rtk σ) σ (s_rtk σ)) = rk_ cy gr 0 (up_s (up_s τ 6 (0)) 7 (0)) := by (have hk9 : k_rtk σ = 0 := by unfold k_rtk; (repeat (first | rw [if_pos (by omega)] | rw [if_neg (by omega)])) <;> first | rfl | omega); rw [hk9]; show rk_ cy gr 0 (s_rtk σ) = rk_ cy gr 0 (up_s (up_s τ 6 (0)) 7 (0)); (have e9 : τ = it_ed σ (σ 7 0).toNat := by rw [v2, show j = σ 7 0 by omega]); unfold s_rtk; rw [← e9]; rfl
        subst hAe
        exact W.iret (v := zz_i ((τ 5 0) - (σ 5 0))) hx hb hr (fun t ht hW => ⟨congrArg (fun z => Outcome.returned (some (Value.int (zz_i z)))) hv9.symm, ⟨(), trivial, by rw [ht, hw9]; exact hP, va_K.moved hW.alike hK, by rw [hw9]; exact hD⟩, hS.F ht⟩) hS.2.2 dX3_retrack_93
      · refine lv_aload_n hx hb dX3_retrack_40 rfl (lv_at hl 0 rfl) ?_
        refine va_get (D := D) (ci := 3) (v := .ref (gr 14)) (C := RX3) (T := TX3) (N := 23) hx hb hts hiX3 hown hK hP (0) rfl rfl 22 (by decide) hf54 (fun _ h9 => h9) rfl dX3_retrack_41 ?_
        refine lv_aload_n hx hb dX3_retrack_44 rfl (lv_at hl 0 rfl) ?_
        refine va_get (D := D) (ci := 3) (v := .ref (gr 13)) (C := RX3) (T := TX3) (N := 23) hx hb hts hiX3 hown hK hP (0) rfl rfl 21 (by decide) hf51 (fun _ h9 => h9) rfl dX3_retrack_45 ?_
        refine lv_iload_n hx hb dX3_retrack_48 rfl (lv_at hl 2 rfl) ?_
        refine zz_iald hx hb hK hP 13 0 rfl rfl (show 0 ≤ j ∧ j < ((40 : Nat) : Int) by omega) (show 40 < 2147483648 by omega) dX3_retrack_49 ?_
        have h15 := v3.2.2.2.2.2.1 j (by omega) (by omega)
        have hit := v3.2.2.2.1 (τ 27 j) (by omega) (by omega)
        refine zz_zald hx hb hK hP 14 1 rfl rfl (show 0 ≤ τ 27 j ∧ τ 27 j < ((61 : Nat) : Int) by omega) (show 61 < 2147483648 by omega) dX3_retrack_50 ?_
        refine zz_if_ne (tgt := 71) hx hb dX3_retrack_51 (by decide) (by omega) (fun c5 => ?_) (fun c5 => ?_)
        · refine lv_iinc (v := zz_i (j + 1)) (lv' := [(2, .int (zz_i (j + 1))), (0, .ref (gr 0)), (1, .int (zz_i (σ 5 0)))]) hx hb dX3_retrack_71 hl (k := 2) rfl (zz_add _ _) (by decide) rfl (fun ls hl => ?_)
          refine lv_goto (tgt := 32) hx hb dX3_retrack_74 (by decide) ?_
          have hw8 : rk_ cy gr 0 (sp_ed τ (τ 27 j)) = rk_ cy gr 0 τ := by unfold sp_ed; rw [if_neg (by omega)]; rfl
          rw [← hw8] at hP hD
          exact ih32 (j + 1, (sp_ed τ (τ 27 j))) _ _ _ (show (σ 7 0 - (j + 1)).toNat < (σ 7 0 - j).toNat by omega) ⟨(show 0 ≤ (j + 1) ∧ (j + 1) ≤ σ 7 0 from (by omega)), (show (sp_ed τ (τ 27 j)) = it_ed σ (j + 1).toNat from (by rw [v5]; exact it_ed_n v2 (by omega))), (show ir_ (j + 1) (sp_ed τ (τ 27 j)) from (pv_ed v3 (by omega))), (show (sp_ed τ (τ 27 j)) 7 0 = σ 7 0 from (by rw [(kp_ed _ _).1]; exact v4)), (show (sp_ed τ (τ 27 j)) 27 (j + 1) = σ 27 (j + 1) from (by rw [(kp_ed _ _).2, v2, (kp_ie σ _).2])), hP, hD, hS, lv_sub hl [1, 2, 0] rfl⟩
        · refine lv_aload_n hx hb dX3_retrack_54 rfl (lv_at hl 0 rfl) ?_
          refine lv_aload_n hx hb dX3_retrack_55 rfl (lv_at hl 0 rfl) ?_
          refine lv_aload_n hx hb dX3_retrack_56 rfl (lv_at hl 0 rfl) ?_
          refine va_get (D := D) (ci := 3) (v := .ref (gr 13)) (C := RX3) (T := TX3) (N := 23) hx hb hts hiX3 hown hK hP (0) rfl rfl 21 (by decide) hf51 (fun _ h9 => h9) rfl dX3_retrack_57 ?_
          refine lv_iload_n hx hb dX3_retrack_60 rfl (lv_at hl 2 rfl) ?_
          refine zz_iald hx hb hK hP 13 0 rfl rfl (show 0 ≤ j ∧ j < ((40 : Nat) : Int) by omega) (show 40 < 2147483648 by omega) dX3_retrack_61 ?_
          refine zc_v (As := [.int (zz_i (τ 27 j))]) (rest := [.ref (gr 0)]) (S := Unit) (pc := 62) ⟨hx, hb, hml, hown, hts⟩ (r_trayOf l D cy gr 0 τ _ _ v3 (τ 27 j) (by omega)) (cwV 1 hts gX3_retrack_X3_trayOf rfl rfl rfl (by decide +kernel) ⟨Nat.le_of_ble_eq_true rfl, Nat.le_of_ble_eq_true rfl⟩) hK hP hD hS hA hE (va_recv hK hP (ci := 3) (q0 := 0) rfl rfl) rfl hl.1 rfl (Nat.le_of_ble_eq_true rfl) dX3_retrack_62 ⟨Nat.le_of_ble_eq_true rfl, Nat.le_of_ble_eq_true rfl⟩ (fun _ H locs k6 hP hD hS => ?_)
          refine W.eq (g2 := F0 m 65 ls [.int (zz_i (τ 18 (τ 27 j))), .ref (gr 0)]) rfl ?_
          refine lv_iconst (v := zz_i (5)) hx hb dX3_retrack_65 rfl ?_
          refine lv_bipush (v := zz_i (-2)) hx hb dX3_retrack_66 (by decide) ?_
          have h10 := hit.2.2.2.2.2.2.2.2.2.2.2.1 h15.2.2
          refine zc_v (As := [.int (zz_i (τ 18 (τ 27 j))), .int (zz_i (5)), .int (zz_i (-2))]) (rest := []) (S := Unit) (pc := 68) ⟨hx, hb, hml, hown, hts⟩ (r_leave l D cy gr 0 τ _ _ v3 (τ 18 (τ 27 j)) (5) (-2) (by omega) (by omega)) (cwV 3 hts gX3_retrack_X3_leave rfl rfl rfl (by decide +kernel) ⟨Nat.le_of_ble_eq_true rfl, Nat.le_of_ble_eq_true rfl⟩) hK hP hD hS hA hE (va_recv hK hP (ci := 3) (q0 := 0) rfl rfl) rfl hl.1 rfl (Nat.le_of_ble_eq_true rfl) dX3_retrack_68 ⟨Nat.le_of_ble_eq_true rfl, Nat.le_of_ble_eq_true rfl⟩ (fun _ H locs k7 hP hD hS => ?_)
          refine W.eq (g2 := F0 m 71 ls []) rfl ?_
          refine lv_iinc (v := zz_i (j + 1)) (lv' := [(2, .int (zz_i (j + 1))), (0, .ref (gr 0)), (1, .int (zz_i (σ 5 0)))]) hx hb dX3_retrack_71 hl (k := 2) rfl (zz_add _ _) (by decide) rfl (fun ls hl => ?_)
          refine lv_goto (tgt := 32) hx hb dX3_retrack_74 (by decide) ?_
          have hw8 : rk_ cy gr 0 (sp_ed τ (τ 27 j)) = rk_ cy gr 0 (sp_lv τ (τ 10 (τ 18 (τ 27 j))) (5) (-2)) := by unfold sp_ed; rw [if_pos (by omega), h10]; rfl
          rw [← hw8] at hP hD
          exact ih32 (j + 1, (sp_ed τ (τ 27 j))) _ _ _ (show (σ 7 0 - (j + 1)).toNat < (σ 7 0 - j).toNat by omega) ⟨(show 0 ≤ (j + 1) ∧ (j + 1) ≤ σ 7 0 from (by omega)), (show (sp_ed τ (τ 27 j)) = it_ed σ (j + 1).toNat from (by rw [v5]; exact it_ed_n v2 (by omega))), (show ir_ (j + 1) (sp_ed τ (τ 27 j)) from (pv_ed v3 (by omega))), (show (sp_ed τ (τ 27 j)) 7 0 = σ 7 0 from (by rw [(kp_ed _ _).1]; exact v4)), (show (sp_ed τ (τ 27 j)) 27 (j + 1) = σ 27 (j + 1) from (by rw [(kp_ed _ _).2, v2, (kp_ie σ _).2])), hP, hD, hS, lv_sub hl [1, 2, 0] rfl⟩
    · exact absurd c3 (by omega)
end
