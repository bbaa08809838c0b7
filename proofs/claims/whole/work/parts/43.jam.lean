section
set_option maxHeartbeats 4000000 in
set_option maxRecDepth 100000 in
theorem c_jam (l : Launch) (hl9 : l.stackTraces = false) (D : va_G) (cy ga : Nat → Nat) (ad : Int → Nat) (σ : zz_S) (sz : Nat) (hI : iv_ σ) (x y : Int) (q_x : (-2147483648 ≤ x ∧ x < 2147483648)) (q_y : (-2147483648 ≤ y ∧ y < 2147483648)) : vx_Met l yX2_jam wsX2_jam ({ frames := 7, cells := 1, slots := 6, locals := 102 }) (ct_P D cy [.ref (ga 0), .int (zz_i (x)), .int (zz_i (y))] (cw_ cy ga ad σ) sz) (ct_Q D cy (cw_ cy ga ad σ) sz (some (.int (zz_i (s_jam σ x y 7 0)))) (fun _ : Unit => k_jam σ x y = 0) (fun _ => cw_ cy ga ad (s_jam σ x y))) (ct_X D cy (cw_ cy ga ad σ) sz (k_jam σ x y ≠ 0) (ex_s (k_jam σ x y))) 1 6 (va_A (cw_ cy ga ad σ) sz) := by
  refine vx_ofW (cc := cX2_jam) (maxL := 5) (ret := (some .int)) (by decide) rfl ?_
  intro p e s m args below meth c s₁ B hml htb hv
  obtain ⟨rfl, rfl, hP, hK, hD0, hE⟩ := hv
  have hx := B.exec
  have hb := B.bytes
  have hr := B.returns
  have hts := atoms_spec (ws := wsX2_jam) B.pre
  have hown : s.vm.findClass RX2 = some m.cls := findClass_of_methodNamed B.named
  have hlocks := B.notSynchronized
  have hD := hD0.self (sz := s.heap.size)
  obtain ⟨A, hAe⟩ : ∃ A, A = va_A (cw_ cy ga ad σ) s.heap.size := ⟨_, rfl⟩
  rw [← hAe] at hD hE
  have hA : ∀ q : Nat, s.heap.size ≤ q → A q := fun q h => by rw [hAe]; exact Or.inr h
  have hS : va_S A s.heap s.heap [] := va_S.rf
  have hP : va_P D zz_cl (cw_ cy ga ad σ) s.heap := hP
  have hl := lv_entry ([.ref (ga 0), .int (zz_i (x)), .int (zz_i (y))]) (n := 5) (Nat.le_of_ble_eq_true rfl)
  rw [lg_entry_eq]
  generalize (lg_sl ([.ref (ga 0), .int (zz_i (x)), .int (zz_i (y))]) ++ List.replicate (5 - (lg_sl ([.ref (ga 0), .int (zz_i (x)), .int (zz_i (y))])).length) Slot.unset).toArray = ls at hl ⊢
  have hl : lv_has ls 5 [(0, .ref (ga 0)), (1, .int (zz_i (x))), (2, .int (zz_i (y)))] := hl
  obtain ⟨⟨j1, j2, j3, j4, j5, j6, j7, j8, j9, j10⟩, j11, j12, j13, j14, j15, j16, j17, j18, j19, j20, j21, j22, j23, j24⟩ := id hI
  have haIAE := at_IAE (Ts := wsX2_jam) hts (by decide +kernel) hE
  have hiX2 : ∀ w ∈ wsX20, w ∈ wsX2_jam := by decide +kernel
  have hf173 := hts (.fieldLink RX2 173 "SorterSteps" "jammed" "Z") (by decide +kernel)
  have hf21 := hts (.fieldLink RX2 21 "SorterSteps" "doubted" "LSorterSteps$ItemRow;") (by decide +kernel)
  refine lv_aload_n hx hb dX2_jam_0 rfl (lv_at hl 0 rfl) ?_
  refine lv_iload_n hx hb dX2_jam_1 rfl (lv_at hl 1 rfl) ?_
  refine zc_v (As := [.int (zz_i (x))]) (rest := []) (S := Unit) (pc := 2) ⟨hx, hb, hml, hown, hts⟩ (c_isInLoop l D cy ga ad σ _ hI.1 (x) (by omega)) (cwV 1 hts gX2_jam_X2_isInLoop rfl rfl rfl (by decide +kernel) ⟨Nat.le_of_ble_eq_true rfl, Nat.le_of_ble_eq_true rfl⟩) hK hP hD hS hA hE (va_recv hK hP (ci := 2) (q0 := 0) rfl rfl) rfl hl.1 rfl (Nat.le_of_ble_eq_true rfl) dX2_jam_2 ⟨Nat.le_of_ble_eq_true rfl, Nat.le_of_ble_eq_true rfl⟩ (fun _ H locs k1 hP hD hS => ?_)
  refine W.eq (g2 := F0 m 5 ls [.int (zz_i (sp_il σ (x)))]) rfl ?_
  have b1_0 := sp_il_b σ (x)
  refine zz_if_eq (tgt := 16) hx hb dX2_jam_5 (by decide) (by omega) (fun c2 => ?_) (fun c2 => ?_)
  · have hk9 : k_jam σ x y = 1 := by unfold k_jam; (repeat (first | rw [if_pos (by omega)] | rw [if_neg (by omega)])) <;> first | rfl | omega
    rw [show ex_s (k_jam σ x y) = "java/lang/IllegalArgumentException" from by rw [hk9]; rfl]
    exact th_row (own := RX2) (cls := "java/lang/IllegalArgumentException") hx hb hl9 hown (by decide +kernel) (by decide +kernel) (hts (.classLink RX2 82 "java/lang/IllegalArgumentException") (by decide +kernel)) (hts (.initialized "java/lang/IllegalArgumentException") (by decide +kernel)) (hE.2.2.2.1 (171, "no such positions") (by decide +kernel)) haIAE go_IAE hAe hE hK hP hD hS (hl.1.trans hml.symm) dX2_jam_16 dX2_jam_19 dX2_jam_20 dX2_jam_22 dX2_jam_25 htb (Nat.le_of_ble_eq_true rfl) (Nat.le_of_ble_eq_true rfl) (Nat.le_of_ble_eq_true rfl) (Nat.le_of_ble_eq_true rfl) hlocks (by rw [hk9]; decide) (Nat.le_of_ble_eq_true rfl) (Nat.le_of_ble_eq_true rfl)
  · refine lv_aload_n hx hb dX2_jam_8 rfl (lv_at hl 0 rfl) ?_
    refine lv_iload_n hx hb dX2_jam_9 rfl (lv_at hl 2 rfl) ?_
    refine zc_v (As := [.int (zz_i (y))]) (rest := []) (S := Unit) (pc := 10) ⟨hx, hb, hml, hown, hts⟩ (c_isInLoop l D cy ga ad σ _ hI.1 (y) (by omega)) (cwV 1 hts gX2_jam_X2_isInLoop rfl rfl rfl (by decide +kernel) ⟨Nat.le_of_ble_eq_true rfl, Nat.le_of_ble_eq_true rfl⟩) hK hP hD hS hA hE (va_recv hK hP (ci := 2) (q0 := 0) rfl rfl) rfl hl.1 rfl (Nat.le_of_ble_eq_true rfl) dX2_jam_10 ⟨Nat.le_of_ble_eq_true rfl, Nat.le_of_ble_eq_true rfl⟩ (fun _ H locs k3 hP hD hS => ?_)
    refine W.eq (g2 := F0 m 13 ls [.int (zz_i (sp_il σ (y)))]) rfl ?_
    have b3_0 := sp_il_b σ (y)
    refine zz_if_ne (tgt := 26) hx hb dX2_jam_13 (by decide) (by omega) (fun c4 => ?_) (fun c4 => ?_)
    · have h60 := j21
      refine lv_aload_n hx hb dX2_jam_26 rfl (lv_at hl 0 rfl) ?_
      refine zc_x (As := []) (rest := []) (S := Unit) (pc := 27) ⟨hx, hb, hml, hown, hts⟩ (c_requireNotJammed l hl9 D cy ga ad σ _ hI.1) (cwV 0 hts gX2_jam_X2_requireNotJammed rfl rfl rfl (by decide +kernel) ⟨Nat.le_of_ble_eq_true rfl, Nat.le_of_ble_eq_true rfl⟩) hK hP hD hS hA hE (va_recv hK hP (ci := 2) (q0 := 0) rfl rfl) rfl hl.1 rfl (Nat.le_of_ble_eq_true rfl) dX2_jam_27 ⟨Nat.le_of_ble_eq_true rfl, Nat.le_of_ble_eq_true rfl⟩ (fun k5 ce q9 H locs hP hD hS hce hcv hcl => ?_) (fun _ H locs k5 hP hD hS => ?_)
      · have hk9 : k_jam σ x y = 2 := by unfold k_jam; (repeat (first | rw [if_pos (by omega)] | rw [if_neg (by omega)])) <;> first | rfl | omega
        rw [show ex_s (k_jam σ x y) = "java/lang/IllegalStateException" from by rw [hk9]; rfl]
        exact th_out (E := "java/lang/IllegalStateException") hAe htb hlocks hK hP hD hS hce hcv hcl (by rw [hk9]; decide) (Nat.le_of_ble_eq_true rfl) (Nat.le_of_ble_eq_true rfl)
      · refine W.eq (g2 := F0 m 30 ls []) rfl ?_
        refine lv_aload_n hx hb dX2_jam_30 rfl (lv_at hl 0 rfl) ?_
        refine lv_iconst (v := zz_i (1)) hx hb dX2_jam_31 rfl ?_
        have hw1 : iw_ (up_s σ 6 1) := ⟨j1, j2, j3, j4, j5, j6, Or.inr rfl, j8, j9, j10⟩
        refine va_put (D := D) (ci := 2) (v := .int (zz_i (1))) (ty := .boolean) (C := RX2) (T := TX2) (N := 10) hx hb hts hiX2 tyX2 tyX2_ok nmX2 hown hK hP hD hS (0) rfl rfl 9 (by decide) hf173 (fun _ h9 => h9) rfl (by decide +kernel) (zz_narB (by omega)) (zz_fitB (by omega)) (Nat.le_of_ble_eq_true rfl) dX2_jam_32 (fun H locs hP hD hS => ?_)
        have hP : va_P D zz_cl (cw_ cy ga ad (up_s σ 6 (1))) H := hP
        have hD : va_D A (cw_ cy ga ad (up_s σ 6 (1))) := hD
        refine lv_aload_n hx hb dX2_jam_35 rfl (lv_at hl 0 rfl) ?_
        refine lv_iload_n hx hb dX2_jam_36 rfl (lv_at hl 2 rfl) ?_
        refine lv_iload_n hx hb dX2_jam_37 rfl (lv_at hl 1 rfl) ?_
        refine zz_isub hx hb dX2_jam_38 ?_
        refine zc_v (As := [.int (zz_i (y - x))]) (rest := []) (S := Unit) (pc := 39) ⟨hx, hb, hml, hown, hts⟩ (c_intoLoop l D cy ga ad (up_s σ 6 (1)) _ hw1 (y - x) (by omega)) (cwV 1 hts gX2_jam_X2_intoLoop rfl rfl rfl (by decide +kernel) ⟨Nat.le_of_ble_eq_true rfl, Nat.le_of_ble_eq_true rfl⟩) hK hP hD hS hA hE (va_recv hK hP (ci := 2) (q0 := 0) rfl rfl) rfl hl.1 rfl (Nat.le_of_ble_eq_true rfl) dX2_jam_39 ⟨Nat.le_of_ble_eq_true rfl, Nat.le_of_ble_eq_true rfl⟩ (fun _ H locs k6 hP hD hS => ?_)
        refine W.eq (g2 := F0 m 42 ls [.int (zz_i (sp_in (up_s σ 6 (1)) (y - x)))]) rfl ?_
        have b6_0 := sp_in_b (up_s σ 6 (1)) (y - x)
        refine W.eq (g2 := F0 m 42 ls [.int (zz_i (sp_in σ (y - x)))]) rfl ?_
        refine lv_istore_n (lv' := [(3, .int (zz_i (sp_in σ (y - x)))), (0, .ref (ga 0)), (1, .int (zz_i (x))), (2, .int (zz_i (y)))]) hx hb dX2_jam_42 rfl hl (by decide) rfl (fun ls hl => ?_)
        have b_d := sp_in_b σ (y - x)
        refine lv_iconst (v := zz_i (0)) hx hb dX2_jam_43 rfl ?_
        refine lv_istore (lv' := [(4, .int (zz_i (0))), (3, .int (zz_i (sp_in σ (y - x)))), (0, .ref (ga 0)), (1, .int (zz_i (x))), (2, .int (zz_i (y)))]) hx hb dX2_jam_44 hl (by decide) rfl (fun ls hl => ?_)
        refine zz_lp (α := Int × zz_S) (μ := fun z9 => (sp_in σ (y - x) + 1 - z9.1).toNat) (cf := fun _ => 1) (sf := fun _ => 6) (I := fun z9 H locs ls => (0 ≤ z9.1 ∧ z9.1 ≤ sp_in σ (y - x) + 1) ∧ (z9.2 = it_da (up_s σ 6 1) x z9.1.toNat) ∧ va_P D zz_cl (cw_ cy ga ad z9.2) H ∧ va_D A (cw_ cy ga ad z9.2) ∧ va_S A s.heap H locs ∧ lv_has ls 5 [(0, .ref (ga 0)), (1, .int (zz_i (x))), (3, .int (zz_i (sp_in σ (y - x)))), (4, .int (zz_i (z9.1)))]) ?_ (0, (up_s σ 6 (1))) _ _ _ ⟨(show 0 ≤ (0 : Int) ∧ (0 : Int) ≤ sp_in σ (y - x) + 1 from (by omega)), (show (up_s σ 6 (1)) = it_da (up_s σ 6 1) x (0 : Int).toNat from rfl), hP, hD, hS, lv_sub hl [2, 3, 1, 0] rfl⟩
        rintro ⟨j, τ⟩ H locs ls ⟨v1, v2, hP, hD, hS, hl⟩ ih46
        have v1 : 0 ≤ j ∧ j ≤ sp_in σ (y - x) + 1 := v1
        have v2 : τ = it_da (up_s σ 6 1) x j.toNat := v2
        have hP : va_P D zz_cl (cw_ cy ga ad τ) H := hP
        have hD : va_D A (cw_ cy ga ad τ) := hD
        have hl : lv_has ls 5 [(0, .ref (ga 0)), (1, .int (zz_i (x))), (3, .int (zz_i (sp_in σ (y - x)))), (4, .int (zz_i (j)))] := hl
        have w3 := iw_da (k := j.toNat) hI.1 v2 (by omega)
        obtain ⟨⟨t1, t2, t3, t4, t5, t6, t7, t8, t9, t10⟩, u1, u2, u3, u4, u5, u6⟩ := id w3
        have w11 : ∀ t, 0 ≤ τ 10 t ∧ τ 10 t ≤ τ 4 0 := fun t => by rw [u4, u2]; exact ⟨(j11 t).1, (j11 t).2.1⟩
        refine lv_iload hx hb dX2_jam_46 (lv_at hl 3 rfl) ?_
        refine lv_iload_n hx hb dX2_jam_48 rfl (lv_at hl 2 rfl) ?_
        refine zz_icmp_gt (tgt := 70) hx hb dX2_jam_49 (by decide) (by omega) (by omega) (fun c7 => ?_) (fun c7 => ?_)
        · refine lv_aload_n hx hb dX2_jam_70 rfl (lv_at hl 0 rfl) ?_
          refine va_get (D := D) (ci := 2) (v := .ref (ga 5)) (C := RX2) (T := TX2) (N := 10) hx hb hts hiX2 hown hK hP (0) rfl rfl 4 (by decide) hf21 (fun _ h9 => h9) rfl dX2_jam_71 ?_
          refine zc_v (As := []) (rest := []) (S := Unit) (pc := 74) ⟨hx, hb, hml, hown, hts⟩ (c_size_db l D cy ga ad τ _) (cwV 0 hts gX2_jam_X1_size rfl rfl rfl (by decide +kernel) ⟨Nat.le_of_ble_eq_true rfl, Nat.le_of_ble_eq_true rfl⟩) hK hP hD hS hA hE (va_recv hK hP (ci := 1) (q0 := 5) rfl rfl) rfl hl.1 rfl (Nat.le_of_ble_eq_true rfl) dX2_jam_74 ⟨Nat.le_of_ble_eq_true rfl, Nat.le_of_ble_eq_true rfl⟩ (fun _ H locs k8 hP hD hS => ?_)
          refine W.eq (g2 := F0 m 77 ls [.int (zz_i (τ 7 0))]) rfl ?_
          have hv9 : s_jam σ x y 7 0 = τ 7 0 := by (have e9 : τ = s_jam σ x y := by rw [v2, show j = sp_in σ (y - x) + 1 by omega]; rfl); rw [e9]
          have hw9 : cw_ cy ga ad (s_jam σ x y) = cw_ cy ga ad τ := by (have e9 : τ = s_jam σ x y := by rw [v2, show j = sp_in σ (y - x) + 1 by omega]; rfl); rw [e9]
          subst hAe
          refine W.widen (k := 1) (n := 6) (Nat.le_of_ble_eq_true rfl) (Nat.le_of_ble_eq_true rfl) ?_
          refine vx_ret ?_
          exact W.iret (v := zz_i (τ 7 0)) hx hb hr (fun t ht hW => ⟨congrArg (fun z => Outcome.returned (some (Value.int (zz_i z)))) hv9.symm, ⟨(), (by unfold k_jam; (repeat (first | rw [if_pos (by omega)] | rw [if_neg (by omega)])) <;> first | rfl | omega), by rw [ht, hw9]; exact hP, va_K.moved hW.alike hK, by rw [hw9]; exact hD⟩, hS.F ht⟩) hS.2.2 dX2_jam_77
        · refine lv_aload_n hx hb dX2_jam_52 rfl (lv_at hl 0 rfl) ?_
          refine lv_aload_n hx hb dX2_jam_53 rfl (lv_at hl 0 rfl) ?_
          refine lv_iload_n hx hb dX2_jam_54 rfl (lv_at hl 1 rfl) ?_
          refine lv_iload hx hb dX2_jam_55 (lv_at hl 3 rfl) ?_
          refine zz_iadd hx hb dX2_jam_57 ?_
          refine zc_v (As := [.int (zz_i (x + j))]) (rest := [.ref (ga 0)]) (S := Unit) (pc := 58) ⟨hx, hb, hml, hown, hts⟩ (c_intoLoop l D cy ga ad τ _ w3.1 (x + j) (by omega)) (cwV 1 hts gX2_jam_X2_intoLoop rfl rfl rfl (by decide +kernel) ⟨Nat.le_of_ble_eq_true rfl, Nat.le_of_ble_eq_true rfl⟩) hK hP hD hS hA hE (va_recv hK hP (ci := 2) (q0 := 0) rfl rfl) rfl hl.1 rfl (Nat.le_of_ble_eq_true rfl) dX2_jam_58 ⟨Nat.le_of_ble_eq_true rfl, Nat.le_of_ble_eq_true rfl⟩ (fun _ H locs k9 hP hD hS => ?_)
          refine W.eq (g2 := F0 m 61 ls [.int (zz_i (sp_in τ (x + j))), .ref (ga 0)]) rfl ?_
          have b9_0 := sp_in_b τ (x + j)
          refine W.eq (g2 := F0 m 61 ls [.int (zz_i (sp_in (up_s σ 6 1) (x + j))), .ref (ga 0)]) (by rw [sp_in_e (show τ 0 0 = (up_s σ 6 1) 0 0 from w3.2.1)]) ?_
          have b_j := sp_in_b (up_s σ 6 1) (x + j)
          have b_0 : (up_s σ 6 1) 0 0 = σ 0 0 := rfl
          refine zc_v (As := [.int (zz_i (sp_in (up_s σ 6 1) (x + j)))]) (rest := []) (S := Unit) (pc := 61) ⟨hx, hb, hml, hown, hts⟩ (c_doubtItemAt l D cy ga ad τ _ w3.1 w11 (sp_in (up_s σ 6 1) (x + j)) (by omega) (by omega)) (cwV 1 hts gX2_jam_X2_doubtItemAt rfl rfl rfl (by decide +kernel) ⟨Nat.le_of_ble_eq_true rfl, Nat.le_of_ble_eq_true rfl⟩) hK hP hD hS hA hE (va_recv hK hP (ci := 2) (q0 := 0) rfl rfl) rfl hl.1 rfl (Nat.le_of_ble_eq_true rfl) dX2_jam_61 ⟨Nat.le_of_ble_eq_true rfl, Nat.le_of_ble_eq_true rfl⟩ (fun _ H locs k10 hP hD hS => ?_)
          refine W.eq (g2 := F0 m 64 ls []) rfl ?_
          refine lv_iinc (v := zz_i (j + 1)) (lv' := [(4, .int (zz_i (j + 1))), (0, .ref (ga 0)), (1, .int (zz_i (x))), (3, .int (zz_i (sp_in σ (y - x))))]) hx hb dX2_jam_64 hl (k := 3) rfl (zz_add _ _) (by decide) rfl (fun ls hl => ?_)
          refine lv_goto (tgt := 46) hx hb dX2_jam_67 (by decide) ?_
          exact ih46 (j + 1, (sp_da τ (sp_in (up_s σ 6 1) (x + j)))) _ _ _ (show (sp_in σ (y - x) + 1 - (j + 1)).toNat < (sp_in σ (y - x) + 1 - j).toNat by omega) ⟨(show 0 ≤ (j + 1) ∧ (j + 1) ≤ sp_in σ (y - x) + 1 from (by omega)), (show (sp_da τ (sp_in (up_s σ 6 1) (x + j))) = it_da (up_s σ 6 1) x (j + 1).toNat from (it_da_n v2 (by omega))), hP, hD, hS, lv_sub hl [1, 2, 3, 0] rfl⟩
    · have hk9 : k_jam σ x y = 1 := by unfold k_jam; (repeat (first | rw [if_pos (by omega)] | rw [if_neg (by omega)])) <;> first | rfl | omega
      rw [show ex_s (k_jam σ x y) = "java/lang/IllegalArgumentException" from by rw [hk9]; rfl]
      exact th_row (own := RX2) (cls := "java/lang/IllegalArgumentException") hx hb hl9 hown (by decide +kernel) (by decide +kernel) (hts (.classLink RX2 82 "java/lang/IllegalArgumentException") (by decide +kernel)) (hts (.initialized "java/lang/IllegalArgumentException") (by decide +kernel)) (hE.2.2.2.1 (171, "no such positions") (by decide +kernel)) haIAE go_IAE hAe hE hK hP hD hS (hl.1.trans hml.symm) dX2_jam_16 dX2_jam_19 dX2_jam_20 dX2_jam_22 dX2_jam_25 htb (Nat.le_of_ble_eq_true rfl) (Nat.le_of_ble_eq_true rfl) (Nat.le_of_ble_eq_true rfl) (Nat.le_of_ble_eq_true rfl) hlocks (by rw [hk9]; decide) (Nat.le_of_ble_eq_true rfl) (Nat.le_of_ble_eq_true rfl)

set_option maxHeartbeats 4000000 in
set_option maxRecDepth 100000 in
theorem c_retrack (l : Launch) (hl9 : l.stackTraces = false) (D : va_G) (cy ga : Nat → Nat) (ad : Int → Nat) (σ : zz_S) (sz : Nat) (hI : iv_ σ) : vx_Met l yX2_retrack wsX2_retrack ({ frames := 6, cells := 1, slots := 6, locals := 85 }) (ct_P D cy [.ref (ga 0)] (cw_ cy ga ad σ) sz) (ct_Q D cy (cw_ cy ga ad σ) sz (some (.int (zz_i (s_rtk σ 5 0 - σ 5 0)))) (fun _ : Unit => k_rtk σ = 0) (fun _ => cw_ cy ga ad (s_rtk σ))) (ct_X D cy (cw_ cy ga ad σ) sz (k_rtk σ ≠ 0) ("java/lang/IllegalStateException")) 1 6 (va_A (cw_ cy ga ad σ) sz) := by
  refine vx_ofW (cc := cX2_retrack) (maxL := 3) (ret := (some .int)) (by decide) rfl ?_
  intro p e s m args below meth c s₁ B hml htb hv
  obtain ⟨rfl, rfl, hP, hK, hD0, hE⟩ := hv
  have hx := B.exec
  have hb := B.bytes
  have hr := B.returns
  have hts := atoms_spec (ws := wsX2_retrack) B.pre
  have hown : s.vm.findClass RX2 = some m.cls := findClass_of_methodNamed B.named
  have hlocks := B.notSynchronized
  have hD := hD0.self (sz := s.heap.size)
  obtain ⟨A, hAe⟩ : ∃ A, A = va_A (cw_ cy ga ad σ) s.heap.size := ⟨_, rfl⟩
  rw [← hAe] at hD hE
  have hA : ∀ q : Nat, s.heap.size ≤ q → A q := fun q h => by rw [hAe]; exact Or.inr h
  have hS : va_S A s.heap s.heap [] := va_S.rf
  have hP : va_P D zz_cl (cw_ cy ga ad σ) s.heap := hP
  have hl := lv_entry ([.ref (ga 0)]) (n := 3) (Nat.le_of_ble_eq_true rfl)
  rw [lg_entry_eq]
  generalize (lg_sl ([.ref (ga 0)]) ++ List.replicate (3 - (lg_sl ([.ref (ga 0)])).length) Slot.unset).toArray = ls at hl ⊢
  have hl : lv_has ls 3 [(0, .ref (ga 0))] := hl
  obtain ⟨⟨j1, j2, j3, j4, j5, j6, j7, j8, j9, j10⟩, j11, j12, j13, j14, j15, j16, j17, j18, j19, j20, j21, j22, j23, j24⟩ := id hI
  have hiX2 : ∀ w ∈ wsX20, w ∈ wsX2_retrack := by decide +kernel
  have hf173 := hts (.fieldLink RX2 173 "SorterSteps" "jammed" "Z") (by decide +kernel)
  have hf18 := hts (.fieldLink RX2 18 "SorterSteps" "left" "LSorterSteps$ItemRow;") (by decide +kernel)
  have hf21 := hts (.fieldLink RX2 21 "SorterSteps" "doubted" "LSorterSteps$ItemRow;") (by decide +kernel)
  have haISE := at_ISE (Ts := wsX2_retrack) hts (by decide +kernel) hE
  refine lv_aload_n hx hb dX2_retrack_0 rfl (lv_at hl 0 rfl) ?_
  refine va_get (D := D) (ci := 2) (v := .int (zz_i (σ 6 0))) (C := RX2) (T := TX2) (N := 10) hx hb hts hiX2 hown hK hP (0) rfl rfl 9 (by decide) hf173 (fun _ h9 => h9) rfl dX2_retrack_1 ?_
  refine zz_if_ne (tgt := 17) hx hb dX2_retrack_4 (by decide) (by omega) (fun c1 => ?_) (fun c1 => ?_)
  · refine lv_aload_n hx hb dX2_retrack_17 rfl (lv_at hl 0 rfl) ?_
    refine va_get (D := D) (ci := 2) (v := .ref (ga 4)) (C := RX2) (T := TX2) (N := 10) hx hb hts hiX2 hown hK hP (0) rfl rfl 3 (by decide) hf18 (fun _ h9 => h9) rfl dX2_retrack_18 ?_
    refine zc_v (As := []) (rest := []) (S := Unit) (pc := 21) ⟨hx, hb, hml, hown, hts⟩ (c_size_lf l D cy ga ad σ _) (cwV 0 hts gX2_retrack_X1_size rfl rfl rfl (by decide +kernel) ⟨Nat.le_of_ble_eq_true rfl, Nat.le_of_ble_eq_true rfl⟩) hK hP hD hS hA hE (va_recv hK hP (ci := 1) (q0 := 4) rfl rfl) rfl hl.1 rfl (Nat.le_of_ble_eq_true rfl) dX2_retrack_21 ⟨Nat.le_of_ble_eq_true rfl, Nat.le_of_ble_eq_true rfl⟩ (fun _ H locs k2 hP hD hS => ?_)
    refine W.eq (g2 := F0 m 24 ls [.int (zz_i (σ 5 0))]) rfl ?_
    refine lv_istore_n (lv' := [(1, .int (zz_i (σ 5 0))), (0, .ref (ga 0))]) hx hb dX2_retrack_24 rfl hl (by decide) rfl (fun ls hl => ?_)
    refine lv_iconst (v := zz_i (0)) hx hb dX2_retrack_25 rfl ?_
    refine lv_istore_n (lv' := [(2, .int (zz_i (0))), (1, .int (zz_i (σ 5 0))), (0, .ref (ga 0))]) hx hb dX2_retrack_26 rfl hl (by decide) rfl (fun ls hl => ?_)
    refine zz_lp (α := Int × zz_S) (μ := fun z9 => (σ 7 0 - z9.1).toNat) (cf := fun _ => 0) (sf := fun _ => 0) (I := fun z9 H locs ls => (0 ≤ z9.1 ∧ z9.1 ≤ σ 7 0) ∧ (z9.2 = it_ed σ z9.1.toNat) ∧ (ir_ z9.1 z9.2) ∧ (z9.2 7 0 = σ 7 0) ∧ (z9.2 27 z9.1 = σ 27 z9.1) ∧ va_P D zz_cl (cw_ cy ga ad z9.2) H ∧ va_D A (cw_ cy ga ad z9.2) ∧ va_S A s.heap H locs ∧ lv_has ls 3 [(0, .ref (ga 0)), (1, .int (zz_i (σ 5 0))), (2, .int (zz_i (z9.1)))]) ?_ (0, σ) _ _ _ ⟨(show 0 ≤ (0 : Int) ∧ (0 : Int) ≤ σ 7 0 from (by omega)), (show σ = it_ed σ (0 : Int).toNat from rfl), (show ir_ (0 : Int) σ from hI), (show σ 7 0 = σ 7 0 from rfl), (show σ 27 (0 : Int) = σ 27 (0 : Int) from rfl), hP, hD, hS, lv_sub hl [2, 1, 0] rfl⟩
    rintro ⟨j, τ⟩ H locs ls ⟨v1, v2, v3, v4, v5, hP, hD, hS, hl⟩ ih27
    have v1 : 0 ≤ j ∧ j ≤ σ 7 0 := v1
    have v2 : τ = it_ed σ j.toNat := v2
    have v3 : ir_ j τ := v3
    have v4 : τ 7 0 = σ 7 0 := v4
    have v5 : τ 27 j = σ 27 j := v5
    have hP : va_P D zz_cl (cw_ cy ga ad τ) H := hP
    have hD : va_D A (cw_ cy ga ad τ) := hD
    have hl : lv_has ls 3 [(0, .ref (ga 0)), (1, .int (zz_i (σ 5 0))), (2, .int (zz_i (j)))] := hl
    obtain ⟨⟨t1, t2, t3, t4, t5, t6, t7, t8, t9, t10⟩, -⟩ := id v3
    refine lv_iload_n hx hb dX2_retrack_27 rfl (lv_at hl 2 rfl) ?_
    refine lv_aload_n hx hb dX2_retrack_28 rfl (lv_at hl 0 rfl) ?_
    refine va_get (D := D) (ci := 2) (v := .ref (ga 5)) (C := RX2) (T := TX2) (N := 10) hx hb hts hiX2 hown hK hP (0) rfl rfl 4 (by decide) hf21 (fun _ h9 => h9) rfl dX2_retrack_29 ?_
    refine zc_v (As := []) (rest := [.int (zz_i (j))]) (S := Unit) (pc := 32) ⟨hx, hb, hml, hown, hts⟩ (c_size_db l D cy ga ad τ _) (cwV 0 hts gX2_retrack_X1_size rfl rfl rfl (by decide +kernel) ⟨Nat.le_of_ble_eq_true rfl, Nat.le_of_ble_eq_true rfl⟩) hK hP hD hS hA hE (va_recv hK hP (ci := 1) (q0 := 5) rfl rfl) rfl hl.1 rfl (Nat.le_of_ble_eq_true rfl) dX2_retrack_32 ⟨Nat.le_of_ble_eq_true rfl, Nat.le_of_ble_eq_true rfl⟩ (fun _ H locs k3 hP hD hS => ?_)
    refine W.eq (g2 := F0 m 35 ls [.int (zz_i (τ 7 0)), .int (zz_i (j))]) rfl ?_
    refine zz_icmp_ge (tgt := 56) hx hb dX2_retrack_35 (by decide) (by omega) (by omega) (fun c4 => ?_) (fun c4 => ?_)
    · refine lv_aload_n hx hb dX2_retrack_56 rfl (lv_at hl 0 rfl) ?_
      refine va_get (D := D) (ci := 2) (v := .ref (ga 5)) (C := RX2) (T := TX2) (N := 10) hx hb hts hiX2 hown hK hP (0) rfl rfl 4 (by decide) hf21 (fun _ h9 => h9) rfl dX2_retrack_57 ?_
      refine zc_v (As := []) (rest := []) (S := Unit) (pc := 60) ⟨hx, hb, hml, hown, hts⟩ (c_clear_db l D cy ga ad τ _) (cwV 0 hts gX2_retrack_X1_clear rfl rfl rfl (by decide +kernel) ⟨Nat.le_of_ble_eq_true rfl, Nat.le_of_ble_eq_true rfl⟩) hK hP hD hS hA hE (va_recv hK hP (ci := 1) (q0 := 5) rfl rfl) rfl hl.1 rfl (Nat.le_of_ble_eq_true rfl) dX2_retrack_60 ⟨Nat.le_of_ble_eq_true rfl, Nat.le_of_ble_eq_true rfl⟩ (fun _ H locs k5 hP hD hS => ?_)
      refine W.eq (g2 := F0 m 63 ls []) rfl ?_
      refine lv_aload_n hx hb dX2_retrack_63 rfl (lv_at hl 0 rfl) ?_
      refine lv_iconst (v := zz_i (0)) hx hb dX2_retrack_64 rfl ?_
      refine va_put (D := D) (ci := 2) (v := .int (zz_i (0))) (ty := .boolean) (C := RX2) (T := TX2) (N := 10) hx hb hts hiX2 tyX2 tyX2_ok nmX2 hown hK hP hD hS (0) rfl rfl 9 (by decide) hf173 (fun _ h9 => h9) rfl (by decide +kernel) (zz_narB (by omega)) (zz_fitB (by omega)) (Nat.le_of_ble_eq_true rfl) dX2_retrack_65 (fun H locs hP hD hS => ?_)
      have hP : va_P D zz_cl (cw_ cy ga ad (up_s (up_s τ 7 (0)) 6 (0))) H := hP
      have hD : va_D A (cw_ cy ga ad (up_s (up_s τ 7 (0)) 6 (0))) := hD
      refine lv_aload_n hx hb dX2_retrack_68 rfl (lv_at hl 0 rfl) ?_
      refine va_get (D := D) (ci := 2) (v := .ref (ga 4)) (C := RX2) (T := TX2) (N := 10) hx hb hts hiX2 hown hK hP (0) rfl rfl 3 (by decide) hf18 (fun _ h9 => h9) rfl dX2_retrack_69 ?_
      refine zc_v (As := []) (rest := []) (S := Unit) (pc := 72) ⟨hx, hb, hml, hown, hts⟩ (c_size_lf l D cy ga ad (up_s (up_s τ 7 (0)) 6 (0)) _) (cwV 0 hts gX2_retrack_X1_size rfl rfl rfl (by decide +kernel) ⟨Nat.le_of_ble_eq_true rfl, Nat.le_of_ble_eq_true rfl⟩) hK hP hD hS hA hE (va_recv hK hP (ci := 1) (q0 := 4) rfl rfl) rfl hl.1 rfl (Nat.le_of_ble_eq_true rfl) dX2_retrack_72 ⟨Nat.le_of_ble_eq_true rfl, Nat.le_of_ble_eq_true rfl⟩ (fun _ H locs k6 hP hD hS => ?_)
      refine W.eq (g2 := F0 m 75 ls [.int (zz_i ((up_s (up_s τ 7 (0)) 6 (0)) 5 0))]) rfl ?_
      refine lv_iload_n hx hb dX2_retrack_75 rfl (lv_at hl 1 rfl) ?_
      refine zz_isub hx hb dX2_retrack_76 ?_
      have hv9 : s_rtk σ 5 0 - σ 5 0 = ((up_s (up_s τ 7 (0)) 6 (0)) 5 0) - (σ 5 0) := by (have e9 : τ = it_ed σ (σ 7 0).toNat := by rw [v2, show j = σ 7 0 by omega]); unfold s_rtk; rw [← e9]
      have hw9 : cw_ cy ga ad (s_rtk σ) = cw_ cy ga ad (up_s (up_s τ 7 (0)) 6 (0)) := by (have e9 : τ = it_ed σ (σ 7 0).toNat := by rw [v2, show j = σ 7 0 by omega]); unfold s_rtk; rw [← e9]
      subst hAe
      refine W.widen (k := 1) (n := 6) (Nat.le_of_ble_eq_true rfl) (Nat.le_of_ble_eq_true rfl) ?_
      refine vx_ret ?_
      exact W.iret (v := zz_i (((up_s (up_s τ 7 (0)) 6 (0)) 5 0) - (σ 5 0))) hx hb hr (fun t ht hW => ⟨congrArg (fun z => Outcome.returned (some (Value.int (zz_i z)))) hv9.symm, ⟨(), (by unfold k_rtk; (repeat (first | rw [if_pos (by omega)] | rw [if_neg (by omega)])) <;> first | rfl | omega), by rw [ht, hw9]; exact hP, va_K.moved hW.alike hK, by rw [hw9]; exact hD⟩, hS.F ht⟩) hS.2.2 dX2_retrack_77
    · refine lv_aload_n hx hb dX2_retrack_38 rfl (lv_at hl 0 rfl) ?_
      refine lv_aload_n hx hb dX2_retrack_39 rfl (lv_at hl 0 rfl) ?_
      refine va_get (D := D) (ci := 2) (v := .ref (ga 5)) (C := RX2) (T := TX2) (N := 10) hx hb hts hiX2 hown hK hP (0) rfl rfl 4 (by decide) hf21 (fun _ h9 => h9) rfl dX2_retrack_40 ?_
      refine lv_iload_n hx hb dX2_retrack_43 rfl (lv_at hl 2 rfl) ?_
      refine zc_v (As := [.int (zz_i (j))]) (rest := [.ref (ga 0)]) (S := Unit) (pc := 44) ⟨hx, hb, hml, hown, hts⟩ (c_at_db l D cy ga ad τ _ v3.1 (j) (by omega)) (cwV 1 hts gX2_retrack_X1_at rfl rfl rfl (by decide +kernel) ⟨Nat.le_of_ble_eq_true rfl, Nat.le_of_ble_eq_true rfl⟩) hK hP hD hS hA hE (va_recv hK hP (ci := 1) (q0 := 5) rfl rfl) rfl hl.1 rfl (Nat.le_of_ble_eq_true rfl) dX2_retrack_44 ⟨Nat.le_of_ble_eq_true rfl, Nat.le_of_ble_eq_true rfl⟩ (fun _ H locs k7 hP hD hS => ?_)
      refine W.eq (g2 := F0 m 47 ls [va_rf (aq_ ad (sp_ad τ (j))), .ref (ga 0)]) rfl ?_
      have b7_0 := sp_ad_b τ (j)
      rcases aq_or ad (sp_ad τ (j)) with ⟨c8, hv⟩ | ⟨c8, hv⟩
      · refine W.eq (g2 := F0 m 47 ls [.null, .ref (ga 0)]) (congrArg (fun z => F0 m 47 ls (z :: [.ref (ga 0)])) hv) ?_
        have h15 := v3.2.2.2.2.2.1 j (by omega) (by omega)
        exact absurd c8 (by omega)
      · refine W.eq (g2 := F0 m 47 ls [.ref (ad (sp_ad τ (j))), .ref (ga 0)]) (congrArg (fun z => F0 m 47 ls (z :: [.ref (ga 0)])) hv) ?_
        have h15 := v3.2.2.2.2.2.1 j (by omega) (by omega)
        have es : sp_ad τ (j) = τ 27 j := by omega
        have h13 := v3.2.2.2.1 (τ 27 j) (by omega) (by omega)
        have hlf := lf_lt v3 (i := τ 27 j) (by omega) (by omega)
        have e18 : τ 18 (sp_ad τ (j)) = τ 18 (τ 27 j) := by rw [es]
        have e20 : τ 20 (sp_ad τ (j)) = τ 20 (τ 27 j) := by rw [es]
        have es2 : sp_ad τ (j) = σ 27 j := by rw [es, v5]
        refine zc_v (As := [.ref (ad (sp_ad τ (j)))]) (rest := []) (S := Unit) (pc := 47) ⟨hx, hb, hml, hown, hts⟩ (c_endDoubt l D cy ga ad τ _ v3.1 (sp_ad τ (j)) (by omega) (by omega) (by omega) (by omega)) (cwV 1 hts gX2_retrack_X2_endDoubt rfl rfl rfl (by decide +kernel) ⟨Nat.le_of_ble_eq_true rfl, Nat.le_of_ble_eq_true rfl⟩) hK hP hD hS hA hE (va_recv hK hP (ci := 2) (q0 := 0) rfl rfl) rfl hl.1 rfl (Nat.le_of_ble_eq_true rfl) dX2_retrack_47 ⟨Nat.le_of_ble_eq_true rfl, Nat.le_of_ble_eq_true rfl⟩ (fun _ H locs k9 hP hD hS => ?_)
        refine W.eq (g2 := F0 m 50 ls []) rfl ?_
        refine lv_iinc (v := zz_i (j + 1)) (lv' := [(2, .int (zz_i (j + 1))), (0, .ref (ga 0)), (1, .int (zz_i (σ 5 0)))]) hx hb dX2_retrack_50 hl (k := 2) rfl (zz_add _ _) (by decide) rfl (fun ls hl => ?_)
        refine lv_goto (tgt := 27) hx hb dX2_retrack_53 (by decide) ?_
        exact ih27 (j + 1, (sp_ed τ (sp_ad τ (j)))) _ _ _ (show (σ 7 0 - (j + 1)).toNat < (σ 7 0 - j).toNat by omega) ⟨(show 0 ≤ (j + 1) ∧ (j + 1) ≤ σ 7 0 from (by omega)), (show (sp_ed τ (sp_ad τ (j))) = it_ed σ (j + 1).toNat from (by rw [es2]; exact it_ed_n v2 (by omega))), (show ir_ (j + 1) (sp_ed τ (sp_ad τ (j))) from (by rw [es]; exact pv_ed v3 (by omega))), (show (sp_ed τ (sp_ad τ (j))) 7 0 = σ 7 0 from (by rw [(kp_ed _ _).1]; exact v4)), (show (sp_ed τ (sp_ad τ (j))) 27 (j + 1) = σ 27 (j + 1) from (by rw [(kp_ed _ _).2, v2, (kp_ie σ _).2])), hP, hD, hS, lv_sub hl [1, 2, 0] rfl⟩
  · have hk9 : k_rtk σ = 1 := by unfold k_rtk; (repeat (first | rw [if_pos (by omega)] | rw [if_neg (by omega)])) <;> first | rfl | omega
    exact th_row (own := RX2) (cls := "java/lang/IllegalStateException") hx hb hl9 hown (by decide +kernel) (by decide +kernel) (hts (.classLink RX2 99 "java/lang/IllegalStateException") (by decide +kernel)) (hts (.initialized "java/lang/IllegalStateException") (by decide +kernel)) (hE.2.2.2.1 (193, "it is not jammed") (by decide +kernel)) haISE go_ISE hAe hE hK hP hD hS (hl.1.trans hml.symm) dX2_retrack_7 dX2_retrack_10 dX2_retrack_11 dX2_retrack_13 dX2_retrack_16 htb (Nat.le_of_ble_eq_true rfl) (Nat.le_of_ble_eq_true rfl) (Nat.le_of_ble_eq_true rfl) (Nat.le_of_ble_eq_true rfl) hlocks (by rw [hk9]; decide) (Nat.le_of_ble_eq_true rfl) (Nat.le_of_ble_eq_true rfl)
end
