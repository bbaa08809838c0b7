section
set_option maxHeartbeats 4000000 in
set_option maxRecDepth 100000 in
theorem c_makeOneStep (l : Launch) (D : va_G) (cy ga : Nat → Nat) (ad : Int → Nat) (σ : zz_S) (sz : Nat) (hI : iv_ σ) (h6 : σ 6 0 = 0) (hs : σ 2 0 < 100000000) : Met l yX2_makeOneStep wsX2_makeOneStep ({ frames := 4, cells := 0, slots := 0, locals := 86 }) (ct_P D cy [.ref (ga 0)] (cw_ cy ga ad σ) sz) (ct_Q D cy (cw_ cy ga ad σ) sz none (fun _ : Unit => True) (fun _ => cw_ cy ga ad (sp_ms σ))) 0 0 (va_A (cw_ cy ga ad σ) sz) := by
  refine Met.ofW (cc := cX2_makeOneStep) (maxL := 2) (ret := none) (by decide) rfl ?_
  intro p e s m args below meth c s₁ B hml hv
  obtain ⟨rfl, rfl, hP, hK, hD0, hE⟩ := hv
  have hx := B.exec
  have hb := B.bytes
  have hr := B.returns
  have hts := atoms_spec (ws := wsX2_makeOneStep) B.pre
  have hown : s.vm.findClass RX2 = some m.cls := findClass_of_methodNamed B.named
  have hlocks := B.notSynchronized
  have hD := hD0.self (sz := s.heap.size)
  obtain ⟨A, hAe⟩ : ∃ A, A = va_A (cw_ cy ga ad σ) s.heap.size := ⟨_, rfl⟩
  rw [← hAe] at hD hE
  have hA : ∀ q : Nat, s.heap.size ≤ q → A q := fun q h => by rw [hAe]; exact Or.inr h
  have hS : va_S A s.heap s.heap [] := va_S.rf
  have hP : va_P D zz_cl (cw_ cy ga ad σ) s.heap := hP
  have hl := lv_entry ([.ref (ga 0)]) (n := 2) (Nat.le_of_ble_eq_true rfl)
  rw [lg_entry_eq]
  generalize (lg_sl ([.ref (ga 0)]) ++ List.replicate (2 - (lg_sl ([.ref (ga 0)])).length) Slot.unset).toArray = ls at hl ⊢
  have hl : lv_has ls 2 [(0, .ref (ga 0))] := hl
  obtain ⟨⟨j1, j2, j3, j4, j5, j6, j7, j8, j9, j10⟩, j11, j12, j13, j14, j15, j16, j17, j18, j19, j20, j21, j22, j23, j24⟩ := id hI
  have hw1 : iw_ (up_s σ 2 (σ 2 0 + 1)) := ⟨j1, j2, (show 0 ≤ σ 2 0 + 1 ∧ σ 2 0 + 1 ≤ 100000000 by omega), j4, j5, j6, j7, j8, j9, j10⟩
  have hiX2 : ∀ w ∈ wsX20, w ∈ wsX2_makeOneStep := by decide +kernel
  have hf215 := hts (.fieldLink RX2 215 "SorterSteps" "steps" "I") (by decide +kernel)
  have hf238 := hts (.fieldLink RX2 238 "SorterSteps" "positionOfFirstTray" "I") (by decide +kernel)
  have hf43 := hts (.fieldLink RX2 43 "SorterSteps" "fullChutes" "[Z") (by decide +kernel)
  refine lv_aload_n hx hb dX2_makeOneStep_0 rfl (lv_at hl 0 rfl) ?_
  refine lv_dup hx hb dX2_makeOneStep_1 rfl ?_
  refine va_get (D := D) (ci := 2) (v := .int (zz_i (σ 2 0))) (C := RX2) (T := TX2) (N := 10) hx hb hts hiX2 hown hK hP (0) rfl rfl 7 (by decide) hf215 (fun _ h9 => h9) rfl dX2_makeOneStep_2 ?_
  refine lv_iconst (v := zz_i (1)) hx hb dX2_makeOneStep_5 rfl ?_
  refine zz_iadd hx hb dX2_makeOneStep_6 ?_
  refine va_put (D := D) (ci := 2) (v := .int (zz_i ((σ 2 0) + 1))) (ty := .int) (C := RX2) (T := TX2) (N := 10) hx hb hts hiX2 tyX2 tyX2_ok nmX2 hown hK hP hD hS (0) rfl rfl 7 (by decide) hf215 (fun _ h9 => h9) rfl (by decide +kernel) rfl rfl (Nat.le_of_ble_eq_true rfl) dX2_makeOneStep_7 (fun H locs hP hD hS => ?_)
  have hP : va_P D zz_cl (cw_ cy ga ad (up_s σ 2 ((σ 2 0) + 1))) H := hP
  have hD : va_D A (cw_ cy ga ad (up_s σ 2 ((σ 2 0) + 1))) := hD
  refine lv_aload_n hx hb dX2_makeOneStep_10 rfl (lv_at hl 0 rfl) ?_
  refine lv_aload_n hx hb dX2_makeOneStep_11 rfl (lv_at hl 0 rfl) ?_
  refine lv_aload_n hx hb dX2_makeOneStep_12 rfl (lv_at hl 0 rfl) ?_
  refine va_get (D := D) (ci := 2) (v := .int (zz_i (σ 8 0))) (C := RX2) (T := TX2) (N := 10) hx hb hts hiX2 hown hK hP (0) rfl rfl 8 (by decide) hf238 (fun _ h9 => h9) rfl dX2_makeOneStep_13 ?_
  refine lv_iconst (v := zz_i (1)) hx hb dX2_makeOneStep_16 rfl ?_
  refine zz_iadd hx hb dX2_makeOneStep_17 ?_
  refine zc_v (As := [.int (zz_i ((σ 8 0) + 1))]) (rest := [.ref (ga 0)]) (S := Unit) (pc := 18) ⟨hx, hb, hml, hown, hts⟩ (c_intoLoop l D cy ga ad (up_s σ 2 ((σ 2 0) + 1)) _ hw1 ((σ 8 0) + 1) (by omega)) (cwV 1 hts gX2_makeOneStep_X2_intoLoop rfl rfl rfl (by decide +kernel) ⟨Nat.le_of_ble_eq_true rfl, Nat.le_of_ble_eq_true rfl⟩) hK hP hD hS hA hE (va_recv hK hP (ci := 2) (q0 := 0) rfl rfl) rfl hl.1 rfl (Nat.le_of_ble_eq_true rfl) dX2_makeOneStep_18 ⟨Nat.le_of_ble_eq_true rfl, Nat.le_of_ble_eq_true rfl⟩ (fun _ H locs k1 hP hD hS => ?_)
  refine W.eq (g2 := F0 m 21 ls [.int (zz_i (sp_in (up_s σ 2 ((σ 2 0) + 1)) ((σ 8 0) + 1))), .ref (ga 0)]) rfl ?_
  have b1_0 := sp_in_b (up_s σ 2 ((σ 2 0) + 1)) ((σ 8 0) + 1)
  refine va_put (D := D) (ci := 2) (v := .int (zz_i (sp_in (up_s σ 2 ((σ 2 0) + 1)) ((σ 8 0) + 1)))) (ty := .int) (C := RX2) (T := TX2) (N := 10) hx hb hts hiX2 tyX2 tyX2_ok nmX2 hown hK hP hD hS (0) rfl rfl 8 (by decide) hf238 (fun _ h9 => h9) rfl (by decide +kernel) rfl rfl (Nat.le_of_ble_eq_true rfl) dX2_makeOneStep_21 (fun H locs hP hD hS => ?_)
  have hP : va_P D zz_cl (cw_ cy ga ad (up_s (up_s σ 2 ((σ 2 0) + 1)) 8 (sp_in (up_s σ 2 ((σ 2 0) + 1)) ((σ 8 0) + 1)))) H := hP
  have hD : va_D A (cw_ cy ga ad (up_s (up_s σ 2 ((σ 2 0) + 1)) 8 (sp_in (up_s σ 2 ((σ 2 0) + 1)) ((σ 8 0) + 1)))) := hD
  refine lv_iconst (v := zz_i (1)) hx hb dX2_makeOneStep_24 rfl ?_
  refine lv_istore_n (lv' := [(1, .int (zz_i (1))), (0, .ref (ga 0))]) hx hb dX2_makeOneStep_25 rfl hl (by decide) rfl (fun ls hl => ?_)
  refine zz_lp (α := Int × zz_S) (μ := fun z9 => (σ 28 0 + 1 - z9.1).toNat) (cf := fun _ => 0) (sf := fun _ => 0) (I := fun z9 H locs ls => (1 ≤ z9.1 ∧ z9.1 ≤ σ 28 0 + 1) ∧ (z9.2 = it_pc (sp_s1 σ) (z9.1 - 1).toNat) ∧ (iv_ z9.2) ∧ (z9.2 28 0 = σ 28 0 ∧ z9.2 6 0 = 0) ∧ va_P D zz_cl (cw_ cy ga ad z9.2) H ∧ va_D A (cw_ cy ga ad z9.2) ∧ va_S A s.heap H locs ∧ lv_has ls 2 [(0, .ref (ga 0)), (1, .int (zz_i (z9.1)))]) ?_ (1, (up_s (up_s σ 2 ((σ 2 0) + 1)) 8 (sp_in (up_s σ 2 ((σ 2 0) + 1)) ((σ 8 0) + 1)))) _ _ _ ⟨(show 1 ≤ (1 : Int) ∧ (1 : Int) ≤ σ 28 0 + 1 from (by omega)), (show (up_s (up_s σ 2 ((σ 2 0) + 1)) 8 (sp_in (up_s σ 2 ((σ 2 0) + 1)) ((σ 8 0) + 1))) = it_pc (sp_s1 σ) ((1 : Int) - 1).toNat from rfl), (show iv_ (up_s (up_s σ 2 ((σ 2 0) + 1)) 8 (sp_in (up_s σ 2 ((σ 2 0) + 1)) ((σ 8 0) + 1))) from (pv_s1 hI hs)), (show (up_s (up_s σ 2 ((σ 2 0) + 1)) 8 (sp_in (up_s σ 2 ((σ 2 0) + 1)) ((σ 8 0) + 1))) 28 0 = σ 28 0 ∧ (up_s (up_s σ 2 ((σ 2 0) + 1)) 8 (sp_in (up_s σ 2 ((σ 2 0) + 1)) ((σ 8 0) + 1))) 6 0 = 0 from ⟨rfl, h6⟩), hP, hD, hS, lv_sub hl [1, 0] rfl⟩
  rintro ⟨j, τ⟩ H locs ls ⟨v1, v2, v3, v4, hP, hD, hS, hl⟩ ih26
  have v1 : 1 ≤ j ∧ j ≤ σ 28 0 + 1 := v1
  have v2 : τ = it_pc (sp_s1 σ) (j - 1).toNat := v2
  have v3 : iv_ τ := v3
  have v4 : τ 28 0 = σ 28 0 ∧ τ 6 0 = 0 := v4
  have hP : va_P D zz_cl (cw_ cy ga ad τ) H := hP
  have hD : va_D A (cw_ cy ga ad τ) := hD
  have hl : lv_has ls 2 [(0, .ref (ga 0)), (1, .int (zz_i (j)))] := hl
  obtain ⟨⟨t1, t2, t3, t4, t5, t6, t7, t8, t9, t10⟩, -⟩ := id v3
  refine lv_iload_n hx hb dX2_makeOneStep_26 rfl (lv_at hl 1 rfl) ?_
  refine lv_aload_n hx hb dX2_makeOneStep_27 rfl (lv_at hl 0 rfl) ?_
  refine va_get (D := D) (ci := 2) (v := .ref (ga 2)) (C := RX2) (T := TX2) (N := 10) hx hb hts hiX2 hown hK hP (0) rfl rfl 1 (by decide) hf43 (fun _ h9 => h9) rfl dX2_makeOneStep_28 ?_
  refine va_alen hx hb hK hP 2 1 rfl rfl (v := zz_i (τ 28 0 + 1)) (zz_len (show 0 ≤ τ 28 0 + 1 ∧ τ 28 0 + 1 < 2147483648 by omega)) dX2_makeOneStep_31 ?_
  refine zz_icmp_ge (tgt := 46) hx hb dX2_makeOneStep_32 (by decide) (by omega) (by omega) (fun c2 => ?_) (fun c2 => ?_)
  · refine lv_aload_n hx hb dX2_makeOneStep_46 rfl (lv_at hl 0 rfl) ?_
    refine zc_v (As := []) (rest := []) (S := Unit) (pc := 47) ⟨hx, hb, hml, hown, hts⟩ (c_readAgain l D cy ga ad τ _ v3) (cwV 0 hts gX2_makeOneStep_X2_readAgainAtStart rfl rfl rfl (by decide +kernel) ⟨Nat.le_of_ble_eq_true rfl, Nat.le_of_ble_eq_true rfl⟩) hK hP hD hS hA hE (va_recv hK hP (ci := 2) (q0 := 0) rfl rfl) rfl hl.1 rfl (Nat.le_of_ble_eq_true rfl) dX2_makeOneStep_47 ⟨Nat.le_of_ble_eq_true rfl, Nat.le_of_ble_eq_true rfl⟩ (fun _ H locs k3 hP hD hS => ?_)
    refine W.eq (g2 := F0 m 50 ls []) rfl ?_
    have hw9 : cw_ cy ga ad (sp_ms σ) = cw_ cy ga ad (sp_ra τ) := by unfold sp_ms; rw [v2, show (j - 1).toNat = (σ 28 0).toNat by omega]
    subst hAe
    exact W.vret hx hb hr (fun t ht hW => ⟨rfl, ⟨(), trivial, by rw [ht, hw9]; exact hP, va_K.moved hW.alike hK, by rw [hw9]; exact hD⟩, hS.F ht⟩) hS.2.2 dX2_makeOneStep_50
  · refine lv_aload_n hx hb dX2_makeOneStep_35 rfl (lv_at hl 0 rfl) ?_
    refine lv_iload_n hx hb dX2_makeOneStep_36 rfl (lv_at hl 1 rfl) ?_
    refine zc_v (As := [.int (zz_i (j))]) (rest := []) (S := Unit) (pc := 37) ⟨hx, hb, hml, hown, hts⟩ (c_passChute l D cy ga ad τ _ v3 (j) (by omega)) (cwV 1 hts gX2_makeOneStep_X2_passChute rfl rfl rfl (by decide +kernel) ⟨Nat.le_of_ble_eq_true rfl, Nat.le_of_ble_eq_true rfl⟩) hK hP hD hS hA hE (va_recv hK hP (ci := 2) (q0 := 0) rfl rfl) rfl hl.1 rfl (Nat.le_of_ble_eq_true rfl) dX2_makeOneStep_37 ⟨Nat.le_of_ble_eq_true rfl, Nat.le_of_ble_eq_true rfl⟩ (fun _ H locs k4 hP hD hS => ?_)
    refine W.eq (g2 := F0 m 40 ls []) rfl ?_
    refine lv_iinc (v := zz_i (j + 1)) (lv' := [(1, .int (zz_i (j + 1))), (0, .ref (ga 0))]) hx hb dX2_makeOneStep_40 hl (k := 1) rfl (zz_add _ _) (by decide) rfl (fun ls hl => ?_)
    refine lv_goto (tgt := 26) hx hb dX2_makeOneStep_43 (by decide) ?_
    exact ih26 (j + 1, (sp_pc τ (j))) _ _ _ (show (σ 28 0 + 1 - (j + 1)).toNat < (σ 28 0 + 1 - j).toNat by omega) ⟨(show 1 ≤ (j + 1) ∧ (j + 1) ≤ σ 28 0 + 1 from (by omega)), (show (sp_pc τ (j)) = it_pc (sp_s1 σ) ((j + 1) - 1).toNat from (it_pc_n v2 (by omega))), (show iv_ (sp_pc τ (j)) from (pv_pc v3 v4.2 (by omega))), (show (sp_pc τ (j)) 28 0 = σ 28 0 ∧ (sp_pc τ (j)) 6 0 = 0 from ⟨by rw [kp_pc28]; exact v4.1, by rw [kp_pc6]; exact v4.2⟩), hP, hD, hS, lv_sub hl [1, 0] rfl⟩

set_option maxHeartbeats 4000000 in
set_option maxRecDepth 100000 in
theorem c_step (l : Launch) (hl9 : l.stackTraces = false) (D : va_G) (cy ga : Nat → Nat) (ad : Int → Nat) (σ : zz_S) (sz : Nat) (hI : iv_ σ) (x : Int) (q_x : (-2147483648 ≤ x ∧ x < 2147483648)) (hs : σ 2 0 ≤ 99999900) : vx_Met l yX2_step wsX2_step ({ frames := 7, cells := 1, slots := 6, locals := 107 }) (ct_P D cy [.ref (ga 0), .int (zz_i (x))] (cw_ cy ga ad σ) sz) (ct_Q D cy (cw_ cy ga ad σ) sz (some (.int (zz_i (s_stp σ x 5 0 - σ 5 0)))) (fun _ : Unit => k_stp σ x = 0) (fun _ => cw_ cy ga ad (s_stp σ x))) (ct_X D cy (cw_ cy ga ad σ) sz (k_stp σ x ≠ 0) (ex_s (k_stp σ x))) 1 6 (va_A (cw_ cy ga ad σ) sz) := by
  refine vx_ofW (cc := cX2_step) (maxL := 4) (ret := (some .int)) (by decide) rfl ?_
  intro p e s m args below meth c s₁ B hml htb hv
  obtain ⟨rfl, rfl, hP, hK, hD0, hE⟩ := hv
  have hx := B.exec
  have hb := B.bytes
  have hr := B.returns
  have hts := atoms_spec (ws := wsX2_step) B.pre
  have hown : s.vm.findClass RX2 = some m.cls := findClass_of_methodNamed B.named
  have hlocks := B.notSynchronized
  have hD := hD0.self (sz := s.heap.size)
  obtain ⟨A, hAe⟩ : ∃ A, A = va_A (cw_ cy ga ad σ) s.heap.size := ⟨_, rfl⟩
  rw [← hAe] at hD hE
  have hA : ∀ q : Nat, s.heap.size ≤ q → A q := fun q h => by rw [hAe]; exact Or.inr h
  have hS : va_S A s.heap s.heap [] := va_S.rf
  have hP : va_P D zz_cl (cw_ cy ga ad σ) s.heap := hP
  have hl := lv_entry ([.ref (ga 0), .int (zz_i (x))]) (n := 4) (Nat.le_of_ble_eq_true rfl)
  rw [lg_entry_eq]
  generalize (lg_sl ([.ref (ga 0), .int (zz_i (x))]) ++ List.replicate (4 - (lg_sl ([.ref (ga 0), .int (zz_i (x))])).length) Slot.unset).toArray = ls at hl ⊢
  have hl : lv_has ls 4 [(0, .ref (ga 0)), (1, .int (zz_i (x)))] := hl
  obtain ⟨⟨j1, j2, j3, j4, j5, j6, j7, j8, j9, j10⟩, j11, j12, j13, j14, j15, j16, j17, j18, j19, j20, j21, j22, j23, j24⟩ := id hI
  have haIAE := at_IAE (Ts := wsX2_step) hts (by decide +kernel) hE
  have hiX2 : ∀ w ∈ wsX20, w ∈ wsX2_step := by decide +kernel
  have hf18 := hts (.fieldLink RX2 18 "SorterSteps" "left" "LSorterSteps$ItemRow;") (by decide +kernel)
  refine lv_iload_n hx hb dX2_step_0 rfl (lv_at hl 1 rfl) ?_
  refine zz_if_lt (tgt := 10) hx hb dX2_step_1 (by decide) (by omega) (fun c1 => ?_) (fun c1 => ?_)
  · have hk9 : k_stp σ x = 1 := by unfold k_stp; (repeat (first | rw [if_pos (by omega)] | rw [if_neg (by omega)])) <;> first | rfl | omega
    rw [show ex_s (k_stp σ x) = "java/lang/IllegalArgumentException" from by rw [hk9]; rfl]
    exact th_row (own := RX2) (cls := "java/lang/IllegalArgumentException") hx hb hl9 hown (by decide +kernel) (by decide +kernel) (hts (.classLink RX2 82 "java/lang/IllegalArgumentException") (by decide +kernel)) (hts (.initialized "java/lang/IllegalArgumentException") (by decide +kernel)) (hE.2.2.2.1 (136, "no such number of steps") (by decide +kernel)) haIAE go_IAE hAe hE hK hP hD hS (hl.1.trans hml.symm) dX2_step_10 dX2_step_13 dX2_step_14 dX2_step_16 dX2_step_19 htb (Nat.le_of_ble_eq_true rfl) (Nat.le_of_ble_eq_true rfl) (Nat.le_of_ble_eq_true rfl) (Nat.le_of_ble_eq_true rfl) hlocks (by rw [hk9]; decide) (Nat.le_of_ble_eq_true rfl) (Nat.le_of_ble_eq_true rfl)
  · refine lv_iload_n hx hb dX2_step_4 rfl (lv_at hl 1 rfl) ?_
    refine lv_bipush (v := zz_i (100)) hx hb dX2_step_5 (by decide) ?_
    refine zz_icmp_le (tgt := 20) hx hb dX2_step_7 (by decide) (by omega) (by omega) (fun c2 => ?_) (fun c2 => ?_)
    · refine lv_aload_n hx hb dX2_step_20 rfl (lv_at hl 0 rfl) ?_
      refine zc_x (As := []) (rest := []) (S := Unit) (pc := 21) ⟨hx, hb, hml, hown, hts⟩ (c_requireNotJammed l hl9 D cy ga ad σ _ hI.1) (cwV 0 hts gX2_step_X2_requireNotJammed rfl rfl rfl (by decide +kernel) ⟨Nat.le_of_ble_eq_true rfl, Nat.le_of_ble_eq_true rfl⟩) hK hP hD hS hA hE (va_recv hK hP (ci := 2) (q0 := 0) rfl rfl) rfl hl.1 rfl (Nat.le_of_ble_eq_true rfl) dX2_step_21 ⟨Nat.le_of_ble_eq_true rfl, Nat.le_of_ble_eq_true rfl⟩ (fun k3 ce q9 H locs hP hD hS hce hcv hcl => ?_) (fun _ H locs k3 hP hD hS => ?_)
      · have hk9 : k_stp σ x = 2 := by unfold k_stp; (repeat (first | rw [if_pos (by omega)] | rw [if_neg (by omega)])) <;> first | rfl | omega
        rw [show ex_s (k_stp σ x) = "java/lang/IllegalStateException" from by rw [hk9]; rfl]
        exact th_out (E := "java/lang/IllegalStateException") hAe htb hlocks hK hP hD hS hce hcv hcl (by rw [hk9]; decide) (Nat.le_of_ble_eq_true rfl) (Nat.le_of_ble_eq_true rfl)
      · refine W.eq (g2 := F0 m 24 ls []) rfl ?_
        refine lv_aload_n hx hb dX2_step_24 rfl (lv_at hl 0 rfl) ?_
        refine va_get (D := D) (ci := 2) (v := .ref (ga 4)) (C := RX2) (T := TX2) (N := 10) hx hb hts hiX2 hown hK hP (0) rfl rfl 3 (by decide) hf18 (fun _ h9 => h9) rfl dX2_step_25 ?_
        refine zc_v (As := []) (rest := []) (S := Unit) (pc := 28) ⟨hx, hb, hml, hown, hts⟩ (c_size_lf l D cy ga ad σ _) (cwV 0 hts gX2_step_X1_size rfl rfl rfl (by decide +kernel) ⟨Nat.le_of_ble_eq_true rfl, Nat.le_of_ble_eq_true rfl⟩) hK hP hD hS hA hE (va_recv hK hP (ci := 1) (q0 := 4) rfl rfl) rfl hl.1 rfl (Nat.le_of_ble_eq_true rfl) dX2_step_28 ⟨Nat.le_of_ble_eq_true rfl, Nat.le_of_ble_eq_true rfl⟩ (fun _ H locs k4 hP hD hS => ?_)
        refine W.eq (g2 := F0 m 31 ls [.int (zz_i (σ 5 0))]) rfl ?_
        refine lv_istore_n (lv' := [(2, .int (zz_i (σ 5 0))), (0, .ref (ga 0)), (1, .int (zz_i (x)))]) hx hb dX2_step_31 rfl hl (by decide) rfl (fun ls hl => ?_)
        refine lv_iconst (v := zz_i (0)) hx hb dX2_step_32 rfl ?_
        refine lv_istore_n (lv' := [(3, .int (zz_i (0))), (2, .int (zz_i (σ 5 0))), (0, .ref (ga 0)), (1, .int (zz_i (x)))]) hx hb dX2_step_33 rfl hl (by decide) rfl (fun ls hl => ?_)
        refine zz_lp (α := Int × zz_S) (μ := fun z9 => (x - z9.1).toNat) (cf := fun _ => 1) (sf := fun _ => 6) (I := fun z9 H locs ls => (0 ≤ z9.1 ∧ z9.1 ≤ x) ∧ (z9.2 = it_ms σ z9.1.toNat) ∧ (iv_ z9.2) ∧ (z9.2 6 0 = 0 ∧ z9.2 2 0 = σ 2 0 + z9.1) ∧ va_P D zz_cl (cw_ cy ga ad z9.2) H ∧ va_D A (cw_ cy ga ad z9.2) ∧ va_S A s.heap H locs ∧ lv_has ls 4 [(0, .ref (ga 0)), (1, .int (zz_i (x))), (2, .int (zz_i (σ 5 0))), (3, .int (zz_i (z9.1)))]) ?_ (0, σ) _ _ _ ⟨(show 0 ≤ (0 : Int) ∧ (0 : Int) ≤ x from (by omega)), (show σ = it_ms σ (0 : Int).toNat from rfl), (show iv_ σ from hI), (show σ 6 0 = 0 ∧ σ 2 0 = σ 2 0 + (0 : Int) from ⟨by omega, by omega⟩), hP, hD, hS, lv_sub hl [2, 3, 1, 0] rfl⟩
        rintro ⟨j, τ⟩ H locs ls ⟨v1, v2, v3, v4, hP, hD, hS, hl⟩ ih34
        have v1 : 0 ≤ j ∧ j ≤ x := v1
        have v2 : τ = it_ms σ j.toNat := v2
        have v3 : iv_ τ := v3
        have v4 : τ 6 0 = 0 ∧ τ 2 0 = σ 2 0 + j := v4
        have hP : va_P D zz_cl (cw_ cy ga ad τ) H := hP
        have hD : va_D A (cw_ cy ga ad τ) := hD
        have hl : lv_has ls 4 [(0, .ref (ga 0)), (1, .int (zz_i (x))), (2, .int (zz_i (σ 5 0))), (3, .int (zz_i (j)))] := hl
        obtain ⟨⟨t1, t2, t3, t4, t5, t6, t7, t8, t9, t10⟩, -⟩ := id v3
        refine lv_iload_n hx hb dX2_step_34 rfl (lv_at hl 3 rfl) ?_
        refine lv_iload_n hx hb dX2_step_35 rfl (lv_at hl 1 rfl) ?_
        refine zz_icmp_ge (tgt := 49) hx hb dX2_step_36 (by decide) (by omega) (by omega) (fun c5 => ?_) (fun c5 => ?_)
        · refine lv_aload_n hx hb dX2_step_49 rfl (lv_at hl 0 rfl) ?_
          refine va_get (D := D) (ci := 2) (v := .ref (ga 4)) (C := RX2) (T := TX2) (N := 10) hx hb hts hiX2 hown hK hP (0) rfl rfl 3 (by decide) hf18 (fun _ h9 => h9) rfl dX2_step_50 ?_
          refine zc_v (As := []) (rest := []) (S := Unit) (pc := 53) ⟨hx, hb, hml, hown, hts⟩ (c_size_lf l D cy ga ad τ _) (cwV 0 hts gX2_step_X1_size rfl rfl rfl (by decide +kernel) ⟨Nat.le_of_ble_eq_true rfl, Nat.le_of_ble_eq_true rfl⟩) hK hP hD hS hA hE (va_recv hK hP (ci := 1) (q0 := 4) rfl rfl) rfl hl.1 rfl (Nat.le_of_ble_eq_true rfl) dX2_step_53 ⟨Nat.le_of_ble_eq_true rfl, Nat.le_of_ble_eq_true rfl⟩ (fun _ H locs k6 hP hD hS => ?_)
          refine W.eq (g2 := F0 m 56 ls [.int (zz_i (τ 5 0))]) rfl ?_
          refine lv_iload_n hx hb dX2_step_56 rfl (lv_at hl 2 rfl) ?_
          refine zz_isub hx hb dX2_step_57 ?_
          have hv9 : s_stp σ x 5 0 - σ 5 0 = (τ 5 0) - (σ 5 0) := by (have e9 : τ = s_stp σ x := by rw [v2, show j = x by omega]; rfl); rw [e9]
          have hw9 : cw_ cy ga ad (s_stp σ x) = cw_ cy ga ad τ := by (have e9 : τ = s_stp σ x := by rw [v2, show j = x by omega]; rfl); rw [e9]
          subst hAe
          refine W.widen (k := 1) (n := 6) (Nat.le_of_ble_eq_true rfl) (Nat.le_of_ble_eq_true rfl) ?_
          refine vx_ret ?_
          exact W.iret (v := zz_i ((τ 5 0) - (σ 5 0))) hx hb hr (fun t ht hW => ⟨congrArg (fun z => Outcome.returned (some (Value.int (zz_i z)))) hv9.symm, ⟨(), (by unfold k_stp; (repeat (first | rw [if_pos (by omega)] | rw [if_neg (by omega)])) <;> first | rfl | omega), by rw [ht, hw9]; exact hP, va_K.moved hW.alike hK, by rw [hw9]; exact hD⟩, hS.F ht⟩) hS.2.2 dX2_step_58
        · refine lv_aload_n hx hb dX2_step_39 rfl (lv_at hl 0 rfl) ?_
          refine zc_v (As := []) (rest := []) (S := Unit) (pc := 40) ⟨hx, hb, hml, hown, hts⟩ (c_makeOneStep l D cy ga ad τ _ v3 (by omega) (by omega)) (cwV 0 hts gX2_step_X2_makeOneStep rfl rfl rfl (by decide +kernel) ⟨Nat.le_of_ble_eq_true rfl, Nat.le_of_ble_eq_true rfl⟩) hK hP hD hS hA hE (va_recv hK hP (ci := 2) (q0 := 0) rfl rfl) rfl hl.1 rfl (Nat.le_of_ble_eq_true rfl) dX2_step_40 ⟨Nat.le_of_ble_eq_true rfl, Nat.le_of_ble_eq_true rfl⟩ (fun _ H locs k7 hP hD hS => ?_)
          refine W.eq (g2 := F0 m 43 ls []) rfl ?_
          refine lv_iinc (v := zz_i (j + 1)) (lv' := [(3, .int (zz_i (j + 1))), (0, .ref (ga 0)), (1, .int (zz_i (x))), (2, .int (zz_i (σ 5 0)))]) hx hb dX2_step_43 hl (k := 3) rfl (zz_add _ _) (by decide) rfl (fun ls hl => ?_)
          refine lv_goto (tgt := 34) hx hb dX2_step_46 (by decide) ?_
          have hm9 := pv_ms v3 v4.1 (by omega)
          exact ih34 (j + 1, (sp_ms τ)) _ _ _ (show (x - (j + 1)).toNat < (x - j).toNat by omega) ⟨(show 0 ≤ (j + 1) ∧ (j + 1) ≤ x from (by omega)), (show (sp_ms τ) = it_ms σ (j + 1).toNat from (it_ms_n v2 (by omega))), (show iv_ (sp_ms τ) from hm9.1), (show (sp_ms τ) 6 0 = 0 ∧ (sp_ms τ) 2 0 = σ 2 0 + (j + 1) from ⟨by rw [hm9.2.2.2.1]; exact v4.1, by rw [hm9.2.2.2.2]; omega⟩), hP, hD, hS, lv_sub hl [1, 2, 3, 0] rfl⟩
    · have hk9 : k_stp σ x = 1 := by unfold k_stp; (repeat (first | rw [if_pos (by omega)] | rw [if_neg (by omega)])) <;> first | rfl | omega
      rw [show ex_s (k_stp σ x) = "java/lang/IllegalArgumentException" from by rw [hk9]; rfl]
      exact th_row (own := RX2) (cls := "java/lang/IllegalArgumentException") hx hb hl9 hown (by decide +kernel) (by decide +kernel) (hts (.classLink RX2 82 "java/lang/IllegalArgumentException") (by decide +kernel)) (hts (.initialized "java/lang/IllegalArgumentException") (by decide +kernel)) (hE.2.2.2.1 (136, "no such number of steps") (by decide +kernel)) haIAE go_IAE hAe hE hK hP hD hS (hl.1.trans hml.symm) dX2_step_10 dX2_step_13 dX2_step_14 dX2_step_16 dX2_step_19 htb (Nat.le_of_ble_eq_true rfl) (Nat.le_of_ble_eq_true rfl) (Nat.le_of_ble_eq_true rfl) (Nat.le_of_ble_eq_true rfl) hlocks (by rw [hk9]; decide) (Nat.le_of_ble_eq_true rfl) (Nat.le_of_ble_eq_true rfl)
end
