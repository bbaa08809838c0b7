section
set_option maxHeartbeats 4000000 in
set_option maxRecDepth 100000 in
theorem c_passChute (l : Launch) (D : va_G) (cy ga : Nat → Nat) (ad : Int → Nat) (σ : zz_S) (sz : Nat) (hI : iv_ σ) (x : Int) (q_x : 1 ≤ x ∧ x ≤ σ 28 0) : Met l yX2_passChute wsX2_passChute ({ frames := 3, cells := 0, slots := 0, locals := 64 }) (ct_P D cy [.ref (ga 0), .int (zz_i (x))] (cw_ cy ga ad σ) sz) (ct_Q D cy (cw_ cy ga ad σ) sz none (fun _ : Unit => True) (fun _ => cw_ cy ga ad (sp_pc σ x))) 0 0 (va_A (cw_ cy ga ad σ) sz) := by
  refine Met.ofW (cc := cX2_passChute) (maxL := 3) (ret := none) (by decide) rfl ?_
  intro p e s m args below meth c s₁ B hml hv
  obtain ⟨rfl, rfl, hP, hK, hD0, hE⟩ := hv
  have hx := B.exec
  have hb := B.bytes
  have hr := B.returns
  have hts := atoms_spec (ws := wsX2_passChute) B.pre
  have hown : s.vm.findClass RX2 = some m.cls := findClass_of_methodNamed B.named
  have hlocks := B.notSynchronized
  have hD := hD0.self (sz := s.heap.size)
  obtain ⟨A, hAe⟩ : ∃ A, A = va_A (cw_ cy ga ad σ) s.heap.size := ⟨_, rfl⟩
  rw [← hAe] at hD hE
  have hA : ∀ q : Nat, s.heap.size ≤ q → A q := fun q h => by rw [hAe]; exact Or.inr h
  have hS : va_S A s.heap s.heap [] := va_S.rf
  have hP : va_P D zz_cl (cw_ cy ga ad σ) s.heap := hP
  have hl := lv_entry ([.ref (ga 0), .int (zz_i (x))]) (n := 3) (Nat.le_of_ble_eq_true rfl)
  rw [lg_entry_eq]
  generalize (lg_sl ([.ref (ga 0), .int (zz_i (x))]) ++ List.replicate (3 - (lg_sl ([.ref (ga 0), .int (zz_i (x))])).length) Slot.unset).toArray = ls at hl ⊢
  have hl : lv_has ls 3 [(0, .ref (ga 0)), (1, .int (zz_i (x)))] := hl
  obtain ⟨⟨j1, j2, j3, j4, j5, j6, j7, j8, j9, j10⟩, j11, j12, j13, j14, j15, j16, j17, j18, j19, j20, j21, j22, j23, j24⟩ := id hI
  have hiX0 : ∀ w ∈ wsX00, w ∈ wsX2_passChute := by decide +kernel
  have hf104 := hts (.fieldLink RX2 104 "SorterSteps$Item" "code" "I") (by decide +kernel)
  have hf152 := hts (.fieldLink RX2 152 "SorterSteps$Item" "rounds" "I") (by decide +kernel)
  have hiX2 : ∀ w ∈ wsX20, w ∈ wsX2_passChute := by decide +kernel
  have hf47 := hts (.fieldLink RX2 47 "SorterSteps" "allowedRounds" "I") (by decide +kernel)
  refine lv_aload_n hx hb dX2_passChute_0 rfl (lv_at hl 0 rfl) ?_
  refine lv_iload_n hx hb dX2_passChute_1 rfl (lv_at hl 1 rfl) ?_
  refine lv_iconst (v := zz_i (2)) hx hb dX2_passChute_2 rfl ?_
  refine zz_imul hx hb dX2_passChute_3 ?_
  refine zc_v (As := [.int (zz_i (x * 2))]) (rest := []) (S := Unit) (pc := 4) ⟨hx, hb, hml, hown, hts⟩ (c_itemAt l D cy ga ad σ _ hI.1 (x * 2) (by omega)) (cwV 1 hts gX2_passChute_X2_itemAt rfl rfl rfl (by decide +kernel) ⟨Nat.le_of_ble_eq_true rfl, Nat.le_of_ble_eq_true rfl⟩) hK hP hD hS hA hE (va_recv hK hP (ci := 2) (q0 := 0) rfl rfl) rfl hl.1 rfl (Nat.le_of_ble_eq_true rfl) dX2_passChute_4 ⟨Nat.le_of_ble_eq_true rfl, Nat.le_of_ble_eq_true rfl⟩ (fun _ H locs k1 hP hD hS => ?_)
  refine W.eq (g2 := F0 m 7 ls [va_rf (aq_ ad (σ 10 (sp_tr σ (x * 2))))]) rfl ?_
  have b1_0 := sp_tr_b σ (x * 2)
  have b1_1 := sp_in_b σ (x * 2 - σ 8 0)
  rcases aq_or ad (σ 10 (sp_tr σ (x * 2))) with ⟨c2, hv⟩ | ⟨c2, hv⟩
  · refine W.eq (g2 := F0 m 7 ls [.null]) (congrArg (fun z => F0 m 7 ls (z :: [])) hv) ?_
    refine lv_astore_nN (lv' := [(2, .null), (0, .ref (ga 0)), (1, .int (zz_i (x)))]) hx hb dX2_passChute_7 rfl hl (by decide) rfl (fun ls hl => ?_)
    refine lv_aload_nN hx hb dX2_passChute_8 rfl (lv_at hl 0 rfl) ?_
    refine lv_ifnullN (tgt := 20) hx hb dX2_passChute_9 (by decide) ?_
    have hw9 : cw_ cy ga ad (sp_pc σ x) = cw_ cy ga ad σ := by unfold sp_pc; unfold sp_pd; (repeat (first | rw [if_pos (by omega)] | rw [if_neg (by omega)])) <;> first | rfl | omega
    subst hAe
    exact W.vret hx hb hr (fun t ht hW => ⟨rfl, ⟨(), trivial, by rw [ht, hw9]; exact hP, va_K.moved hW.alike hK, by rw [hw9]; exact hD⟩, hS.F ht⟩) hS.2.2 dX2_passChute_20
  · refine W.eq (g2 := F0 m 7 ls [.ref (ad (σ 10 (sp_tr σ (x * 2))))]) (congrArg (fun z => F0 m 7 ls (z :: [])) hv) ?_
    have h10 := j11 (sp_tr σ (x * 2))
    have h18 := h10.2.2 (by omega)
    have hit := j13 (σ 10 (sp_tr σ (x * 2))) (by omega) (by omega)
    have hlf := lf_lt hI (i := σ 10 (sp_tr σ (x * 2))) (by omega) (by omega)
    refine lv_astore_n (lv' := [(2, .ref (ad (σ 10 (sp_tr σ (x * 2))))), (0, .ref (ga 0)), (1, .int (zz_i (x)))]) hx hb dX2_passChute_7 rfl hl (by decide) rfl (fun ls hl => ?_)
    refine lv_aload_n hx hb dX2_passChute_8 rfl (lv_at hl 0 rfl) ?_
    refine lv_ifnull hx hb dX2_passChute_9 ?_
    refine lv_aload_n hx hb dX2_passChute_12 rfl (lv_at hl 0 rfl) ?_
    refine va_get (D := D) (ci := 0) (v := .int (zz_i (σ 14 (σ 10 (sp_tr σ (x * 2)))))) (C := RX0) (T := TX0) (N := 12) hx hb hts hiX0 hown hK hP (9 + ((σ 10 (sp_tr σ (x * 2))) - 1).toNat) (cw_it (show 1 ≤ σ 10 (sp_tr σ (x * 2)) ∧ σ 10 (sp_tr σ (x * 2)) ≤ σ 4 0 by omega)) rfl 3 (by decide) hf104 (fun _ h9 => h9) rfl dX2_passChute_13 ?_
    refine lv_iload_n hx hb dX2_passChute_16 rfl (lv_at hl 2 rfl) ?_
    refine zz_icmp_eq (tgt := 21) hx hb dX2_passChute_17 (by decide) (by omega) (by omega) (fun c3 => ?_) (fun c3 => ?_)
    · refine lv_aload_n hx hb dX2_passChute_21 rfl (lv_at hl 1 rfl) ?_
      refine lv_iload_n hx hb dX2_passChute_22 rfl (lv_at hl 2 rfl) ?_
      refine zc_v (As := [.int (zz_i (x))]) (rest := []) (S := Unit) (pc := 23) ⟨hx, hb, hml, hown, hts⟩ (c_isFull l D cy ga ad σ _ hI.1 j12 (x) (by omega)) (cwV 1 hts gX2_passChute_X2_isFull rfl rfl rfl (by decide +kernel) ⟨Nat.le_of_ble_eq_true rfl, Nat.le_of_ble_eq_true rfl⟩) hK hP hD hS hA hE (va_recv hK hP (ci := 2) (q0 := 0) rfl rfl) rfl hl.1 rfl (Nat.le_of_ble_eq_true rfl) dX2_passChute_23 ⟨Nat.le_of_ble_eq_true rfl, Nat.le_of_ble_eq_true rfl⟩ (fun _ H locs k4 hP hD hS => ?_)
      refine W.eq (g2 := F0 m 26 ls [.int (zz_i (sp_fu σ (x)))]) rfl ?_
      have b4_0 := sp_fu_b σ (x)
      have b4_1 := j12 (x)
      refine zz_if_ne (tgt := 37) hx hb dX2_passChute_26 (by decide) (by omega) (fun c5 => ?_) (fun c5 => ?_)
      · refine lv_aload_n hx hb dX2_passChute_37 rfl (lv_at hl 0 rfl) ?_
        refine lv_dup hx hb dX2_passChute_38 rfl ?_
        refine va_get (D := D) (ci := 0) (v := .int (zz_i (σ 15 (σ 10 (sp_tr σ (x * 2)))))) (C := RX0) (T := TX0) (N := 12) hx hb hts hiX0 hown hK hP (9 + ((σ 10 (sp_tr σ (x * 2))) - 1).toNat) (cw_it (show 1 ≤ σ 10 (sp_tr σ (x * 2)) ∧ σ 10 (sp_tr σ (x * 2)) ≤ σ 4 0 by omega)) rfl 4 (by decide) hf152 (fun _ h9 => h9) rfl dX2_passChute_39 ?_
        refine lv_iconst (v := zz_i (1)) hx hb dX2_passChute_42 rfl ?_
        refine zz_iadd hx hb dX2_passChute_43 ?_
        refine va_put (D := D) (ci := 0) (v := .int (zz_i ((σ 15 (σ 10 (sp_tr σ (x * 2)))) + 1))) (ty := .int) (C := RX0) (T := TX0) (N := 12) hx hb hts hiX0 tyX0 tyX0_ok nmX0 hown hK hP hD hS (9 + ((σ 10 (sp_tr σ (x * 2))) - 1).toNat) (cw_it (show 1 ≤ σ 10 (sp_tr σ (x * 2)) ∧ σ 10 (sp_tr σ (x * 2)) ≤ σ 4 0 by omega)) rfl 4 (by decide) hf152 (fun _ h9 => h9) rfl (by decide +kernel) rfl rfl (Nat.le_of_ble_eq_true rfl) dX2_passChute_44 (fun H locs hP hD hS => ?_)
        rw [cw_si15 (σ := σ) (show 1 ≤ σ 10 (sp_tr σ (x * 2)) ∧ σ 10 (sp_tr σ (x * 2)) ≤ σ 4 0 by omega)] at hP hD
        refine lv_aload_n hx hb dX2_passChute_47 rfl (lv_at hl 0 rfl) ?_
        have e15 : (up_a σ 15 (σ 10 (sp_tr σ (x * 2))) ((σ 15 (σ 10 (sp_tr σ (x * 2)))) + 1)) 15 (σ 10 (sp_tr σ (x * 2))) = σ 15 (σ 10 (sp_tr σ (x * 2))) + 1 := up_i_s _ _ _
        refine va_get (D := D) (ci := 0) (v := .int (zz_i ((up_a σ 15 (σ 10 (sp_tr σ (x * 2))) ((σ 15 (σ 10 (sp_tr σ (x * 2)))) + 1)) 15 (σ 10 (sp_tr σ (x * 2)))))) (C := RX0) (T := TX0) (N := 12) hx hb hts hiX0 hown hK hP (9 + ((σ 10 (sp_tr σ (x * 2))) - 1).toNat) (cw_it (show 1 ≤ σ 10 (sp_tr σ (x * 2)) ∧ σ 10 (sp_tr σ (x * 2)) ≤ σ 4 0 by omega)) rfl 4 (by decide) hf152 (fun _ h9 => h9) rfl dX2_passChute_48 ?_
        refine lv_aload_n hx hb dX2_passChute_51 rfl (lv_at hl 1 rfl) ?_
        refine va_get (D := D) (ci := 2) (v := .int (zz_i (σ 1 0))) (C := RX2) (T := TX2) (N := 10) hx hb hts hiX2 hown hK hP (0) rfl rfl 5 (by decide) hf47 (fun _ h9 => h9) rfl dX2_passChute_52 ?_
        refine zz_icmp_le (tgt := 65) hx hb dX2_passChute_55 (by decide) (by omega) (by omega) (fun c6 => ?_) (fun c6 => ?_)
        · have hw9 : cw_ cy ga ad (sp_pc σ x) = cw_ cy ga ad (up_a σ 15 (σ 10 (sp_tr σ (x * 2))) ((σ 15 (σ 10 (sp_tr σ (x * 2)))) + 1)) := by unfold sp_pc; unfold sp_pd; (repeat (first | rw [if_pos (by omega)] | rw [if_neg (by omega)])) <;> first | rfl | omega
          subst hAe
          exact W.vret hx hb hr (fun t ht hW => ⟨rfl, ⟨(), trivial, by rw [ht, hw9]; exact hP, va_K.moved hW.alike hK, by rw [hw9]; exact hD⟩, hS.F ht⟩) hS.2.2 dX2_passChute_65
        · refine lv_aload_n hx hb dX2_passChute_58 rfl (lv_at hl 1 rfl) ?_
          refine lv_aload_n hx hb dX2_passChute_59 rfl (lv_at hl 0 rfl) ?_
          refine lv_iconst (v := zz_i (4)) hx hb dX2_passChute_60 rfl ?_
          refine lv_iconst (v := zz_i (-1)) hx hb dX2_passChute_61 rfl ?_
          refine zc_v (As := [.ref (ad (σ 10 (sp_tr σ (x * 2)))), .int (zz_i (4)), .int (zz_i (-1))]) (rest := []) (S := Unit) (pc := 62) ⟨hx, hb, hml, hown, hts⟩ (c_takeOffTray l D cy ga ad (up_a σ 15 (σ 10 (sp_tr σ (x * 2))) ((σ 15 (σ 10 (sp_tr σ (x * 2)))) + 1)) _ hI.1 (σ 10 (sp_tr σ (x * 2))) (4) (-1) (show 1 ≤ σ 10 (sp_tr σ (x * 2)) ∧ σ 10 (sp_tr σ (x * 2)) ≤ σ 4 0 by omega) (show 0 ≤ σ 18 (σ 10 (sp_tr σ (x * 2))) ∧ σ 18 (σ 10 (sp_tr σ (x * 2))) < σ 0 0 by omega) (show σ 5 0 < 60 by omega)) (cwV 3 hts gX2_passChute_X2_takeOffTray rfl rfl rfl (by decide +kernel) ⟨Nat.le_of_ble_eq_true rfl, Nat.le_of_ble_eq_true rfl⟩) hK hP hD hS hA hE (va_recv hK hP (ci := 2) (q0 := 0) rfl rfl) rfl hl.1 rfl (Nat.le_of_ble_eq_true rfl) dX2_passChute_62 ⟨Nat.le_of_ble_eq_true rfl, Nat.le_of_ble_eq_true rfl⟩ (fun _ H locs k7 hP hD hS => ?_)
          refine W.eq (g2 := F0 m 65 ls []) rfl ?_
          have hw9 : cw_ cy ga ad (sp_pc σ x) = cw_ cy ga ad (sp_lv (up_a σ 15 (σ 10 (sp_tr σ (x * 2))) ((σ 15 (σ 10 (sp_tr σ (x * 2)))) + 1)) (σ 10 (sp_tr σ (x * 2))) (4) (-1)) := by unfold sp_pc; unfold sp_pd; (repeat (first | rw [if_pos (by omega)] | rw [if_neg (by omega)])) <;> first | rfl | omega
          subst hAe
          exact W.vret hx hb hr (fun t ht hW => ⟨rfl, ⟨(), trivial, by rw [ht, hw9]; exact hP, va_K.moved hW.alike hK, by rw [hw9]; exact hD⟩, hS.F ht⟩) hS.2.2 dX2_passChute_65
      · refine lv_aload_n hx hb dX2_passChute_29 rfl (lv_at hl 1 rfl) ?_
        refine lv_aload_n hx hb dX2_passChute_30 rfl (lv_at hl 0 rfl) ?_
        refine lv_iconst (v := zz_i (2)) hx hb dX2_passChute_31 rfl ?_
        refine lv_iload_n hx hb dX2_passChute_32 rfl (lv_at hl 2 rfl) ?_
        refine zc_v (As := [.ref (ad (σ 10 (sp_tr σ (x * 2)))), .int (zz_i (2)), .int (zz_i (x))]) (rest := []) (S := Unit) (pc := 33) ⟨hx, hb, hml, hown, hts⟩ (c_takeOffTray l D cy ga ad σ _ hI.1 (σ 10 (sp_tr σ (x * 2))) (2) (x) (show 1 ≤ σ 10 (sp_tr σ (x * 2)) ∧ σ 10 (sp_tr σ (x * 2)) ≤ σ 4 0 by omega) (show 0 ≤ σ 18 (σ 10 (sp_tr σ (x * 2))) ∧ σ 18 (σ 10 (sp_tr σ (x * 2))) < σ 0 0 by omega) (show σ 5 0 < 60 by omega)) (cwV 3 hts gX2_passChute_X2_takeOffTray rfl rfl rfl (by decide +kernel) ⟨Nat.le_of_ble_eq_true rfl, Nat.le_of_ble_eq_true rfl⟩) hK hP hD hS hA hE (va_recv hK hP (ci := 2) (q0 := 0) rfl rfl) rfl hl.1 rfl (Nat.le_of_ble_eq_true rfl) dX2_passChute_33 ⟨Nat.le_of_ble_eq_true rfl, Nat.le_of_ble_eq_true rfl⟩ (fun _ H locs k8 hP hD hS => ?_)
        refine W.eq (g2 := F0 m 36 ls []) rfl ?_
        have hw9 : cw_ cy ga ad (sp_pc σ x) = cw_ cy ga ad (sp_lv σ (σ 10 (sp_tr σ (x * 2))) (2) (x)) := by unfold sp_pc; unfold sp_pd; (repeat (first | rw [if_pos (by omega)] | rw [if_neg (by omega)])) <;> first | rfl | omega
        subst hAe
        exact W.vret hx hb hr (fun t ht hW => ⟨rfl, ⟨(), trivial, by rw [ht, hw9]; exact hP, va_K.moved hW.alike hK, by rw [hw9]; exact hD⟩, hS.F ht⟩) hS.2.2 dX2_passChute_36
    · have hw9 : cw_ cy ga ad (sp_pc σ x) = cw_ cy ga ad σ := by unfold sp_pc; unfold sp_pd; (repeat (first | rw [if_pos (by omega)] | rw [if_neg (by omega)])) <;> first | rfl | omega
      subst hAe
      exact W.vret hx hb hr (fun t ht hW => ⟨rfl, ⟨(), trivial, by rw [ht, hw9]; exact hP, va_K.moved hW.alike hK, by rw [hw9]; exact hD⟩, hS.F ht⟩) hS.2.2 dX2_passChute_20

set_option maxHeartbeats 4000000 in
set_option maxRecDepth 100000 in
theorem c_readAgain (l : Launch) (D : va_G) (cy ga : Nat → Nat) (ad : Int → Nat) (σ : zz_S) (sz : Nat) (hI : iv_ σ) : Met l yX2_readAgainAtStart wsX2_readAgainAtStart ({ frames := 3, cells := 0, slots := 0, locals := 64 }) (ct_P D cy [.ref (ga 0)] (cw_ cy ga ad σ) sz) (ct_Q D cy (cw_ cy ga ad σ) sz none (fun _ : Unit => True) (fun _ => cw_ cy ga ad (sp_ra σ))) 0 0 (va_A (cw_ cy ga ad σ) sz) := by
  refine Met.ofW (cc := cX2_readAgainAtStart) (maxL := 2) (ret := none) (by decide) rfl ?_
  intro p e s m args below meth c s₁ B hml hv
  obtain ⟨rfl, rfl, hP, hK, hD0, hE⟩ := hv
  have hx := B.exec
  have hb := B.bytes
  have hr := B.returns
  have hts := atoms_spec (ws := wsX2_readAgainAtStart) B.pre
  have hown : s.vm.findClass RX2 = some m.cls := findClass_of_methodNamed B.named
  have hlocks := B.notSynchronized
  have hD := hD0.self (sz := s.heap.size)
  obtain ⟨A, hAe⟩ : ∃ A, A = va_A (cw_ cy ga ad σ) s.heap.size := ⟨_, rfl⟩
  rw [← hAe] at hD hE
  have hA : ∀ q : Nat, s.heap.size ≤ q → A q := fun q h => by rw [hAe]; exact Or.inr h
  have hS : va_S A s.heap s.heap [] := va_S.rf
  have hP : va_P D zz_cl (cw_ cy ga ad σ) s.heap := hP
  have hl := lv_entry ([.ref (ga 0)]) (n := 2) (Nat.le_of_ble_eq_true rfl)
  rw [lg_entry_eq]
  generalize (lg_sl ([.ref (ga 0)]) ++ List.replicate (2 - (lg_sl ([.ref (ga 0)])).length) Slot.unset).toArray = ls at hl ⊢
  have hl : lv_has ls 2 [(0, .ref (ga 0))] := hl
  obtain ⟨⟨j1, j2, j3, j4, j5, j6, j7, j8, j9, j10⟩, j11, j12, j13, j14, j15, j16, j17, j18, j19, j20, j21, j22, j23, j24⟩ := id hI
  have hiX0 : ∀ w ∈ wsX00, w ∈ wsX2_readAgainAtStart := by decide +kernel
  have hf104 := hts (.fieldLink RX2 104 "SorterSteps$Item" "code" "I") (by decide +kernel)
  have hf130 := hts (.fieldLink RX2 130 "SorterSteps$Item" "retries" "I") (by decide +kernel)
  have hf133 := hts (.fieldLink RX2 133 "SorterSteps$Item" "codeAfterRetries" "I") (by decide +kernel)
  refine lv_aload_n hx hb dX2_readAgainAtStart_0 rfl (lv_at hl 0 rfl) ?_
  refine lv_iconst (v := zz_i (0)) hx hb dX2_readAgainAtStart_1 rfl ?_
  refine zc_v (As := [.int (zz_i (0))]) (rest := []) (S := Unit) (pc := 2) ⟨hx, hb, hml, hown, hts⟩ (c_itemAt l D cy ga ad σ _ hI.1 (0) (by omega)) (cwV 1 hts gX2_readAgainAtStart_X2_itemAt rfl rfl rfl (by decide +kernel) ⟨Nat.le_of_ble_eq_true rfl, Nat.le_of_ble_eq_true rfl⟩) hK hP hD hS hA hE (va_recv hK hP (ci := 2) (q0 := 0) rfl rfl) rfl hl.1 rfl (Nat.le_of_ble_eq_true rfl) dX2_readAgainAtStart_2 ⟨Nat.le_of_ble_eq_true rfl, Nat.le_of_ble_eq_true rfl⟩ (fun _ H locs k1 hP hD hS => ?_)
  refine W.eq (g2 := F0 m 5 ls [va_rf (aq_ ad (σ 10 (sp_tr σ (0))))]) rfl ?_
  have b1_0 := sp_tr_b σ (0)
  have b1_1 := sp_in_b σ (0 - σ 8 0)
  rcases aq_or ad (σ 10 (sp_tr σ (0))) with ⟨c2, hv⟩ | ⟨c2, hv⟩
  · refine W.eq (g2 := F0 m 5 ls [.null]) (congrArg (fun z => F0 m 5 ls (z :: [])) hv) ?_
    refine lv_astore_nN (lv' := [(1, .null), (0, .ref (ga 0))]) hx hb dX2_readAgainAtStart_5 rfl hl (by decide) rfl (fun ls hl => ?_)
    refine lv_aload_nN hx hb dX2_readAgainAtStart_6 rfl (lv_at hl 0 rfl) ?_
    refine lv_ifnullN (tgt := 17) hx hb dX2_readAgainAtStart_7 (by decide) ?_
    have hw9 : cw_ cy ga ad (sp_ra σ) = cw_ cy ga ad σ := by unfold sp_ra; unfold sp_rd; (repeat (first | rw [if_pos (by omega)] | rw [if_neg (by omega)])) <;> first | rfl | omega
    subst hAe
    exact W.vret hx hb hr (fun t ht hW => ⟨rfl, ⟨(), trivial, by rw [ht, hw9]; exact hP, va_K.moved hW.alike hK, by rw [hw9]; exact hD⟩, hS.F ht⟩) hS.2.2 dX2_readAgainAtStart_17
  · refine W.eq (g2 := F0 m 5 ls [.ref (ad (σ 10 (sp_tr σ (0))))]) (congrArg (fun z => F0 m 5 ls (z :: [])) hv) ?_
    have h10 := j11 (sp_tr σ (0))
    have h18 := h10.2.2 (by omega)
    have hit := j13 (σ 10 (sp_tr σ (0))) (by omega) (by omega)
    have hlf := lf_lt hI (i := σ 10 (sp_tr σ (0))) (by omega) (by omega)
    refine lv_astore_n (lv' := [(1, .ref (ad (σ 10 (sp_tr σ (0))))), (0, .ref (ga 0))]) hx hb dX2_readAgainAtStart_5 rfl hl (by decide) rfl (fun ls hl => ?_)
    refine lv_aload_n hx hb dX2_readAgainAtStart_6 rfl (lv_at hl 0 rfl) ?_
    refine lv_ifnull hx hb dX2_readAgainAtStart_7 ?_
    refine lv_aload_n hx hb dX2_readAgainAtStart_10 rfl (lv_at hl 0 rfl) ?_
    refine va_get (D := D) (ci := 0) (v := .int (zz_i (σ 14 (σ 10 (sp_tr σ (0)))))) (C := RX0) (T := TX0) (N := 12) hx hb hts hiX0 hown hK hP (9 + ((σ 10 (sp_tr σ (0))) - 1).toNat) (cw_it (show 1 ≤ σ 10 (sp_tr σ (0)) ∧ σ 10 (sp_tr σ (0)) ≤ σ 4 0 by omega)) rfl 3 (by decide) hf104 (fun _ h9 => h9) rfl dX2_readAgainAtStart_11 ?_
    refine zz_if_eq (tgt := 18) hx hb dX2_readAgainAtStart_14 (by decide) (by omega) (fun c3 => ?_) (fun c3 => ?_)
    · refine lv_aload_n hx hb dX2_readAgainAtStart_18 rfl (lv_at hl 0 rfl) ?_
      refine va_get (D := D) (ci := 0) (v := .int (zz_i (σ 16 (σ 10 (sp_tr σ (0)))))) (C := RX0) (T := TX0) (N := 12) hx hb hts hiX0 hown hK hP (9 + ((σ 10 (sp_tr σ (0))) - 1).toNat) (cw_it (show 1 ≤ σ 10 (sp_tr σ (0)) ∧ σ 10 (sp_tr σ (0)) ≤ σ 4 0 by omega)) rfl 6 (by decide) hf130 (fun _ h9 => h9) rfl dX2_readAgainAtStart_19 ?_
      refine zz_if_ne (tgt := 33) hx hb dX2_readAgainAtStart_22 (by decide) (by omega) (fun c4 => ?_) (fun c4 => ?_)
      · refine lv_aload_n hx hb dX2_readAgainAtStart_33 rfl (lv_at hl 0 rfl) ?_
        refine lv_dup hx hb dX2_readAgainAtStart_34 rfl ?_
        refine va_get (D := D) (ci := 0) (v := .int (zz_i (σ 16 (σ 10 (sp_tr σ (0)))))) (C := RX0) (T := TX0) (N := 12) hx hb hts hiX0 hown hK hP (9 + ((σ 10 (sp_tr σ (0))) - 1).toNat) (cw_it (show 1 ≤ σ 10 (sp_tr σ (0)) ∧ σ 10 (sp_tr σ (0)) ≤ σ 4 0 by omega)) rfl 6 (by decide) hf130 (fun _ h9 => h9) rfl dX2_readAgainAtStart_35 ?_
        refine lv_iconst (v := zz_i (1)) hx hb dX2_readAgainAtStart_38 rfl ?_
        refine zz_isub hx hb dX2_readAgainAtStart_39 ?_
        refine va_put (D := D) (ci := 0) (v := .int (zz_i ((σ 16 (σ 10 (sp_tr σ (0)))) - 1))) (ty := .int) (C := RX0) (T := TX0) (N := 12) hx hb hts hiX0 tyX0 tyX0_ok nmX0 hown hK hP hD hS (9 + ((σ 10 (sp_tr σ (0))) - 1).toNat) (cw_it (show 1 ≤ σ 10 (sp_tr σ (0)) ∧ σ 10 (sp_tr σ (0)) ≤ σ 4 0 by omega)) rfl 6 (by decide) hf130 (fun _ h9 => h9) rfl (by decide +kernel) rfl rfl (Nat.le_of_ble_eq_true rfl) dX2_readAgainAtStart_40 (fun H locs hP hD hS => ?_)
        rw [cw_si16 (σ := σ) (show 1 ≤ σ 10 (sp_tr σ (0)) ∧ σ 10 (sp_tr σ (0)) ≤ σ 4 0 by omega)] at hP hD
        refine lv_aload_n hx hb dX2_readAgainAtStart_43 rfl (lv_at hl 0 rfl) ?_
        have e16 : (up_a σ 16 (σ 10 (sp_tr σ (0))) ((σ 16 (σ 10 (sp_tr σ (0)))) - 1)) 16 (σ 10 (sp_tr σ 0)) = σ 16 (σ 10 (sp_tr σ 0)) - 1 := up_i_s _ _ _
        refine va_get (D := D) (ci := 0) (v := .int (zz_i ((up_a σ 16 (σ 10 (sp_tr σ (0))) ((σ 16 (σ 10 (sp_tr σ (0)))) - 1)) 16 (σ 10 (sp_tr σ (0)))))) (C := RX0) (T := TX0) (N := 12) hx hb hts hiX0 hown hK hP (9 + ((σ 10 (sp_tr σ (0))) - 1).toNat) (cw_it (show 1 ≤ σ 10 (sp_tr σ (0)) ∧ σ 10 (sp_tr σ (0)) ≤ σ 4 0 by omega)) rfl 6 (by decide) hf130 (fun _ h9 => h9) rfl dX2_readAgainAtStart_44 ?_
        refine zz_if_ne (tgt := 58) hx hb dX2_readAgainAtStart_47 (by decide) (by omega) (fun c5 => ?_) (fun c5 => ?_)
        · have hw9 : cw_ cy ga ad (sp_ra σ) = cw_ cy ga ad (up_a σ 16 (σ 10 (sp_tr σ (0))) ((σ 16 (σ 10 (sp_tr σ (0)))) - 1)) := by unfold sp_ra; unfold sp_rd; (repeat (first | rw [if_pos (by omega)] | rw [if_neg (by omega)])) <;> first | rfl | omega
          subst hAe
          exact W.vret hx hb hr (fun t ht hW => ⟨rfl, ⟨(), trivial, by rw [ht, hw9]; exact hP, va_K.moved hW.alike hK, by rw [hw9]; exact hD⟩, hS.F ht⟩) hS.2.2 dX2_readAgainAtStart_58
        · refine lv_aload_n hx hb dX2_readAgainAtStart_50 rfl (lv_at hl 0 rfl) ?_
          refine lv_aload_n hx hb dX2_readAgainAtStart_51 rfl (lv_at hl 0 rfl) ?_
          refine va_get (D := D) (ci := 0) (v := .int (zz_i (σ 17 (σ 10 (sp_tr σ (0)))))) (C := RX0) (T := TX0) (N := 12) hx hb hts hiX0 hown hK hP (9 + ((σ 10 (sp_tr σ (0))) - 1).toNat) (cw_it (show 1 ≤ σ 10 (sp_tr σ (0)) ∧ σ 10 (sp_tr σ (0)) ≤ σ 4 0 by omega)) rfl 7 (by decide) hf133 (fun _ h9 => h9) rfl dX2_readAgainAtStart_52 ?_
          refine va_put (D := D) (ci := 0) (v := .int (zz_i (σ 17 (σ 10 (sp_tr σ (0)))))) (ty := .int) (C := RX0) (T := TX0) (N := 12) hx hb hts hiX0 tyX0 tyX0_ok nmX0 hown hK hP hD hS (9 + ((σ 10 (sp_tr σ (0))) - 1).toNat) (cw_it (show 1 ≤ σ 10 (sp_tr σ (0)) ∧ σ 10 (sp_tr σ (0)) ≤ σ 4 0 by omega)) rfl 3 (by decide) hf104 (fun _ h9 => h9) rfl (by decide +kernel) rfl rfl (Nat.le_of_ble_eq_true rfl) dX2_readAgainAtStart_55 (fun H locs hP hD hS => ?_)
          rw [cw_si14 (σ := (up_a σ 16 (σ 10 (sp_tr σ (0))) ((σ 16 (σ 10 (sp_tr σ (0)))) - 1))) (show 1 ≤ σ 10 (sp_tr σ (0)) ∧ σ 10 (sp_tr σ (0)) ≤ σ 4 0 by omega)] at hP hD
          have hw9 : cw_ cy ga ad (sp_ra σ) = cw_ cy ga ad (up_a (up_a σ 16 (σ 10 (sp_tr σ (0))) ((σ 16 (σ 10 (sp_tr σ (0)))) - 1)) 14 (σ 10 (sp_tr σ (0))) (σ 17 (σ 10 (sp_tr σ (0))))) := by unfold sp_ra; unfold sp_rd; (repeat (first | rw [if_pos (by omega)] | rw [if_neg (by omega)])) <;> first | rfl | omega
          subst hAe
          exact W.vret hx hb hr (fun t ht hW => ⟨rfl, ⟨(), trivial, by rw [ht, hw9]; exact hP, va_K.moved hW.alike hK, by rw [hw9]; exact hD⟩, hS.F ht⟩) hS.2.2 dX2_readAgainAtStart_58
      · refine lv_aload_n hx hb dX2_readAgainAtStart_25 rfl (lv_at hl 1 rfl) ?_
        refine lv_aload_n hx hb dX2_readAgainAtStart_26 rfl (lv_at hl 0 rfl) ?_
        refine lv_iconst (v := zz_i (3)) hx hb dX2_readAgainAtStart_27 rfl ?_
        refine lv_iconst (v := zz_i (0)) hx hb dX2_readAgainAtStart_28 rfl ?_
        refine zc_v (As := [.ref (ad (σ 10 (sp_tr σ (0)))), .int (zz_i (3)), .int (zz_i (0))]) (rest := []) (S := Unit) (pc := 29) ⟨hx, hb, hml, hown, hts⟩ (c_takeOffTray l D cy ga ad σ _ hI.1 (σ 10 (sp_tr σ (0))) (3) (0) (show 1 ≤ σ 10 (sp_tr σ (0)) ∧ σ 10 (sp_tr σ (0)) ≤ σ 4 0 by omega) (show 0 ≤ σ 18 (σ 10 (sp_tr σ (0))) ∧ σ 18 (σ 10 (sp_tr σ (0))) < σ 0 0 by omega) (show σ 5 0 < 60 by omega)) (cwV 3 hts gX2_readAgainAtStart_X2_takeOffTray rfl rfl rfl (by decide +kernel) ⟨Nat.le_of_ble_eq_true rfl, Nat.le_of_ble_eq_true rfl⟩) hK hP hD hS hA hE (va_recv hK hP (ci := 2) (q0 := 0) rfl rfl) rfl hl.1 rfl (Nat.le_of_ble_eq_true rfl) dX2_readAgainAtStart_29 ⟨Nat.le_of_ble_eq_true rfl, Nat.le_of_ble_eq_true rfl⟩ (fun _ H locs k6 hP hD hS => ?_)
        refine W.eq (g2 := F0 m 32 ls []) rfl ?_
        have hw9 : cw_ cy ga ad (sp_ra σ) = cw_ cy ga ad (sp_lv σ (σ 10 (sp_tr σ (0))) (3) (0)) := by unfold sp_ra; unfold sp_rd; (repeat (first | rw [if_pos (by omega)] | rw [if_neg (by omega)])) <;> first | rfl | omega
        subst hAe
        exact W.vret hx hb hr (fun t ht hW => ⟨rfl, ⟨(), trivial, by rw [ht, hw9]; exact hP, va_K.moved hW.alike hK, by rw [hw9]; exact hD⟩, hS.F ht⟩) hS.2.2 dX2_readAgainAtStart_32
    · have hw9 : cw_ cy ga ad (sp_ra σ) = cw_ cy ga ad σ := by unfold sp_ra; unfold sp_rd; (repeat (first | rw [if_pos (by omega)] | rw [if_neg (by omega)])) <;> first | rfl | omega
      subst hAe
      exact W.vret hx hb hr (fun t ht hW => ⟨rfl, ⟨(), trivial, by rw [ht, hw9]; exact hP, va_K.moved hW.alike hK, by rw [hw9]; exact hD⟩, hS.F ht⟩) hS.2.2 dX2_readAgainAtStart_17

set_option maxHeartbeats 4000000 in
set_option maxRecDepth 100000 in
theorem c_doubtItemAt (l : Launch) (D : va_G) (cy ga : Nat → Nat) (ad : Int → Nat) (σ : zz_S) (sz : Nat) (hI : iw_ σ) (j11 : ∀ t, 0 ≤ σ 10 t ∧ σ 10 t ≤ σ 4 0) (x : Int) (q_x : 0 ≤ x ∧ x < σ 0 0) (hf : σ 7 0 < 40) : Met l yX2_doubtItemAt wsX2_doubtItemAt ({ frames := 3, cells := 0, slots := 0, locals := 64 }) (ct_P D cy [.ref (ga 0), .int (zz_i (x))] (cw_ cy ga ad σ) sz) (ct_Q D cy (cw_ cy ga ad σ) sz none (fun _ : Unit => True) (fun _ => cw_ cy ga ad (sp_da σ x))) 0 0 (va_A (cw_ cy ga ad σ) sz) := by
  refine Met.ofW (cc := cX2_doubtItemAt) (maxL := 3) (ret := none) (by decide) rfl ?_
  intro p e s m args below meth c s₁ B hml hv
  obtain ⟨rfl, rfl, hP, hK, hD0, hE⟩ := hv
  have hx := B.exec
  have hb := B.bytes
  have hr := B.returns
  have hts := atoms_spec (ws := wsX2_doubtItemAt) B.pre
  have hown : s.vm.findClass RX2 = some m.cls := findClass_of_methodNamed B.named
  have hlocks := B.notSynchronized
  have hD := hD0.self (sz := s.heap.size)
  obtain ⟨A, hAe⟩ : ∃ A, A = va_A (cw_ cy ga ad σ) s.heap.size := ⟨_, rfl⟩
  rw [← hAe] at hD hE
  have hA : ∀ q : Nat, s.heap.size ≤ q → A q := fun q h => by rw [hAe]; exact Or.inr h
  have hS : va_S A s.heap s.heap [] := va_S.rf
  have hP : va_P D zz_cl (cw_ cy ga ad σ) s.heap := hP
  have hl := lv_entry ([.ref (ga 0), .int (zz_i (x))]) (n := 3) (Nat.le_of_ble_eq_true rfl)
  rw [lg_entry_eq]
  generalize (lg_sl ([.ref (ga 0), .int (zz_i (x))]) ++ List.replicate (3 - (lg_sl ([.ref (ga 0), .int (zz_i (x))])).length) Slot.unset).toArray = ls at hl ⊢
  have hl : lv_has ls 3 [(0, .ref (ga 0)), (1, .int (zz_i (x)))] := hl
  obtain ⟨j1, j2, j3, j4, j5, j6, j7, j8, j9, j10⟩ := id hI
  have hiX0 : ∀ w ∈ wsX00, w ∈ wsX2_doubtItemAt := by decide +kernel
  have hf183 := hts (.fieldLink RX2 183 "SorterSteps$Item" "doubted" "Z") (by decide +kernel)
  have hf187 := hts (.fieldLink RX2 187 "SorterSteps$Item" "found" "Z") (by decide +kernel)
  have hiX2 : ∀ w ∈ wsX20, w ∈ wsX2_doubtItemAt := by decide +kernel
  have hf21 := hts (.fieldLink RX2 21 "SorterSteps" "doubted" "LSorterSteps$ItemRow;") (by decide +kernel)
  refine lv_aload_n hx hb dX2_doubtItemAt_0 rfl (lv_at hl 0 rfl) ?_
  refine lv_iload_n hx hb dX2_doubtItemAt_1 rfl (lv_at hl 1 rfl) ?_
  refine zc_v (As := [.int (zz_i (x))]) (rest := []) (S := Unit) (pc := 2) ⟨hx, hb, hml, hown, hts⟩ (c_itemAt l D cy ga ad σ _ hI (x) (by omega)) (cwV 1 hts gX2_doubtItemAt_X2_itemAt rfl rfl rfl (by decide +kernel) ⟨Nat.le_of_ble_eq_true rfl, Nat.le_of_ble_eq_true rfl⟩) hK hP hD hS hA hE (va_recv hK hP (ci := 2) (q0 := 0) rfl rfl) rfl hl.1 rfl (Nat.le_of_ble_eq_true rfl) dX2_doubtItemAt_2 ⟨Nat.le_of_ble_eq_true rfl, Nat.le_of_ble_eq_true rfl⟩ (fun _ H locs k1 hP hD hS => ?_)
  refine W.eq (g2 := F0 m 5 ls [va_rf (aq_ ad (σ 10 (sp_tr σ (x))))]) rfl ?_
  have b1_0 := sp_tr_b σ (x)
  have b1_1 := sp_in_b σ (x - σ 8 0)
  rcases aq_or ad (σ 10 (sp_tr σ (x))) with ⟨c2, hv⟩ | ⟨c2, hv⟩
  · refine W.eq (g2 := F0 m 5 ls [.null]) (congrArg (fun z => F0 m 5 ls (z :: [])) hv) ?_
    refine lv_astore_nN (lv' := [(2, .null), (0, .ref (ga 0)), (1, .int (zz_i (x)))]) hx hb dX2_doubtItemAt_5 rfl hl (by decide) rfl (fun ls hl => ?_)
    refine lv_aload_nN hx hb dX2_doubtItemAt_6 rfl (lv_at hl 0 rfl) ?_
    refine lv_ifnullN (tgt := 28) hx hb dX2_doubtItemAt_7 (by decide) ?_
    have hw9 : cw_ cy ga ad (sp_da σ x) = cw_ cy ga ad σ := by unfold sp_da; unfold sp_db; (repeat (first | rw [if_pos (by omega)] | rw [if_neg (by omega)])) <;> first | rfl | omega
    subst hAe
    exact W.vret hx hb hr (fun t ht hW => ⟨rfl, ⟨(), trivial, by rw [ht, hw9]; exact hP, va_K.moved hW.alike hK, by rw [hw9]; exact hD⟩, hS.F ht⟩) hS.2.2 dX2_doubtItemAt_28
  · refine W.eq (g2 := F0 m 5 ls [.ref (ad (σ 10 (sp_tr σ (x))))]) (congrArg (fun z => F0 m 5 ls (z :: [])) hv) ?_
    have h10 := j11 (sp_tr σ (x))
    refine lv_astore_n (lv' := [(2, .ref (ad (σ 10 (sp_tr σ (x))))), (0, .ref (ga 0)), (1, .int (zz_i (x)))]) hx hb dX2_doubtItemAt_5 rfl hl (by decide) rfl (fun ls hl => ?_)
    refine lv_aload_n hx hb dX2_doubtItemAt_6 rfl (lv_at hl 0 rfl) ?_
    refine lv_ifnull hx hb dX2_doubtItemAt_7 ?_
    refine lv_aload_n hx hb dX2_doubtItemAt_10 rfl (lv_at hl 0 rfl) ?_
    refine lv_iconst (v := zz_i (1)) hx hb dX2_doubtItemAt_11 rfl ?_
    refine va_put (D := D) (ci := 0) (v := .int (zz_i (1))) (ty := .boolean) (C := RX0) (T := TX0) (N := 12) hx hb hts hiX0 tyX0 tyX0_ok nmX0 hown hK hP hD hS (9 + ((σ 10 (sp_tr σ (x))) - 1).toNat) (cw_it (show 1 ≤ σ 10 (sp_tr σ (x)) ∧ σ 10 (sp_tr σ (x)) ≤ σ 4 0 by omega)) rfl 8 (by decide) hf183 (fun _ h9 => h9) rfl (by decide +kernel) (zz_narB (by omega)) (zz_fitB (by omega)) (Nat.le_of_ble_eq_true rfl) dX2_doubtItemAt_12 (fun H locs hP hD hS => ?_)
    rw [cw_si19 (σ := σ) (show 1 ≤ σ 10 (sp_tr σ (x)) ∧ σ 10 (sp_tr σ (x)) ≤ σ 4 0 by omega)] at hP hD
    refine lv_aload_n hx hb dX2_doubtItemAt_15 rfl (lv_at hl 0 rfl) ?_
    refine lv_iconst (v := zz_i (0)) hx hb dX2_doubtItemAt_16 rfl ?_
    refine va_put (D := D) (ci := 0) (v := .int (zz_i (0))) (ty := .boolean) (C := RX0) (T := TX0) (N := 12) hx hb hts hiX0 tyX0 tyX0_ok nmX0 hown hK hP hD hS (9 + ((σ 10 (sp_tr σ (x))) - 1).toNat) (cw_it (show 1 ≤ σ 10 (sp_tr σ (x)) ∧ σ 10 (sp_tr σ (x)) ≤ σ 4 0 by omega)) rfl 9 (by decide) hf187 (fun _ h9 => h9) rfl (by decide +kernel) (zz_narB (by omega)) (zz_fitB (by omega)) (Nat.le_of_ble_eq_true rfl) dX2_doubtItemAt_17 (fun H locs hP hD hS => ?_)
    rw [cw_si20 (σ := (up_a σ 19 (σ 10 (sp_tr σ (x))) (1))) (show 1 ≤ σ 10 (sp_tr σ (x)) ∧ σ 10 (sp_tr σ (x)) ≤ σ 4 0 by omega)] at hP hD
    refine lv_aload_n hx hb dX2_doubtItemAt_20 rfl (lv_at hl 1 rfl) ?_
    refine va_get (D := D) (ci := 2) (v := .ref (ga 5)) (C := RX2) (T := TX2) (N := 10) hx hb hts hiX2 hown hK hP (0) rfl rfl 4 (by decide) hf21 (fun _ h9 => h9) rfl dX2_doubtItemAt_21 ?_
    refine lv_aload_n hx hb dX2_doubtItemAt_24 rfl (lv_at hl 0 rfl) ?_
    refine zc_v (As := [.ref (ad (σ 10 (sp_tr σ (x))))]) (rest := []) (S := Unit) (pc := 25) ⟨hx, hb, hml, hown, hts⟩ (c_add_db l D cy ga ad (up_a (up_a σ 19 (σ 10 (sp_tr σ (x))) (1)) 20 (σ 10 (sp_tr σ (x))) (0)) _ hI (σ 10 (sp_tr σ (x))) (show 1 ≤ σ 10 (sp_tr σ (x)) ∧ σ 10 (sp_tr σ (x)) ≤ σ 4 0 by omega) (show σ 7 0 < 40 by omega)) (cwV 1 hts gX2_doubtItemAt_X1_add rfl rfl rfl (by decide +kernel) ⟨Nat.le_of_ble_eq_true rfl, Nat.le_of_ble_eq_true rfl⟩) hK hP hD hS hA hE (va_recv hK hP (ci := 1) (q0 := 5) rfl rfl) rfl hl.1 rfl (Nat.le_of_ble_eq_true rfl) dX2_doubtItemAt_25 ⟨Nat.le_of_ble_eq_true rfl, Nat.le_of_ble_eq_true rfl⟩ (fun _ H locs k3 hP hD hS => ?_)
    refine W.eq (g2 := F0 m 28 ls []) rfl ?_
    have hw9 : cw_ cy ga ad (sp_da σ x) = cw_ cy ga ad (up_s (up_a (up_a (up_a σ 19 (σ 10 (sp_tr σ (x))) (1)) 20 (σ 10 (sp_tr σ (x))) (0)) 27 (σ 7 0) (σ 10 (sp_tr σ (x)))) 7 (σ 7 0 + 1)) := by unfold sp_da; unfold sp_db; (repeat (first | rw [if_pos (by omega)] | rw [if_neg (by omega)])) <;> first | rfl | omega
    subst hAe
    exact W.vret hx hb hr (fun t ht hW => ⟨rfl, ⟨(), trivial, by rw [ht, hw9]; exact hP, va_K.moved hW.alike hK, by rw [hw9]; exact hD⟩, hS.F ht⟩) hS.2.2 dX2_doubtItemAt_28

set_option maxHeartbeats 4000000 in
set_option maxRecDepth 100000 in
theorem c_endDoubt (l : Launch) (D : va_G) (cy ga : Nat → Nat) (ad : Int → Nat) (σ : zz_S) (sz : Nat) (hI : iw_ σ) (i : Int) (hi : 1 ≤ i ∧ i ≤ σ 4 0) (ht : 0 ≤ σ 18 i ∧ σ 18 i < σ 0 0) (hq : σ 20 i = 0 ∨ σ 20 i = 1) (hf : σ 5 0 < 60) : Met l yX2_endDoubt wsX2_endDoubt ({ frames := 3, cells := 0, slots := 0, locals := 64 }) (ct_P D cy [.ref (ga 0), .ref (ad i)] (cw_ cy ga ad σ) sz) (ct_Q D cy (cw_ cy ga ad σ) sz none (fun _ : Unit => True) (fun _ => cw_ cy ga ad (sp_ed σ i))) 0 0 (va_A (cw_ cy ga ad σ) sz) := by
  refine Met.ofW (cc := cX2_endDoubt) (maxL := 2) (ret := none) (by decide) rfl ?_
  intro p e s m args below meth c s₁ B hml hv
  obtain ⟨rfl, rfl, hP, hK, hD0, hE⟩ := hv
  have hx := B.exec
  have hb := B.bytes
  have hr := B.returns
  have hts := atoms_spec (ws := wsX2_endDoubt) B.pre
  have hown : s.vm.findClass RX2 = some m.cls := findClass_of_methodNamed B.named
  have hlocks := B.notSynchronized
  have hD := hD0.self (sz := s.heap.size)
  obtain ⟨A, hAe⟩ : ∃ A, A = va_A (cw_ cy ga ad σ) s.heap.size := ⟨_, rfl⟩
  rw [← hAe] at hD hE
  have hA : ∀ q : Nat, s.heap.size ≤ q → A q := fun q h => by rw [hAe]; exact Or.inr h
  have hS : va_S A s.heap s.heap [] := va_S.rf
  have hP : va_P D zz_cl (cw_ cy ga ad σ) s.heap := hP
  have hl := lv_entry ([.ref (ga 0), .ref (ad i)]) (n := 2) (Nat.le_of_ble_eq_true rfl)
  rw [lg_entry_eq]
  generalize (lg_sl ([.ref (ga 0), .ref (ad i)]) ++ List.replicate (2 - (lg_sl ([.ref (ga 0), .ref (ad i)])).length) Slot.unset).toArray = ls at hl ⊢
  have hl : lv_has ls 2 [(0, .ref (ga 0)), (1, .ref (ad i))] := hl
  obtain ⟨j1, j2, j3, j4, j5, j6, j7, j8, j9, j10⟩ := id hI
  have hiX0 : ∀ w ∈ wsX00, w ∈ wsX2_endDoubt := by decide +kernel
  have hf183 := hts (.fieldLink RX2 183 "SorterSteps$Item" "doubted" "Z") (by decide +kernel)
  have hf187 := hts (.fieldLink RX2 187 "SorterSteps$Item" "found" "Z") (by decide +kernel)
  refine lv_aload_n hx hb dX2_endDoubt_0 rfl (lv_at hl 1 rfl) ?_
  refine lv_ifnonnull (tgt := 5) hx hb dX2_endDoubt_1 (by decide) ?_
  refine lv_aload_n hx hb dX2_endDoubt_5 rfl (lv_at hl 1 rfl) ?_
  refine lv_iconst (v := zz_i (0)) hx hb dX2_endDoubt_6 rfl ?_
  refine va_put (D := D) (ci := 0) (v := .int (zz_i (0))) (ty := .boolean) (C := RX0) (T := TX0) (N := 12) hx hb hts hiX0 tyX0 tyX0_ok nmX0 hown hK hP hD hS (9 + (i - 1).toNat) (cw_it (show 1 ≤ i ∧ i ≤ σ 4 0 by omega)) rfl 8 (by decide) hf183 (fun _ h9 => h9) rfl (by decide +kernel) (zz_narB (by omega)) (zz_fitB (by omega)) (Nat.le_of_ble_eq_true rfl) dX2_endDoubt_7 (fun H locs hP hD hS => ?_)
  rw [cw_si19 (σ := σ) (show 1 ≤ i ∧ i ≤ σ 4 0 by omega)] at hP hD
  refine lv_aload_n hx hb dX2_endDoubt_10 rfl (lv_at hl 1 rfl) ?_
  refine va_get (D := D) (ci := 0) (v := .int (zz_i (σ 20 i))) (C := RX0) (T := TX0) (N := 12) hx hb hts hiX0 hown hK hP (9 + (i - 1).toNat) (cw_it (show 1 ≤ i ∧ i ≤ σ 4 0 by omega)) rfl 9 (by decide) hf187 (fun _ h9 => h9) rfl dX2_endDoubt_11 ?_
  refine zz_if_ne (tgt := 25) hx hb dX2_endDoubt_14 (by decide) (by omega) (fun c1 => ?_) (fun c1 => ?_)
  · have hw9 : cw_ cy ga ad (sp_ed σ i) = cw_ cy ga ad (up_a σ 19 (i) (0)) := by unfold sp_ed; (repeat (first | rw [if_pos (by omega)] | rw [if_neg (by omega)])) <;> first | rfl | omega
    subst hAe
    exact W.vret hx hb hr (fun t ht hW => ⟨rfl, ⟨(), trivial, by rw [ht, hw9]; exact hP, va_K.moved hW.alike hK, by rw [hw9]; exact hD⟩, hS.F ht⟩) hS.2.2 dX2_endDoubt_25
  · refine lv_aload_n hx hb dX2_endDoubt_17 rfl (lv_at hl 0 rfl) ?_
    refine lv_aload_n hx hb dX2_endDoubt_18 rfl (lv_at hl 1 rfl) ?_
    refine lv_iconst (v := zz_i (5)) hx hb dX2_endDoubt_19 rfl ?_
    refine lv_bipush (v := zz_i (-2)) hx hb dX2_endDoubt_20 (by decide) ?_
    refine zc_v (As := [.ref (ad i), .int (zz_i (5)), .int (zz_i (-2))]) (rest := []) (S := Unit) (pc := 22) ⟨hx, hb, hml, hown, hts⟩ (c_takeOffTray l D cy ga ad (up_a σ 19 (i) (0)) _ hI (i) (5) (-2) (show 1 ≤ i ∧ i ≤ σ 4 0 by omega) (show 0 ≤ σ 18 i ∧ σ 18 i < σ 0 0 by omega) (show σ 5 0 < 60 by omega)) (cwV 3 hts gX2_endDoubt_X2_takeOffTray rfl rfl rfl (by decide +kernel) ⟨Nat.le_of_ble_eq_true rfl, Nat.le_of_ble_eq_true rfl⟩) hK hP hD hS hA hE (va_recv hK hP (ci := 2) (q0 := 0) rfl rfl) rfl hl.1 rfl (Nat.le_of_ble_eq_true rfl) dX2_endDoubt_22 ⟨Nat.le_of_ble_eq_true rfl, Nat.le_of_ble_eq_true rfl⟩ (fun _ H locs k2 hP hD hS => ?_)
    refine W.eq (g2 := F0 m 25 ls []) rfl ?_
    have hw9 : cw_ cy ga ad (sp_ed σ i) = cw_ cy ga ad (sp_lv (up_a σ 19 (i) (0)) (i) (5) (-2)) := by unfold sp_ed; (repeat (first | rw [if_pos (by omega)] | rw [if_neg (by omega)])) <;> first | rfl | omega
    subst hAe
    exact W.vret hx hb hr (fun t ht hW => ⟨rfl, ⟨(), trivial, by rw [ht, hw9]; exact hP, va_K.moved hW.alike hK, by rw [hw9]; exact hD⟩, hS.F ht⟩) hS.2.2 dX2_endDoubt_25
end
