section
set_option maxHeartbeats 4000000 in
set_option maxRecDepth 100000 in
theorem c_induct (l : Launch) (hl9 : l.stackTraces = false) (D : va_G) (cy ga : Nat → Nat) (ad : Int → Nat) (σ : zz_S) (sz : Nat) (hI : iv_ σ) (x a y : Int) (q_x : (-2147483648 ≤ x ∧ x < 2147483648)) (q_a : (-2147483648 ≤ a ∧ a < 2147483648)) (q_y : (-2147483648 ≤ y ∧ y < 2147483648)) : vx_Met l yX2_induct wsX2_induct ({ frames := 7, cells := 5, slots := 30, locals := 104 }) (ct_P D cy [.ref (ga 0), .int (zz_i (x)), .int (zz_i (a)), .int (zz_i (y))] (cw_ cy ga ad σ) sz) (ct_Q D cy (cw_ cy ga ad σ) sz (some (.int (zz_i (sp_tr σ a)))) (fun _ : Unit => k_ind σ x a y = 0) (fun _ => cw_ cy ga ad (s_ind σ x a y))) (ct_X D cy (cw_ cy ga ad σ) sz (k_ind σ x a y ≠ 0) (ex_s (k_ind σ x a y))) 5 30 (va_A (cw_ cy ga ad σ) sz) := by
  refine vx_ofW (cc := cX2_induct) (maxL := 5) (ret := (some .int)) (by decide) rfl ?_
  intro p e s m args below meth c s₁ B hml htb hv
  obtain ⟨rfl, rfl, hP, hK, hD0, hE⟩ := hv
  have hx := B.exec
  have hb := B.bytes
  have hr := B.returns
  have hts := atoms_spec (ws := wsX2_induct) B.pre
  have hown : s.vm.findClass RX2 = some m.cls := findClass_of_methodNamed B.named
  have hlocks := B.notSynchronized
  have hD := hD0.self (sz := s.heap.size)
  obtain ⟨A, hAe⟩ : ∃ A, A = va_A (cw_ cy ga ad σ) s.heap.size := ⟨_, rfl⟩
  rw [← hAe] at hD hE
  have hA : ∀ q : Nat, s.heap.size ≤ q → A q := fun q h => by rw [hAe]; exact Or.inr h
  have hS : va_S A s.heap s.heap [] := va_S.rf
  have hP : va_P D zz_cl (cw_ cy ga ad σ) s.heap := hP
  have hl := lv_entry ([.ref (ga 0), .int (zz_i (x)), .int (zz_i (a)), .int (zz_i (y))]) (n := 5) (Nat.le_of_ble_eq_true rfl)
  rw [lg_entry_eq]
  generalize (lg_sl ([.ref (ga 0), .int (zz_i (x)), .int (zz_i (a)), .int (zz_i (y))]) ++ List.replicate (5 - (lg_sl ([.ref (ga 0), .int (zz_i (x)), .int (zz_i (a)), .int (zz_i (y))])).length) Slot.unset).toArray = ls at hl ⊢
  have hl : lv_has ls 5 [(0, .ref (ga 0)), (1, .int (zz_i (x))), (2, .int (zz_i (a))), (3, .int (zz_i (y)))] := hl
  obtain ⟨⟨j1, j2, j3, j4, j5, j6, j7, j8, j9, j10⟩, j11, j12, j13, j14, j15, j16, j17, j18, j19, j20, j21, j22, j23, j24⟩ := id hI
  have haIAE := at_IAE (Ts := wsX2_induct) hts (by decide +kernel) hE
  have hiX0 : ∀ w ∈ wsX00, w ∈ wsX2_induct := by decide +kernel
  have hf104 := hts (.fieldLink RX2 104 "SorterSteps$Item" "code" "I") (by decide +kernel)
  have hf115 := hts (.fieldLink RX2 115 "SorterSteps$Item" "tray" "I") (by decide +kernel)
  have haISE := at_ISE (Ts := wsX2_induct) hts (by decide +kernel) hE
  refine lv_aload_n hx hb dX2_induct_0 rfl (lv_at hl 0 rfl) ?_
  refine lv_iload_n hx hb dX2_induct_1 rfl (lv_at hl 1 rfl) ?_
  refine zc_x (As := [.int (zz_i (x))]) (rest := []) (S := Unit) (pc := 2) ⟨hx, hb, hml, hown, hts⟩ (c_itemNumbered l hl9 D cy ga ad σ _ hI.1 (x) (by omega)) (cwV 1 hts gX2_induct_X2_itemNumbered rfl rfl rfl (by decide +kernel) ⟨Nat.le_of_ble_eq_true rfl, Nat.le_of_ble_eq_true rfl⟩) hK hP hD hS hA hE (va_recv hK hP (ci := 2) (q0 := 0) rfl rfl) rfl hl.1 rfl (Nat.le_of_ble_eq_true rfl) dX2_induct_2 ⟨Nat.le_of_ble_eq_true rfl, Nat.le_of_ble_eq_true rfl⟩ (fun k1 ce q9 H locs hP hD hS hce hcv hcl => ?_) (fun _ H locs k1 hP hD hS => ?_)
  · have hk9 : k_ind σ x a y = 1 := by unfold k_ind; (repeat (first | rw [if_pos (by omega)] | rw [if_neg (by omega)])) <;> first | rfl | omega
    rw [show ex_s (k_ind σ x a y) = "java/lang/IllegalArgumentException" from by rw [hk9]; rfl]
    exact th_out (E := "java/lang/IllegalArgumentException") hAe htb hlocks hK hP hD hS hce hcv hcl (by rw [hk9]; decide) (Nat.le_of_ble_eq_true rfl) (Nat.le_of_ble_eq_true rfl)
  · refine W.eq (g2 := F0 m 5 ls [.ref (ad (x))]) rfl ?_
    refine lv_astore (lv' := [(4, .ref (ad (x))), (0, .ref (ga 0)), (1, .int (zz_i (x))), (2, .int (zz_i (a))), (3, .int (zz_i (y)))]) hx hb dX2_induct_5 hl (by decide) rfl (fun ls hl => ?_)
    refine lv_iload_n hx hb dX2_induct_7 rfl (lv_at hl 3 rfl) ?_
    refine zz_if_lt (tgt := 16) hx hb dX2_induct_8 (by decide) (by omega) (fun c2 => ?_) (fun c2 => ?_)
    · have hk9 : k_ind σ x a y = 1 := by unfold k_ind; (repeat (first | rw [if_pos (by omega)] | rw [if_neg (by omega)])) <;> first | rfl | omega
      rw [show ex_s (k_ind σ x a y) = "java/lang/IllegalArgumentException" from by rw [hk9]; rfl]
      exact th_row (own := RX2) (cls := "java/lang/IllegalArgumentException") hx hb hl9 hown (by decide +kernel) (by decide +kernel) (hts (.classLink RX2 82 "java/lang/IllegalArgumentException") (by decide +kernel)) (hts (.initialized "java/lang/IllegalArgumentException") (by decide +kernel)) (hE.2.2.2.1 (84, "no such induct") (by decide +kernel)) haIAE go_IAE hAe hE hK hP hD hS (hl.1.trans hml.symm) dX2_induct_16 dX2_induct_19 dX2_induct_20 dX2_induct_22 dX2_induct_25 htb (Nat.le_of_ble_eq_true rfl) (Nat.le_of_ble_eq_true rfl) (Nat.le_of_ble_eq_true rfl) (Nat.le_of_ble_eq_true rfl) hlocks (by rw [hk9]; decide) (Nat.le_of_ble_eq_true rfl) (Nat.le_of_ble_eq_true rfl)
    · refine lv_iload_n hx hb dX2_induct_11 rfl (lv_at hl 3 rfl) ?_
      refine lv_iconst (v := zz_i (2)) hx hb dX2_induct_12 rfl ?_
      refine zz_icmp_lt (tgt := 26) hx hb dX2_induct_13 (by decide) (by omega) (by omega) (fun c3 => ?_) (fun c3 => ?_)
      · refine lv_aload_n hx hb dX2_induct_26 rfl (lv_at hl 1 rfl) ?_
        refine lv_iload_n hx hb dX2_induct_27 rfl (lv_at hl 4 rfl) ?_
        refine zc_x (As := [.int (zz_i (y))]) (rest := []) (S := Unit) (pc := 28) ⟨hx, hb, hml, hown, hts⟩ (c_requireCode l hl9 D cy ga ad σ _ hI.1 (y) (by omega)) (cwV 1 hts gX2_induct_X2_requireCode rfl rfl rfl (by decide +kernel) ⟨Nat.le_of_ble_eq_true rfl, Nat.le_of_ble_eq_true rfl⟩) hK hP hD hS hA hE (va_recv hK hP (ci := 2) (q0 := 0) rfl rfl) rfl hl.1 rfl (Nat.le_of_ble_eq_true rfl) dX2_induct_28 ⟨Nat.le_of_ble_eq_true rfl, Nat.le_of_ble_eq_true rfl⟩ (fun k4 ce q9 H locs hP hD hS hce hcv hcl => ?_) (fun _ H locs k4 hP hD hS => ?_)
        · have hk9 : k_ind σ x a y = 1 := by unfold k_ind; (repeat (first | rw [if_pos (by omega)] | rw [if_neg (by omega)])) <;> first | rfl | omega
          rw [show ex_s (k_ind σ x a y) = "java/lang/IllegalArgumentException" from by rw [hk9]; rfl]
          exact th_out (E := "java/lang/IllegalArgumentException") hAe htb hlocks hK hP hD hS hce hcv hcl (by rw [hk9]; decide) (Nat.le_of_ble_eq_true rfl) (Nat.le_of_ble_eq_true rfl)
        · refine W.eq (g2 := F0 m 31 ls []) rfl ?_
          refine lv_aload_n hx hb dX2_induct_31 rfl (lv_at hl 1 rfl) ?_
          refine zc_x (As := []) (rest := []) (S := Unit) (pc := 32) ⟨hx, hb, hml, hown, hts⟩ (c_requireNotJammed l hl9 D cy ga ad σ _ hI.1) (cwV 0 hts gX2_induct_X2_requireNotJammed rfl rfl rfl (by decide +kernel) ⟨Nat.le_of_ble_eq_true rfl, Nat.le_of_ble_eq_true rfl⟩) hK hP hD hS hA hE (va_recv hK hP (ci := 2) (q0 := 0) rfl rfl) rfl hl.1 rfl (Nat.le_of_ble_eq_true rfl) dX2_induct_32 ⟨Nat.le_of_ble_eq_true rfl, Nat.le_of_ble_eq_true rfl⟩ (fun k5 ce q9 H locs hP hD hS hce hcv hcl => ?_) (fun _ H locs k5 hP hD hS => ?_)
          · have hk9 : k_ind σ x a y = 2 := by unfold k_ind; (repeat (first | rw [if_pos (by omega)] | rw [if_neg (by omega)])) <;> first | rfl | omega
            rw [show ex_s (k_ind σ x a y) = "java/lang/IllegalStateException" from by rw [hk9]; rfl]
            exact th_out (E := "java/lang/IllegalStateException") hAe htb hlocks hK hP hD hS hce hcv hcl (by rw [hk9]; decide) (Nat.le_of_ble_eq_true rfl) (Nat.le_of_ble_eq_true rfl)
          · refine W.eq (g2 := F0 m 35 ls []) rfl ?_
            refine lv_aload_n hx hb dX2_induct_35 rfl (lv_at hl 1 rfl) ?_
            refine lv_aload hx hb dX2_induct_36 (lv_at hl 0 rfl) ?_
            have hit := j13 x (by omega) (by omega)
            refine zc_x (As := [.ref (ad (x))]) (rest := []) (S := Unit) (pc := 38) ⟨hx, hb, hml, hown, hts⟩ (c_requireFit l hl9 D cy ga ad σ _ hI.1 (x) (by omega) (by omega)) (cwV 1 hts gX2_induct_X2_requireFit rfl rfl rfl (by decide +kernel) ⟨Nat.le_of_ble_eq_true rfl, Nat.le_of_ble_eq_true rfl⟩) hK hP hD hS hA hE (va_recv hK hP (ci := 2) (q0 := 0) rfl rfl) rfl hl.1 rfl (Nat.le_of_ble_eq_true rfl) dX2_induct_38 ⟨Nat.le_of_ble_eq_true rfl, Nat.le_of_ble_eq_true rfl⟩ (fun k6 ce q9 H locs hP hD hS hce hcv hcl => ?_) (fun _ H locs k6 hP hD hS => ?_)
            · have hk9 : k_ind σ x a y = 2 := by unfold k_ind; (repeat (first | rw [if_pos (by omega)] | rw [if_neg (by omega)])) <;> first | rfl | omega
              rw [show ex_s (k_ind σ x a y) = "java/lang/IllegalStateException" from by rw [hk9]; rfl]
              exact th_out (E := "java/lang/IllegalStateException") hAe htb hlocks hK hP hD hS hce hcv hcl (by rw [hk9]; decide) (Nat.le_of_ble_eq_true rfl) (Nat.le_of_ble_eq_true rfl)
            · refine W.eq (g2 := F0 m 41 ls []) rfl ?_
              have h10 := j11 (sp_tr σ a)
              refine lv_aload_n hx hb dX2_induct_41 rfl (lv_at hl 1 rfl) ?_
              refine lv_iload_n hx hb dX2_induct_42 rfl (lv_at hl 3 rfl) ?_
              refine zc_v (As := [.int (zz_i (a))]) (rest := []) (S := Unit) (pc := 43) ⟨hx, hb, hml, hown, hts⟩ (c_itemAt l D cy ga ad σ _ hI.1 (a) (by omega)) (cwV 1 hts gX2_induct_X2_itemAt rfl rfl rfl (by decide +kernel) ⟨Nat.le_of_ble_eq_true rfl, Nat.le_of_ble_eq_true rfl⟩) hK hP hD hS hA hE (va_recv hK hP (ci := 2) (q0 := 0) rfl rfl) rfl hl.1 rfl (Nat.le_of_ble_eq_true rfl) dX2_induct_43 ⟨Nat.le_of_ble_eq_true rfl, Nat.le_of_ble_eq_true rfl⟩ (fun _ H locs k7 hP hD hS => ?_)
              refine W.eq (g2 := F0 m 46 ls [va_rf (aq_ ad (σ 10 (sp_tr σ (a))))]) rfl ?_
              have b7_0 := sp_tr_b σ (a)
              have b7_1 := sp_in_b σ (a - σ 8 0)
              rcases aq_or ad (σ 10 (sp_tr σ (a))) with ⟨c8, hv⟩ | ⟨c8, hv⟩
              · refine W.eq (g2 := F0 m 46 ls [.null]) (congrArg (fun z => F0 m 46 ls (z :: [])) hv) ?_
                refine lv_ifnullN (tgt := 59) hx hb dX2_induct_46 (by decide) ?_
                refine lv_aload hx hb dX2_induct_59 (lv_at hl 0 rfl) ?_
                refine lv_iload_n hx hb dX2_induct_61 rfl (lv_at hl 4 rfl) ?_
                refine va_put (D := D) (ci := 0) (v := .int (zz_i (y))) (ty := .int) (C := RX0) (T := TX0) (N := 12) hx hb hts hiX0 tyX0 tyX0_ok nmX0 hown hK hP hD hS (9 + (x - 1).toNat) (cw_it (show 1 ≤ x ∧ x ≤ σ 4 0 by omega)) rfl 3 (by decide) hf104 (fun _ h9 => h9) rfl (by decide +kernel) rfl rfl (Nat.le_of_ble_eq_true rfl) dX2_induct_62 (fun H locs hP hD hS => ?_)
                rw [cw_si14 (σ := σ) (show 1 ≤ x ∧ x ≤ σ 4 0 by omega)] at hP hD
                refine lv_aload_n hx hb dX2_induct_65 rfl (lv_at hl 1 rfl) ?_
                refine lv_aload hx hb dX2_induct_66 (lv_at hl 0 rfl) ?_
                refine lv_aload_n hx hb dX2_induct_68 rfl (lv_at hl 1 rfl) ?_
                refine lv_iload_n hx hb dX2_induct_69 rfl (lv_at hl 3 rfl) ?_
                refine zc_v (As := [.int (zz_i (a))]) (rest := [.ref (ad (x)), .ref (ga 0)]) (S := Unit) (pc := 70) ⟨hx, hb, hml, hown, hts⟩ (c_trayAt l D cy ga ad (up_a σ 14 (x) (y)) _ hI.1 (a) (by omega)) (cwV 1 hts gX2_induct_X2_trayAt rfl rfl rfl (by decide +kernel) ⟨Nat.le_of_ble_eq_true rfl, Nat.le_of_ble_eq_true rfl⟩) hK hP hD hS hA hE (va_recv hK hP (ci := 2) (q0 := 0) rfl rfl) rfl hl.1 rfl (Nat.le_of_ble_eq_true rfl) dX2_induct_70 ⟨Nat.le_of_ble_eq_true rfl, Nat.le_of_ble_eq_true rfl⟩ (fun _ H locs k9 hP hD hS => ?_)
                refine W.eq (g2 := F0 m 73 ls [.int (zz_i (sp_tr (up_a σ 14 (x) (y)) (a))), .ref (ad (x)), .ref (ga 0)]) rfl ?_
                have b9_0 := sp_tr_b (up_a σ 14 (x) (y)) (a)
                have b9_1 := sp_in_b (up_a σ 14 (x) (y)) (a - (up_a σ 14 (x) (y)) 8 0)
                refine W.eq (g2 := F0 m 73 ls [.int (zz_i (sp_tr σ a)), .ref (ad (x)), .ref (ga 0)]) rfl ?_
                refine zc_v (As := [.ref (ad (x)), .int (zz_i (sp_tr σ a))]) (rest := []) (S := Unit) (pc := 73) ⟨hx, hb, hml, hown, hts⟩ (c_putOnTray l D cy ga ad (up_a σ 14 (x) (y)) _ hI.1 (x) (sp_tr σ a) (show 1 ≤ x ∧ x ≤ σ 4 0 by omega) (show 0 ≤ sp_tr σ a ∧ sp_tr σ a < σ 0 0 by omega)) (cwV 2 hts gX2_induct_X2_putOnTray rfl rfl rfl (by decide +kernel) ⟨Nat.le_of_ble_eq_true rfl, Nat.le_of_ble_eq_true rfl⟩) hK hP hD hS hA hE (va_recv hK hP (ci := 2) (q0 := 0) rfl rfl) rfl hl.1 rfl (Nat.le_of_ble_eq_true rfl) dX2_induct_73 ⟨Nat.le_of_ble_eq_true rfl, Nat.le_of_ble_eq_true rfl⟩ (fun _ H locs k10 hP hD hS => ?_)
                refine W.eq (g2 := F0 m 76 ls []) rfl ?_
                refine lv_aload hx hb dX2_induct_76 (lv_at hl 0 rfl) ?_
                refine va_get (D := D) (ci := 0) (v := .int (zz_i ((sp_pu (up_a σ 14 (x) (y)) (x) (sp_tr σ a)) 18 x))) (C := RX0) (T := TX0) (N := 12) hx hb hts hiX0 hown hK hP (9 + (x - 1).toNat) (cw_it (show 1 ≤ x ∧ x ≤ σ 4 0 by omega)) rfl 5 (by decide) hf115 (fun _ h9 => h9) rfl dX2_induct_78 ?_
                have e18 : (sp_pu (up_a σ 14 (x) (y)) (x) (sp_tr σ a)) 18 x = sp_tr σ a := up_i_s _ _ _
                have hv9 : sp_tr σ a = (sp_pu (up_a σ 14 (x) (y)) (x) (sp_tr σ a)) 18 x := by exact e18.symm
                have hw9 : cw_ cy ga ad (s_ind σ x a y) = cw_ cy ga ad (sp_pu (up_a σ 14 (x) (y)) (x) (sp_tr σ a)) := by rfl
                subst hAe
                refine W.widen (k := 5) (n := 30) (Nat.le_of_ble_eq_true rfl) (Nat.le_of_ble_eq_true rfl) ?_
                refine vx_ret ?_
                exact W.iret (v := zz_i ((sp_pu (up_a σ 14 (x) (y)) (x) (sp_tr σ a)) 18 x)) hx hb hr (fun t ht hW => ⟨congrArg (fun z => Outcome.returned (some (Value.int (zz_i z)))) hv9.symm, ⟨(), (by unfold k_ind; (repeat (first | rw [if_pos (by omega)] | rw [if_neg (by omega)])) <;> first | rfl | omega), by rw [ht, hw9]; exact hP, va_K.moved hW.alike hK, by rw [hw9]; exact hD⟩, hS.F ht⟩) hS.2.2 dX2_induct_81
              · refine W.eq (g2 := F0 m 46 ls [.ref (ad (σ 10 (sp_tr σ (a))))]) (congrArg (fun z => F0 m 46 ls (z :: [])) hv) ?_
                refine lv_ifnull hx hb dX2_induct_46 ?_
                have hk9 : k_ind σ x a y = 2 := by unfold k_ind; (repeat (first | rw [if_pos (by omega)] | rw [if_neg (by omega)])) <;> first | rfl | omega
                rw [show ex_s (k_ind σ x a y) = "java/lang/IllegalStateException" from by rw [hk9]; rfl]
                exact th_row (own := RX2) (cls := "java/lang/IllegalStateException") hx hb hl9 hown (by decide +kernel) (by decide +kernel) (hts (.classLink RX2 99 "java/lang/IllegalStateException") (by decide +kernel)) (hts (.initialized "java/lang/IllegalStateException") (by decide +kernel)) (hE.2.2.2.1 (101, "the tray is not empty") (by decide +kernel)) haISE go_ISE hAe hE hK hP hD hS (hl.1.trans hml.symm) dX2_induct_49 dX2_induct_52 dX2_induct_53 dX2_induct_55 dX2_induct_58 htb (Nat.le_of_ble_eq_true rfl) (Nat.le_of_ble_eq_true rfl) (Nat.le_of_ble_eq_true rfl) (Nat.le_of_ble_eq_true rfl) hlocks (by rw [hk9]; decide) (Nat.le_of_ble_eq_true rfl) (Nat.le_of_ble_eq_true rfl)
      · have hk9 : k_ind σ x a y = 1 := by unfold k_ind; (repeat (first | rw [if_pos (by omega)] | rw [if_neg (by omega)])) <;> first | rfl | omega
        rw [show ex_s (k_ind σ x a y) = "java/lang/IllegalArgumentException" from by rw [hk9]; rfl]
        exact th_row (own := RX2) (cls := "java/lang/IllegalArgumentException") hx hb hl9 hown (by decide +kernel) (by decide +kernel) (hts (.classLink RX2 82 "java/lang/IllegalArgumentException") (by decide +kernel)) (hts (.initialized "java/lang/IllegalArgumentException") (by decide +kernel)) (hE.2.2.2.1 (84, "no such induct") (by decide +kernel)) haIAE go_IAE hAe hE hK hP hD hS (hl.1.trans hml.symm) dX2_induct_16 dX2_induct_19 dX2_induct_20 dX2_induct_22 dX2_induct_25 htb (Nat.le_of_ble_eq_true rfl) (Nat.le_of_ble_eq_true rfl) (Nat.le_of_ble_eq_true rfl) (Nat.le_of_ble_eq_true rfl) hlocks (by rw [hk9]; decide) (Nat.le_of_ble_eq_true rfl) (Nat.le_of_ble_eq_true rfl)

set_option maxHeartbeats 4000000 in
set_option maxRecDepth 100000 in
theorem c_retry (l : Launch) (hl9 : l.stackTraces = false) (D : va_G) (cy ga : Nat → Nat) (ad : Int → Nat) (σ : zz_S) (sz : Nat) (hI : iv_ σ) (x n y : Int) (q_x : (-2147483648 ≤ x ∧ x < 2147483648)) (q_n : (-2147483648 ≤ n ∧ n < 2147483648)) (q_y : (-2147483648 ≤ y ∧ y < 2147483648)) : vx_Met l yX2_retry wsX2_retry ({ frames := 7, cells := 3, slots := 18, locals := 104 }) (ct_P D cy [.ref (ga 0), .int (zz_i (x)), .int (zz_i (n)), .int (zz_i (y))] (cw_ cy ga ad σ) sz) (ct_Q D cy (cw_ cy ga ad σ) sz none (fun _ : Unit => k_ret σ x n y = 0) (fun _ => cw_ cy ga ad (s_ret σ x n y))) (ct_X D cy (cw_ cy ga ad σ) sz (k_ret σ x n y ≠ 0) (ex_s (k_ret σ x n y))) 3 18 (va_A (cw_ cy ga ad σ) sz) := by
  refine vx_ofW (cc := cX2_retry) (maxL := 5) (ret := none) (by decide) rfl ?_
  intro p e s m args below meth c s₁ B hml htb hv
  obtain ⟨rfl, rfl, hP, hK, hD0, hE⟩ := hv
  have hx := B.exec
  have hb := B.bytes
  have hr := B.returns
  have hts := atoms_spec (ws := wsX2_retry) B.pre
  have hown : s.vm.findClass RX2 = some m.cls := findClass_of_methodNamed B.named
  have hlocks := B.notSynchronized
  have hD := hD0.self (sz := s.heap.size)
  obtain ⟨A, hAe⟩ : ∃ A, A = va_A (cw_ cy ga ad σ) s.heap.size := ⟨_, rfl⟩
  rw [← hAe] at hD hE
  have hA : ∀ q : Nat, s.heap.size ≤ q → A q := fun q h => by rw [hAe]; exact Or.inr h
  have hS : va_S A s.heap s.heap [] := va_S.rf
  have hP : va_P D zz_cl (cw_ cy ga ad σ) s.heap := hP
  have hl := lv_entry ([.ref (ga 0), .int (zz_i (x)), .int (zz_i (n)), .int (zz_i (y))]) (n := 5) (Nat.le_of_ble_eq_true rfl)
  rw [lg_entry_eq]
  generalize (lg_sl ([.ref (ga 0), .int (zz_i (x)), .int (zz_i (n)), .int (zz_i (y))]) ++ List.replicate (5 - (lg_sl ([.ref (ga 0), .int (zz_i (x)), .int (zz_i (n)), .int (zz_i (y))])).length) Slot.unset).toArray = ls at hl ⊢
  have hl : lv_has ls 5 [(0, .ref (ga 0)), (1, .int (zz_i (x))), (2, .int (zz_i (n))), (3, .int (zz_i (y)))] := hl
  obtain ⟨⟨j1, j2, j3, j4, j5, j6, j7, j8, j9, j10⟩, j11, j12, j13, j14, j15, j16, j17, j18, j19, j20, j21, j22, j23, j24⟩ := id hI
  have haIAE := at_IAE (Ts := wsX2_retry) hts (by decide +kernel) hE
  have hiX0 : ∀ w ∈ wsX00, w ∈ wsX2_retry := by decide +kernel
  have hf123 := hts (.fieldLink RX2 123 "SorterSteps$Item" "state" "I") (by decide +kernel)
  have hf104 := hts (.fieldLink RX2 104 "SorterSteps$Item" "code" "I") (by decide +kernel)
  have hf130 := hts (.fieldLink RX2 130 "SorterSteps$Item" "retries" "I") (by decide +kernel)
  have hf133 := hts (.fieldLink RX2 133 "SorterSteps$Item" "codeAfterRetries" "I") (by decide +kernel)
  have haISE := at_ISE (Ts := wsX2_retry) hts (by decide +kernel) hE
  refine lv_aload_n hx hb dX2_retry_0 rfl (lv_at hl 0 rfl) ?_
  refine lv_iload_n hx hb dX2_retry_1 rfl (lv_at hl 1 rfl) ?_
  refine zc_x (As := [.int (zz_i (x))]) (rest := []) (S := Unit) (pc := 2) ⟨hx, hb, hml, hown, hts⟩ (c_itemNumbered l hl9 D cy ga ad σ _ hI.1 (x) (by omega)) (cwV 1 hts gX2_retry_X2_itemNumbered rfl rfl rfl (by decide +kernel) ⟨Nat.le_of_ble_eq_true rfl, Nat.le_of_ble_eq_true rfl⟩) hK hP hD hS hA hE (va_recv hK hP (ci := 2) (q0 := 0) rfl rfl) rfl hl.1 rfl (Nat.le_of_ble_eq_true rfl) dX2_retry_2 ⟨Nat.le_of_ble_eq_true rfl, Nat.le_of_ble_eq_true rfl⟩ (fun k1 ce q9 H locs hP hD hS hce hcv hcl => ?_) (fun _ H locs k1 hP hD hS => ?_)
  · have hk9 : k_ret σ x n y = 1 := by unfold k_ret; (repeat (first | rw [if_pos (by omega)] | rw [if_neg (by omega)])) <;> first | rfl | omega
    rw [show ex_s (k_ret σ x n y) = "java/lang/IllegalArgumentException" from by rw [hk9]; rfl]
    exact th_out (E := "java/lang/IllegalArgumentException") hAe htb hlocks hK hP hD hS hce hcv hcl (by rw [hk9]; decide) (Nat.le_of_ble_eq_true rfl) (Nat.le_of_ble_eq_true rfl)
  · refine W.eq (g2 := F0 m 5 ls [.ref (ad (x))]) rfl ?_
    refine lv_astore (lv' := [(4, .ref (ad (x))), (0, .ref (ga 0)), (1, .int (zz_i (x))), (2, .int (zz_i (n))), (3, .int (zz_i (y)))]) hx hb dX2_retry_5 hl (by decide) rfl (fun ls hl => ?_)
    refine lv_iload_n hx hb dX2_retry_7 rfl (lv_at hl 3 rfl) ?_
    refine zz_if_lt (tgt := 17) hx hb dX2_retry_8 (by decide) (by omega) (fun c2 => ?_) (fun c2 => ?_)
    · have hk9 : k_ret σ x n y = 1 := by unfold k_ret; (repeat (first | rw [if_pos (by omega)] | rw [if_neg (by omega)])) <;> first | rfl | omega
      rw [show ex_s (k_ret σ x n y) = "java/lang/IllegalArgumentException" from by rw [hk9]; rfl]
      exact th_row (own := RX2) (cls := "java/lang/IllegalArgumentException") hx hb hl9 hown (by decide +kernel) (by decide +kernel) (hts (.classLink RX2 82 "java/lang/IllegalArgumentException") (by decide +kernel)) (hts (.initialized "java/lang/IllegalArgumentException") (by decide +kernel)) (hE.2.2.2.1 (121, "no such number of retries") (by decide +kernel)) haIAE go_IAE hAe hE hK hP hD hS (hl.1.trans hml.symm) dX2_retry_17 dX2_retry_20 dX2_retry_21 dX2_retry_23 dX2_retry_26 htb (Nat.le_of_ble_eq_true rfl) (Nat.le_of_ble_eq_true rfl) (Nat.le_of_ble_eq_true rfl) (Nat.le_of_ble_eq_true rfl) hlocks (by rw [hk9]; decide) (Nat.le_of_ble_eq_true rfl) (Nat.le_of_ble_eq_true rfl)
    · refine lv_iload_n hx hb dX2_retry_11 rfl (lv_at hl 3 rfl) ?_
      refine lv_bipush (v := zz_i (9)) hx hb dX2_retry_12 (by decide) ?_
      refine zz_icmp_le (tgt := 27) hx hb dX2_retry_14 (by decide) (by omega) (by omega) (fun c3 => ?_) (fun c3 => ?_)
      · refine lv_aload_n hx hb dX2_retry_27 rfl (lv_at hl 1 rfl) ?_
        refine lv_iload_n hx hb dX2_retry_28 rfl (lv_at hl 4 rfl) ?_
        refine zc_x (As := [.int (zz_i (y))]) (rest := []) (S := Unit) (pc := 29) ⟨hx, hb, hml, hown, hts⟩ (c_requireCode l hl9 D cy ga ad σ _ hI.1 (y) (by omega)) (cwV 1 hts gX2_retry_X2_requireCode rfl rfl rfl (by decide +kernel) ⟨Nat.le_of_ble_eq_true rfl, Nat.le_of_ble_eq_true rfl⟩) hK hP hD hS hA hE (va_recv hK hP (ci := 2) (q0 := 0) rfl rfl) rfl hl.1 rfl (Nat.le_of_ble_eq_true rfl) dX2_retry_29 ⟨Nat.le_of_ble_eq_true rfl, Nat.le_of_ble_eq_true rfl⟩ (fun k4 ce q9 H locs hP hD hS hce hcv hcl => ?_) (fun _ H locs k4 hP hD hS => ?_)
        · have hk9 : k_ret σ x n y = 1 := by unfold k_ret; (repeat (first | rw [if_pos (by omega)] | rw [if_neg (by omega)])) <;> first | rfl | omega
          rw [show ex_s (k_ret σ x n y) = "java/lang/IllegalArgumentException" from by rw [hk9]; rfl]
          exact th_out (E := "java/lang/IllegalArgumentException") hAe htb hlocks hK hP hD hS hce hcv hcl (by rw [hk9]; decide) (Nat.le_of_ble_eq_true rfl) (Nat.le_of_ble_eq_true rfl)
        · refine W.eq (g2 := F0 m 32 ls []) rfl ?_
          refine lv_aload hx hb dX2_retry_32 (lv_at hl 0 rfl) ?_
          have hit := j13 x (by omega) (by omega)
          refine va_get (D := D) (ci := 0) (v := .int (zz_i (σ 13 x))) (C := RX0) (T := TX0) (N := 12) hx hb hts hiX0 hown hK hP (9 + (x - 1).toNat) (cw_it (show 1 ≤ x ∧ x ≤ σ 4 0 by omega)) rfl 2 (by decide) hf123 (fun _ h9 => h9) rfl dX2_retry_34 ?_
          refine lv_iconst (v := zz_i (1)) hx hb dX2_retry_37 rfl ?_
          refine zz_icmp_eq (tgt := 51) hx hb dX2_retry_38 (by decide) (by omega) (by omega) (fun c5 => ?_) (fun c5 => ?_)
          · refine lv_aload hx hb dX2_retry_51 (lv_at hl 0 rfl) ?_
            refine va_get (D := D) (ci := 0) (v := .int (zz_i (σ 14 x))) (C := RX0) (T := TX0) (N := 12) hx hb hts hiX0 hown hK hP (9 + (x - 1).toNat) (cw_it (show 1 ≤ x ∧ x ≤ σ 4 0 by omega)) rfl 3 (by decide) hf104 (fun _ h9 => h9) rfl dX2_retry_53 ?_
            refine zz_if_eq (tgt := 69) hx hb dX2_retry_56 (by decide) (by omega) (fun c6 => ?_) (fun c6 => ?_)
            · refine lv_aload hx hb dX2_retry_69 (lv_at hl 0 rfl) ?_
              refine lv_iload_n hx hb dX2_retry_71 rfl (lv_at hl 3 rfl) ?_
              refine va_put (D := D) (ci := 0) (v := .int (zz_i (n))) (ty := .int) (C := RX0) (T := TX0) (N := 12) hx hb hts hiX0 tyX0 tyX0_ok nmX0 hown hK hP hD hS (9 + (x - 1).toNat) (cw_it (show 1 ≤ x ∧ x ≤ σ 4 0 by omega)) rfl 6 (by decide) hf130 (fun _ h9 => h9) rfl (by decide +kernel) rfl rfl (Nat.le_of_ble_eq_true rfl) dX2_retry_72 (fun H locs hP hD hS => ?_)
              rw [cw_si16 (σ := σ) (show 1 ≤ x ∧ x ≤ σ 4 0 by omega)] at hP hD
              refine lv_aload hx hb dX2_retry_75 (lv_at hl 0 rfl) ?_
              refine lv_iload_n hx hb dX2_retry_77 rfl (lv_at hl 4 rfl) ?_
              refine va_put (D := D) (ci := 0) (v := .int (zz_i (y))) (ty := .int) (C := RX0) (T := TX0) (N := 12) hx hb hts hiX0 tyX0 tyX0_ok nmX0 hown hK hP hD hS (9 + (x - 1).toNat) (cw_it (show 1 ≤ x ∧ x ≤ σ 4 0 by omega)) rfl 7 (by decide) hf133 (fun _ h9 => h9) rfl (by decide +kernel) rfl rfl (Nat.le_of_ble_eq_true rfl) dX2_retry_78 (fun H locs hP hD hS => ?_)
              rw [cw_si17 (σ := (up_a σ 16 (x) (n))) (show 1 ≤ x ∧ x ≤ σ 4 0 by omega)] at hP hD
              have hw9 : cw_ cy ga ad (s_ret σ x n y) = cw_ cy ga ad (up_a (up_a σ 16 (x) (n)) 17 (x) (y)) := by rfl
              subst hAe
              refine W.widen (k := 3) (n := 18) (Nat.le_of_ble_eq_true rfl) (Nat.le_of_ble_eq_true rfl) ?_
              refine vx_ret ?_
              exact W.vret hx hb hr (fun t ht hW => ⟨rfl, ⟨(), (by unfold k_ret; (repeat (first | rw [if_pos (by omega)] | rw [if_neg (by omega)])) <;> first | rfl | omega), by rw [ht, hw9]; exact hP, va_K.moved hW.alike hK, by rw [hw9]; exact hD⟩, hS.F ht⟩) hS.2.2 dX2_retry_81
            · have hk9 : k_ret σ x n y = 2 := by unfold k_ret; (repeat (first | rw [if_pos (by omega)] | rw [if_neg (by omega)])) <;> first | rfl | omega
              rw [show ex_s (k_ret σ x n y) = "java/lang/IllegalStateException" from by rw [hk9]; rfl]
              exact th_row (own := RX2) (cls := "java/lang/IllegalStateException") hx hb hl9 hown (by decide +kernel) (by decide +kernel) (hts (.classLink RX2 99 "java/lang/IllegalStateException") (by decide +kernel)) (hts (.initialized "java/lang/IllegalStateException") (by decide +kernel)) (hE.2.2.2.1 (128, "the item has a code") (by decide +kernel)) haISE go_ISE hAe hE hK hP hD hS (hl.1.trans hml.symm) dX2_retry_59 dX2_retry_62 dX2_retry_63 dX2_retry_65 dX2_retry_68 htb (Nat.le_of_ble_eq_true rfl) (Nat.le_of_ble_eq_true rfl) (Nat.le_of_ble_eq_true rfl) (Nat.le_of_ble_eq_true rfl) hlocks (by rw [hk9]; decide) (Nat.le_of_ble_eq_true rfl) (Nat.le_of_ble_eq_true rfl)
          · have hk9 : k_ret σ x n y = 2 := by unfold k_ret; (repeat (first | rw [if_pos (by omega)] | rw [if_neg (by omega)])) <;> first | rfl | omega
            rw [show ex_s (k_ret σ x n y) = "java/lang/IllegalStateException" from by rw [hk9]; rfl]
            exact th_row (own := RX2) (cls := "java/lang/IllegalStateException") hx hb hl9 hown (by decide +kernel) (by decide +kernel) (hts (.classLink RX2 99 "java/lang/IllegalStateException") (by decide +kernel)) (hts (.initialized "java/lang/IllegalStateException") (by decide +kernel)) (hE.2.2.2.1 (126, "the item is not on a tray") (by decide +kernel)) haISE go_ISE hAe hE hK hP hD hS (hl.1.trans hml.symm) dX2_retry_41 dX2_retry_44 dX2_retry_45 dX2_retry_47 dX2_retry_50 htb (Nat.le_of_ble_eq_true rfl) (Nat.le_of_ble_eq_true rfl) (Nat.le_of_ble_eq_true rfl) (Nat.le_of_ble_eq_true rfl) hlocks (by rw [hk9]; decide) (Nat.le_of_ble_eq_true rfl) (Nat.le_of_ble_eq_true rfl)
      · have hk9 : k_ret σ x n y = 1 := by unfold k_ret; (repeat (first | rw [if_pos (by omega)] | rw [if_neg (by omega)])) <;> first | rfl | omega
        rw [show ex_s (k_ret σ x n y) = "java/lang/IllegalArgumentException" from by rw [hk9]; rfl]
        exact th_row (own := RX2) (cls := "java/lang/IllegalArgumentException") hx hb hl9 hown (by decide +kernel) (by decide +kernel) (hts (.classLink RX2 82 "java/lang/IllegalArgumentException") (by decide +kernel)) (hts (.initialized "java/lang/IllegalArgumentException") (by decide +kernel)) (hE.2.2.2.1 (121, "no such number of retries") (by decide +kernel)) haIAE go_IAE hAe hE hK hP hD hS (hl.1.trans hml.symm) dX2_retry_17 dX2_retry_20 dX2_retry_21 dX2_retry_23 dX2_retry_26 htb (Nat.le_of_ble_eq_true rfl) (Nat.le_of_ble_eq_true rfl) (Nat.le_of_ble_eq_true rfl) (Nat.le_of_ble_eq_true rfl) hlocks (by rw [hk9]; decide) (Nat.le_of_ble_eq_true rfl) (Nat.le_of_ble_eq_true rfl)

set_option maxHeartbeats 4000000 in
set_option maxRecDepth 100000 in
theorem c_out (l : Launch) (hl9 : l.stackTraces = false) (D : va_G) (cy ga : Nat → Nat) (ad : Int → Nat) (σ : zz_S) (sz : Nat) (hI : iv_ σ) (i y : Int) (q_i : (-2147483648 ≤ i ∧ i < 2147483648)) (q_y : (-2147483648 ≤ y ∧ y < 2147483648)) : vx_Met l yX2_out wsX2_out ({ frames := 6, cells := 1, slots := 6, locals := 82 }) (ct_P D cy [.ref (ga 0), .int (zz_i (i)), .int (zz_i (y))] (cw_ cy ga ad σ) sz) (ct_Q D cy (cw_ cy ga ad σ) sz (some (.int (zz_i (v_out σ i y)))) (fun _ : Unit => k_out σ i y = 0) (fun _ => cw_ cy ga ad σ)) (ct_X D cy (cw_ cy ga ad σ) sz (k_out σ i y ≠ 0) ("java/lang/IllegalArgumentException")) 1 6 (va_A (cw_ cy ga ad σ) sz) := by
  refine vx_ofW (cc := cX2_out) (maxL := 4) (ret := (some .int)) (by decide) rfl ?_
  intro p e s m args below meth c s₁ B hml htb hv
  obtain ⟨rfl, rfl, hP, hK, hD0, hE⟩ := hv
  have hx := B.exec
  have hb := B.bytes
  have hr := B.returns
  have hts := atoms_spec (ws := wsX2_out) B.pre
  have hown : s.vm.findClass RX2 = some m.cls := findClass_of_methodNamed B.named
  have hlocks := B.notSynchronized
  have hD := hD0.self (sz := s.heap.size)
  obtain ⟨A, hAe⟩ : ∃ A, A = va_A (cw_ cy ga ad σ) s.heap.size := ⟨_, rfl⟩
  rw [← hAe] at hD hE
  have hA : ∀ q : Nat, s.heap.size ≤ q → A q := fun q h => by rw [hAe]; exact Or.inr h
  have hS : va_S A s.heap s.heap [] := va_S.rf
  have hP : va_P D zz_cl (cw_ cy ga ad σ) s.heap := hP
  have hl := lv_entry ([.ref (ga 0), .int (zz_i (i)), .int (zz_i (y))]) (n := 4) (Nat.le_of_ble_eq_true rfl)
  rw [lg_entry_eq]
  generalize (lg_sl ([.ref (ga 0), .int (zz_i (i)), .int (zz_i (y))]) ++ List.replicate (4 - (lg_sl ([.ref (ga 0), .int (zz_i (i)), .int (zz_i (y))])).length) Slot.unset).toArray = ls at hl ⊢
  have hl : lv_has ls 4 [(0, .ref (ga 0)), (1, .int (zz_i (i))), (2, .int (zz_i (y)))] := hl
  obtain ⟨⟨j1, j2, j3, j4, j5, j6, j7, j8, j9, j10⟩, j11, j12, j13, j14, j15, j16, j17, j18, j19, j20, j21, j22, j23, j24⟩ := id hI
  have hiX2 : ∀ w ∈ wsX20, w ∈ wsX2_out := by decide +kernel
  have hf18 := hts (.fieldLink RX2 18 "SorterSteps" "left" "LSorterSteps$ItemRow;") (by decide +kernel)
  have haIAE := at_IAE (Ts := wsX2_out) hts (by decide +kernel) hE
  have hiX0 : ∀ w ∈ wsX00, w ∈ wsX2_out := by decide +kernel
  have hf75 := hts (.fieldLink RX2 75 "SorterSteps$Item" "number" "I") (by decide +kernel)
  have hf146 := hts (.fieldLink RX2 146 "SorterSteps$Item" "leftTo" "I") (by decide +kernel)
  have hf149 := hts (.fieldLink RX2 149 "SorterSteps$Item" "leftAtStep" "I") (by decide +kernel)
  have hf152 := hts (.fieldLink RX2 152 "SorterSteps$Item" "rounds" "I") (by decide +kernel)
  refine lv_aload_n hx hb dX2_out_0 rfl (lv_at hl 0 rfl) ?_
  refine va_get (D := D) (ci := 2) (v := .ref (ga 4)) (C := RX2) (T := TX2) (N := 10) hx hb hts hiX2 hown hK hP (0) rfl rfl 3 (by decide) hf18 (fun _ h9 => h9) rfl dX2_out_1 ?_
  refine lv_iload_n hx hb dX2_out_4 rfl (lv_at hl 1 rfl) ?_
  refine zc_v (As := [.int (zz_i (i))]) (rest := []) (S := Unit) (pc := 5) ⟨hx, hb, hml, hown, hts⟩ (c_at_lf l D cy ga ad σ _ hI.1 (i) (by omega)) (cwV 1 hts gX2_out_X1_at rfl rfl rfl (by decide +kernel) ⟨Nat.le_of_ble_eq_true rfl, Nat.le_of_ble_eq_true rfl⟩) hK hP hD hS hA hE (va_recv hK hP (ci := 1) (q0 := 4) rfl rfl) rfl hl.1 rfl (Nat.le_of_ble_eq_true rfl) dX2_out_5 ⟨Nat.le_of_ble_eq_true rfl, Nat.le_of_ble_eq_true rfl⟩ (fun _ H locs k1 hP hD hS => ?_)
  refine W.eq (g2 := F0 m 8 ls [va_rf (aq_ ad (sp_al σ (i)))]) rfl ?_
  have b1_0 := sp_al_b σ (i)
  rcases aq_or ad (sp_al σ (i)) with ⟨c2, hv⟩ | ⟨c2, hv⟩
  · refine W.eq (g2 := F0 m 8 ls [.null]) (congrArg (fun z => F0 m 8 ls (z :: [])) hv) ?_
    have h14 := j14 i
    refine lv_astore_nN (lv' := [(3, .null), (0, .ref (ga 0)), (1, .int (zz_i (i))), (2, .int (zz_i (y)))]) hx hb dX2_out_8 rfl hl (by decide) rfl (fun ls hl => ?_)
    refine lv_aload_nN hx hb dX2_out_9 rfl (lv_at hl 0 rfl) ?_
    refine lv_ifnonnullN hx hb dX2_out_10 ?_
    have hk9 : k_out σ i y = 1 := by unfold k_out; (repeat (first | rw [if_pos (by omega)] | rw [if_neg (by omega)])) <;> first | rfl | omega
    exact th_row (own := RX2) (cls := "java/lang/IllegalArgumentException") hx hb hl9 hown (by decide +kernel) (by decide +kernel) (hts (.classLink RX2 82 "java/lang/IllegalArgumentException") (by decide +kernel)) (hts (.initialized "java/lang/IllegalArgumentException") (by decide +kernel)) (hE.2.2.2.1 (144, "not so many items left their trays") (by decide +kernel)) haIAE go_IAE hAe hE hK hP hD hS (hl.1.trans hml.symm) dX2_out_13 dX2_out_16 dX2_out_17 dX2_out_19 dX2_out_22 htb (Nat.le_of_ble_eq_true rfl) (Nat.le_of_ble_eq_true rfl) (Nat.le_of_ble_eq_true rfl) (Nat.le_of_ble_eq_true rfl) hlocks (by rw [hk9]; decide) (Nat.le_of_ble_eq_true rfl) (Nat.le_of_ble_eq_true rfl)
  · refine W.eq (g2 := F0 m 8 ls [.ref (ad (sp_al σ (i)))]) (congrArg (fun z => F0 m 8 ls (z :: [])) hv) ?_
    have h14 := j14 i (by omega) (by omega)
    have es : sp_al σ (i) = σ 23 i := by omega
    have e21 : σ 21 (sp_al σ (i)) = σ 21 (σ 23 i) := by rw [es]
    have e22 : σ 22 (sp_al σ (i)) = σ 22 (σ 23 i) := by rw [es]
    have e15 : σ 15 (sp_al σ (i)) = σ 15 (σ 23 i) := by rw [es]
    refine lv_astore_n (lv' := [(3, .ref (ad (sp_al σ (i)))), (0, .ref (ga 0)), (1, .int (zz_i (i))), (2, .int (zz_i (y)))]) hx hb dX2_out_8 rfl hl (by decide) rfl (fun ls hl => ?_)
    refine lv_aload_n hx hb dX2_out_9 rfl (lv_at hl 0 rfl) ?_
    refine lv_ifnonnull (tgt := 23) hx hb dX2_out_10 (by decide) ?_
    refine lv_iload_n hx hb dX2_out_23 rfl (lv_at hl 3 rfl) ?_
    rcases (show (y) = 0 ∨ (y) = 1 ∨ (y) = 2 ∨ (y) = 3 ∨ ((y) < 0 ∨ 3 < (y)) by omega) with c4 | c5 | c6 | c7 | c8
    · refine lv_tableIn (off := 32) (tgt := 56) hx hb dX2_out_24 (by rw [zz_toInt (by omega)]; omega) (by rw [zz_toInt (by omega)]; omega) (by rw [zz_toInt (by omega), c4]; rfl) (by decide) ?_
      refine lv_aload_n hx hb dX2_out_56 rfl (lv_at hl 0 rfl) ?_
      refine va_get (D := D) (ci := 0) (v := .int (zz_i (sp_al σ (i)))) (C := RX0) (T := TX0) (N := 12) hx hb hts hiX0 hown hK hP (9 + ((sp_al σ (i)) - 1).toNat) (cw_it (show 1 ≤ sp_al σ (i) ∧ sp_al σ (i) ≤ σ 4 0 by omega)) rfl 0 (by decide) hf75 (fun _ h9 => h9) rfl dX2_out_57 ?_
      have hv9 : v_out σ i y = sp_al σ (i) := by unfold v_out; (repeat (first | rw [if_pos (by omega)] | rw [if_neg (by omega)])) <;> first | rfl | omega
      have hw9 : cw_ cy ga ad σ = cw_ cy ga ad σ := by rfl
      subst hAe
      refine W.widen (k := 1) (n := 6) (Nat.le_of_ble_eq_true rfl) (Nat.le_of_ble_eq_true rfl) ?_
      refine vx_ret ?_
      exact W.iret (v := zz_i (sp_al σ (i))) hx hb hr (fun t ht hW => ⟨congrArg (fun z => Outcome.returned (some (Value.int (zz_i z)))) hv9.symm, ⟨(), (by unfold k_out; (repeat (first | rw [if_pos (by omega)] | rw [if_neg (by omega)])) <;> first | rfl | omega), by rw [ht, hw9]; exact hP, va_K.moved hW.alike hK, by rw [hw9]; exact hD⟩, hS.F ht⟩) hS.2.2 dX2_out_60
    · refine lv_tableIn (off := 37) (tgt := 61) hx hb dX2_out_24 (by rw [zz_toInt (by omega)]; omega) (by rw [zz_toInt (by omega)]; omega) (by rw [zz_toInt (by omega), c5]; rfl) (by decide) ?_
      refine lv_aload_n hx hb dX2_out_61 rfl (lv_at hl 0 rfl) ?_
      refine va_get (D := D) (ci := 0) (v := .int (zz_i (σ 21 (sp_al σ (i))))) (C := RX0) (T := TX0) (N := 12) hx hb hts hiX0 hown hK hP (9 + ((sp_al σ (i)) - 1).toNat) (cw_it (show 1 ≤ sp_al σ (i) ∧ sp_al σ (i) ≤ σ 4 0 by omega)) rfl 10 (by decide) hf146 (fun _ h9 => h9) rfl dX2_out_62 ?_
      have hv9 : v_out σ i y = σ 21 (sp_al σ (i)) := by unfold v_out; (repeat (first | rw [if_pos (by omega)] | rw [if_neg (by omega)])) <;> first | rfl | omega
      have hw9 : cw_ cy ga ad σ = cw_ cy ga ad σ := by rfl
      subst hAe
      refine W.widen (k := 1) (n := 6) (Nat.le_of_ble_eq_true rfl) (Nat.le_of_ble_eq_true rfl) ?_
      refine vx_ret ?_
      exact W.iret (v := zz_i (σ 21 (sp_al σ (i)))) hx hb hr (fun t ht hW => ⟨congrArg (fun z => Outcome.returned (some (Value.int (zz_i z)))) hv9.symm, ⟨(), (by unfold k_out; (repeat (first | rw [if_pos (by omega)] | rw [if_neg (by omega)])) <;> first | rfl | omega), by rw [ht, hw9]; exact hP, va_K.moved hW.alike hK, by rw [hw9]; exact hD⟩, hS.F ht⟩) hS.2.2 dX2_out_65
    · refine lv_tableIn (off := 42) (tgt := 66) hx hb dX2_out_24 (by rw [zz_toInt (by omega)]; omega) (by rw [zz_toInt (by omega)]; omega) (by rw [zz_toInt (by omega), c6]; rfl) (by decide) ?_
      refine lv_aload_n hx hb dX2_out_66 rfl (lv_at hl 0 rfl) ?_
      refine va_get (D := D) (ci := 0) (v := .int (zz_i (σ 22 (sp_al σ (i))))) (C := RX0) (T := TX0) (N := 12) hx hb hts hiX0 hown hK hP (9 + ((sp_al σ (i)) - 1).toNat) (cw_it (show 1 ≤ sp_al σ (i) ∧ sp_al σ (i) ≤ σ 4 0 by omega)) rfl 11 (by decide) hf149 (fun _ h9 => h9) rfl dX2_out_67 ?_
      have hv9 : v_out σ i y = σ 22 (sp_al σ (i)) := by unfold v_out; (repeat (first | rw [if_pos (by omega)] | rw [if_neg (by omega)])) <;> first | rfl | omega
      have hw9 : cw_ cy ga ad σ = cw_ cy ga ad σ := by rfl
      subst hAe
      refine W.widen (k := 1) (n := 6) (Nat.le_of_ble_eq_true rfl) (Nat.le_of_ble_eq_true rfl) ?_
      refine vx_ret ?_
      exact W.iret (v := zz_i (σ 22 (sp_al σ (i)))) hx hb hr (fun t ht hW => ⟨congrArg (fun z => Outcome.returned (some (Value.int (zz_i z)))) hv9.symm, ⟨(), (by unfold k_out; (repeat (first | rw [if_pos (by omega)] | rw [if_neg (by omega)])) <;> first | rfl | omega), by rw [ht, hw9]; exact hP, va_K.moved hW.alike hK, by rw [hw9]; exact hD⟩, hS.F ht⟩) hS.2.2 dX2_out_70
    · refine lv_tableIn (off := 47) (tgt := 71) hx hb dX2_out_24 (by rw [zz_toInt (by omega)]; omega) (by rw [zz_toInt (by omega)]; omega) (by rw [zz_toInt (by omega), c7]; rfl) (by decide) ?_
      refine lv_aload_n hx hb dX2_out_71 rfl (lv_at hl 0 rfl) ?_
      refine va_get (D := D) (ci := 0) (v := .int (zz_i (σ 15 (sp_al σ (i))))) (C := RX0) (T := TX0) (N := 12) hx hb hts hiX0 hown hK hP (9 + ((sp_al σ (i)) - 1).toNat) (cw_it (show 1 ≤ sp_al σ (i) ∧ sp_al σ (i) ≤ σ 4 0 by omega)) rfl 4 (by decide) hf152 (fun _ h9 => h9) rfl dX2_out_72 ?_
      have hv9 : v_out σ i y = σ 15 (sp_al σ (i)) := by unfold v_out; (repeat (first | rw [if_pos (by omega)] | rw [if_neg (by omega)])) <;> first | rfl | omega
      have hw9 : cw_ cy ga ad σ = cw_ cy ga ad σ := by rfl
      subst hAe
      refine W.widen (k := 1) (n := 6) (Nat.le_of_ble_eq_true rfl) (Nat.le_of_ble_eq_true rfl) ?_
      refine vx_ret ?_
      exact W.iret (v := zz_i (σ 15 (sp_al σ (i)))) hx hb hr (fun t ht hW => ⟨congrArg (fun z => Outcome.returned (some (Value.int (zz_i z)))) hv9.symm, ⟨(), (by unfold k_out; (repeat (first | rw [if_pos (by omega)] | rw [if_neg (by omega)])) <;> first | rfl | omega), by rw [ht, hw9]; exact hP, va_K.moved hW.alike hK, by rw [hw9]; exact hD⟩, hS.F ht⟩) hS.2.2 dX2_out_75
    · refine lv_tableOut (tgt := 76) hx hb dX2_out_24 (by rw [zz_toInt (by omega)]; omega) (by decide) ?_
      have hk9 : k_out σ i y = 1 := by unfold k_out; (repeat (first | rw [if_pos (by omega)] | rw [if_neg (by omega)])) <;> first | rfl | omega
      exact th_row (own := RX2) (cls := "java/lang/IllegalArgumentException") hx hb hl9 hown (by decide +kernel) (by decide +kernel) (hts (.classLink RX2 82 "java/lang/IllegalArgumentException") (by decide +kernel)) (hts (.initialized "java/lang/IllegalArgumentException") (by decide +kernel)) (hE.2.2.2.1 (155, "no such what") (by decide +kernel)) haIAE go_IAE hAe hE hK hP hD hS (hl.1.trans hml.symm) dX2_out_76 dX2_out_79 dX2_out_80 dX2_out_82 dX2_out_85 htb (Nat.le_of_ble_eq_true rfl) (Nat.le_of_ble_eq_true rfl) (Nat.le_of_ble_eq_true rfl) (Nat.le_of_ble_eq_true rfl) hlocks (by rw [hk9]; decide) (Nat.le_of_ble_eq_true rfl) (Nat.le_of_ble_eq_true rfl)

set_option maxHeartbeats 4000000 in
set_option maxRecDepth 100000 in
theorem c_chute (l : Launch) (hl9 : l.stackTraces = false) (D : va_G) (cy ga : Nat → Nat) (ad : Int → Nat) (σ : zz_S) (sz : Nat) (hI : iv_ σ) (x f : Int) (q_x : (-2147483648 ≤ x ∧ x < 2147483648)) (q_f : f = 0 ∨ f = 1) : vx_Met l yX2_chute wsX2_chute ({ frames := 7, cells := 1, slots := 6, locals := 103 }) (ct_P D cy [.ref (ga 0), .int (zz_i (x)), .int (zz_i (f))] (cw_ cy ga ad σ) sz) (ct_Q D cy (cw_ cy ga ad σ) sz (some (.int (zz_i (σ 11 x)))) (fun _ : Unit => k_chu σ x = 0) (fun _ => cw_ cy ga ad (up_a σ 11 x f))) (ct_X D cy (cw_ cy ga ad σ) sz (k_chu σ x ≠ 0) ("java/lang/IllegalArgumentException")) 1 6 (va_A (cw_ cy ga ad σ) sz) := by
  refine vx_ofW (cc := cX2_chute) (maxL := 4) (ret := (some .boolean)) (by decide) rfl ?_
  intro p e s m args below meth c s₁ B hml htb hv
  obtain ⟨rfl, rfl, hP, hK, hD0, hE⟩ := hv
  have hx := B.exec
  have hb := B.bytes
  have hr := B.returns
  have hts := atoms_spec (ws := wsX2_chute) B.pre
  have hown : s.vm.findClass RX2 = some m.cls := findClass_of_methodNamed B.named
  have hlocks := B.notSynchronized
  have hD := hD0.self (sz := s.heap.size)
  obtain ⟨A, hAe⟩ : ∃ A, A = va_A (cw_ cy ga ad σ) s.heap.size := ⟨_, rfl⟩
  rw [← hAe] at hD hE
  have hA : ∀ q : Nat, s.heap.size ≤ q → A q := fun q h => by rw [hAe]; exact Or.inr h
  have hS : va_S A s.heap s.heap [] := va_S.rf
  have hP : va_P D zz_cl (cw_ cy ga ad σ) s.heap := hP
  have hl := lv_entry ([.ref (ga 0), .int (zz_i (x)), .int (zz_i (f))]) (n := 4) (Nat.le_of_ble_eq_true rfl)
  rw [lg_entry_eq]
  generalize (lg_sl ([.ref (ga 0), .int (zz_i (x)), .int (zz_i (f))]) ++ List.replicate (4 - (lg_sl ([.ref (ga 0), .int (zz_i (x)), .int (zz_i (f))])).length) Slot.unset).toArray = ls at hl ⊢
  have hl : lv_has ls 4 [(0, .ref (ga 0)), (1, .int (zz_i (x))), (2, .int (zz_i (f)))] := hl
  obtain ⟨⟨j1, j2, j3, j4, j5, j6, j7, j8, j9, j10⟩, j11, j12, j13, j14, j15, j16, j17, j18, j19, j20, j21, j22, j23, j24⟩ := id hI
  refine lv_aload_n hx hb dX2_chute_0 rfl (lv_at hl 0 rfl) ?_
  refine lv_iload_n hx hb dX2_chute_1 rfl (lv_at hl 1 rfl) ?_
  refine zc_x (As := [.int (zz_i (x))]) (rest := []) (S := Unit) (pc := 2) ⟨hx, hb, hml, hown, hts⟩ (c_requireChute l hl9 D cy ga ad σ _ hI.1 (x) (by omega)) (cwV 1 hts gX2_chute_X2_requireChute rfl rfl rfl (by decide +kernel) ⟨Nat.le_of_ble_eq_true rfl, Nat.le_of_ble_eq_true rfl⟩) hK hP hD hS hA hE (va_recv hK hP (ci := 2) (q0 := 0) rfl rfl) rfl hl.1 rfl (Nat.le_of_ble_eq_true rfl) dX2_chute_2 ⟨Nat.le_of_ble_eq_true rfl, Nat.le_of_ble_eq_true rfl⟩ (fun k1 ce q9 H locs hP hD hS hce hcv hcl => ?_) (fun _ H locs k1 hP hD hS => ?_)
  · have hk9 : k_chu σ x = 1 := by unfold k_chu; (repeat (first | rw [if_pos (by omega)] | rw [if_neg (by omega)])) <;> first | rfl | omega
    exact th_out (E := "java/lang/IllegalArgumentException") hAe htb hlocks hK hP hD hS hce hcv hcl (by rw [hk9]; decide) (Nat.le_of_ble_eq_true rfl) (Nat.le_of_ble_eq_true rfl)
  · refine W.eq (g2 := F0 m 5 ls []) rfl ?_
    refine lv_aload_n hx hb dX2_chute_5 rfl (lv_at hl 0 rfl) ?_
    refine lv_iload_n hx hb dX2_chute_6 rfl (lv_at hl 1 rfl) ?_
    refine zc_v (As := [.int (zz_i (x))]) (rest := []) (S := Unit) (pc := 7) ⟨hx, hb, hml, hown, hts⟩ (c_isFull l D cy ga ad σ _ hI.1 j12 (x) (by omega)) (cwV 1 hts gX2_chute_X2_isFull rfl rfl rfl (by decide +kernel) ⟨Nat.le_of_ble_eq_true rfl, Nat.le_of_ble_eq_true rfl⟩) hK hP hD hS hA hE (va_recv hK hP (ci := 2) (q0 := 0) rfl rfl) rfl hl.1 rfl (Nat.le_of_ble_eq_true rfl) dX2_chute_7 ⟨Nat.le_of_ble_eq_true rfl, Nat.le_of_ble_eq_true rfl⟩ (fun _ H locs k2 hP hD hS => ?_)
    refine W.eq (g2 := F0 m 10 ls [.int (zz_i (sp_fu σ (x)))]) rfl ?_
    have b2_0 := sp_fu_b σ (x)
    have b2_1 := j12 (x)
    refine lv_istore_n (lv' := [(3, .int (zz_i (sp_fu σ (x)))), (0, .ref (ga 0)), (1, .int (zz_i (x))), (2, .int (zz_i (f)))]) hx hb dX2_chute_10 rfl hl (by decide) rfl (fun ls hl => ?_)
    refine lv_aload_n hx hb dX2_chute_11 rfl (lv_at hl 1 rfl) ?_
    refine lv_iload_n hx hb dX2_chute_12 rfl (lv_at hl 2 rfl) ?_
    refine lv_iload_n hx hb dX2_chute_13 rfl (lv_at hl 3 rfl) ?_
    refine zc_v (As := [.int (zz_i (x)), .int (zz_i (f))]) (rest := []) (S := Unit) (pc := 14) ⟨hx, hb, hml, hown, hts⟩ (c_setFull l D cy ga ad σ _ hI.1 (x) (f) (by omega) (by omega)) (cwV 2 hts gX2_chute_X2_setFull rfl rfl rfl (by decide +kernel) ⟨Nat.le_of_ble_eq_true rfl, Nat.le_of_ble_eq_true rfl⟩) hK hP hD hS hA hE (va_recv hK hP (ci := 2) (q0 := 0) rfl rfl) rfl hl.1 rfl (Nat.le_of_ble_eq_true rfl) dX2_chute_14 ⟨Nat.le_of_ble_eq_true rfl, Nat.le_of_ble_eq_true rfl⟩ (fun _ H locs k3 hP hD hS => ?_)
    refine W.eq (g2 := F0 m 17 ls []) rfl ?_
    refine lv_iload_n hx hb dX2_chute_17 rfl (lv_at hl 0 rfl) ?_
    have hv9 : σ 11 x = sp_fu σ (x) := by omega
    have hw9 : cw_ cy ga ad (up_a σ 11 x f) = cw_ cy ga ad (up_a σ 11 (x) (f)) := by rfl
    subst hAe
    refine W.widen (k := 1) (n := 6) (Nat.le_of_ble_eq_true rfl) (Nat.le_of_ble_eq_true rfl) ?_
    refine vx_ret ?_
    exact W.zret (v := zz_i (sp_fu σ (x))) (ty := .boolean) hx hb hr (zz_narB (by omega)) (fun t ht hW => ⟨congrArg (fun z => Outcome.returned (some (Value.int (zz_i z)))) hv9.symm, ⟨(), (by unfold k_chu; (repeat (first | rw [if_pos (by omega)] | rw [if_neg (by omega)])) <;> first | rfl | omega), by rw [ht, hw9]; exact hP, va_K.moved hW.alike hK, by rw [hw9]; exact hD⟩, hS.F ht⟩) hS.2.2 dX2_chute_18

set_option maxHeartbeats 4000000 in
set_option maxRecDepth 100000 in
theorem c_doubt (l : Launch) (D : va_G) (cy ga : Nat → Nat) (ad : Int → Nat) (σ : zz_S) (sz : Nat) (hI : iv_ σ) (x : Int) (q_x : (-2147483648 ≤ x ∧ x < 2147483648)) : Met l yX2_doubt wsX2_doubt ({ frames := 1, cells := 0, slots := 0, locals := 21 }) (ct_P D cy [.ref (ga 0), .int (zz_i (x))] (cw_ cy ga ad σ) sz) (ct_Q D cy (cw_ cy ga ad σ) sz (some (.int (zz_i (v_dou σ x)))) (fun _ : Unit => True) (fun _ => cw_ cy ga ad σ)) 0 0 (va_A (cw_ cy ga ad σ) sz) := by
  refine Met.ofW (cc := cX2_doubt) (maxL := 3) (ret := (some .int)) (by decide) rfl ?_
  intro p e s m args below meth c s₁ B hml hv
  obtain ⟨rfl, rfl, hP, hK, hD0, hE⟩ := hv
  have hx := B.exec
  have hb := B.bytes
  have hr := B.returns
  have hts := atoms_spec (ws := wsX2_doubt) B.pre
  have hown : s.vm.findClass RX2 = some m.cls := findClass_of_methodNamed B.named
  have hlocks := B.notSynchronized
  have hD := hD0.self (sz := s.heap.size)
  obtain ⟨A, hAe⟩ : ∃ A, A = va_A (cw_ cy ga ad σ) s.heap.size := ⟨_, rfl⟩
  rw [← hAe] at hD hE
  have hA : ∀ q : Nat, s.heap.size ≤ q → A q := fun q h => by rw [hAe]; exact Or.inr h
  have hS : va_S A s.heap s.heap [] := va_S.rf
  have hP : va_P D zz_cl (cw_ cy ga ad σ) s.heap := hP
  have hl := lv_entry ([.ref (ga 0), .int (zz_i (x))]) (n := 3) (Nat.le_of_ble_eq_true rfl)
  rw [lg_entry_eq]
  generalize (lg_sl ([.ref (ga 0), .int (zz_i (x))]) ++ List.replicate (3 - (lg_sl ([.ref (ga 0), .int (zz_i (x))])).length) Slot.unset).toArray = ls at hl ⊢
  have hl : lv_has ls 3 [(0, .ref (ga 0)), (1, .int (zz_i (x)))] := hl
  obtain ⟨⟨j1, j2, j3, j4, j5, j6, j7, j8, j9, j10⟩, j11, j12, j13, j14, j15, j16, j17, j18, j19, j20, j21, j22, j23, j24⟩ := id hI
  have hiX2 : ∀ w ∈ wsX20, w ∈ wsX2_doubt := by decide +kernel
  have hf21 := hts (.fieldLink RX2 21 "SorterSteps" "doubted" "LSorterSteps$ItemRow;") (by decide +kernel)
  have hiX0 : ∀ w ∈ wsX00, w ∈ wsX2_doubt := by decide +kernel
  have hf75 := hts (.fieldLink RX2 75 "SorterSteps$Item" "number" "I") (by decide +kernel)
  refine lv_aload_n hx hb dX2_doubt_0 rfl (lv_at hl 0 rfl) ?_
  refine va_get (D := D) (ci := 2) (v := .ref (ga 5)) (C := RX2) (T := TX2) (N := 10) hx hb hts hiX2 hown hK hP (0) rfl rfl 4 (by decide) hf21 (fun _ h9 => h9) rfl dX2_doubt_1 ?_
  refine lv_iload_n hx hb dX2_doubt_4 rfl (lv_at hl 1 rfl) ?_
  refine zc_v (As := [.int (zz_i (x))]) (rest := []) (S := Unit) (pc := 5) ⟨hx, hb, hml, hown, hts⟩ (c_at_db l D cy ga ad σ _ hI.1 (x) (by omega)) (cwV 1 hts gX2_doubt_X1_at rfl rfl rfl (by decide +kernel) ⟨Nat.le_of_ble_eq_true rfl, Nat.le_of_ble_eq_true rfl⟩) hK hP hD hS hA hE (va_recv hK hP (ci := 1) (q0 := 5) rfl rfl) rfl hl.1 rfl (Nat.le_of_ble_eq_true rfl) dX2_doubt_5 ⟨Nat.le_of_ble_eq_true rfl, Nat.le_of_ble_eq_true rfl⟩ (fun _ H locs k1 hP hD hS => ?_)
  refine W.eq (g2 := F0 m 8 ls [va_rf (aq_ ad (sp_ad σ (x)))]) rfl ?_
  have b1_0 := sp_ad_b σ (x)
  rcases aq_or ad (sp_ad σ (x)) with ⟨c2, hv⟩ | ⟨c2, hv⟩
  · refine W.eq (g2 := F0 m 8 ls [.null]) (congrArg (fun z => F0 m 8 ls (z :: [])) hv) ?_
    have h15 := j15 x
    refine lv_astore_nN (lv' := [(2, .null), (0, .ref (ga 0)), (1, .int (zz_i (x)))]) hx hb dX2_doubt_8 rfl hl (by decide) rfl (fun ls hl => ?_)
    refine lv_aload_nN hx hb dX2_doubt_9 rfl (lv_at hl 0 rfl) ?_
    refine lv_ifnonnullN hx hb dX2_doubt_10 ?_
    refine lv_iconst (v := zz_i (-1)) hx hb dX2_doubt_13 rfl ?_
    refine lv_goto (tgt := 21) hx hb dX2_doubt_14 (by decide) ?_
    have hv9 : v_dou σ x = -1 := by unfold v_dou; (repeat (first | rw [if_pos (by omega)] | rw [if_neg (by omega)])) <;> first | rfl | omega
    have hw9 : cw_ cy ga ad σ = cw_ cy ga ad σ := by rfl
    subst hAe
    exact W.iret (v := zz_i (-1)) hx hb hr (fun t ht hW => ⟨congrArg (fun z => Outcome.returned (some (Value.int (zz_i z)))) hv9.symm, ⟨(), trivial, by rw [ht, hw9]; exact hP, va_K.moved hW.alike hK, by rw [hw9]; exact hD⟩, hS.F ht⟩) hS.2.2 dX2_doubt_21
  · refine W.eq (g2 := F0 m 8 ls [.ref (ad (sp_ad σ (x)))]) (congrArg (fun z => F0 m 8 ls (z :: [])) hv) ?_
    have h15 := j15 x (by omega) (by omega)
    refine lv_astore_n (lv' := [(2, .ref (ad (sp_ad σ (x)))), (0, .ref (ga 0)), (1, .int (zz_i (x)))]) hx hb dX2_doubt_8 rfl hl (by decide) rfl (fun ls hl => ?_)
    refine lv_aload_n hx hb dX2_doubt_9 rfl (lv_at hl 0 rfl) ?_
    refine lv_ifnonnull (tgt := 17) hx hb dX2_doubt_10 (by decide) ?_
    refine lv_aload_n hx hb dX2_doubt_17 rfl (lv_at hl 0 rfl) ?_
    refine va_get (D := D) (ci := 0) (v := .int (zz_i (sp_ad σ (x)))) (C := RX0) (T := TX0) (N := 12) hx hb hts hiX0 hown hK hP (9 + ((sp_ad σ (x)) - 1).toNat) (cw_it (show 1 ≤ sp_ad σ (x) ∧ sp_ad σ (x) ≤ σ 4 0 by omega)) rfl 0 (by decide) hf75 (fun _ h9 => h9) rfl dX2_doubt_18 ?_
    have hv9 : v_dou σ x = sp_ad σ (x) := by unfold v_dou; (repeat (first | rw [if_pos (by omega)] | rw [if_neg (by omega)])) <;> first | rfl | omega
    have hw9 : cw_ cy ga ad σ = cw_ cy ga ad σ := by rfl
    subst hAe
    exact W.iret (v := zz_i (sp_ad σ (x))) hx hb hr (fun t ht hW => ⟨congrArg (fun z => Outcome.returned (some (Value.int (zz_i z)))) hv9.symm, ⟨(), trivial, by rw [ht, hw9]; exact hP, va_K.moved hW.alike hK, by rw [hw9]; exact hD⟩, hS.F ht⟩) hS.2.2 dX2_doubt_21

set_option maxHeartbeats 4000000 in
set_option maxRecDepth 100000 in
theorem c_manual (l : Launch) (hl9 : l.stackTraces = false) (D : va_G) (cy ga : Nat → Nat) (ad : Int → Nat) (σ : zz_S) (sz : Nat) (hI : iv_ σ) (x y : Int) (q_x : (-2147483648 ≤ x ∧ x < 2147483648)) (q_y : (-2147483648 ≤ y ∧ y < 2147483648)) : vx_Met l yX2_manual wsX2_manual ({ frames := 7, cells := 3, slots := 18, locals := 104 }) (ct_P D cy [.ref (ga 0), .int (zz_i (x)), .int (zz_i (y))] (cw_ cy ga ad σ) sz) (ct_Q D cy (cw_ cy ga ad σ) sz (some (.int (zz_i (v_man σ y)))) (fun _ : Unit => k_man σ x y = 0) (fun _ => cw_ cy ga ad (s_man σ x y))) (ct_X D cy (cw_ cy ga ad σ) sz (k_man σ x y ≠ 0) (ex_s (k_man σ x y))) 3 18 (va_A (cw_ cy ga ad σ) sz) := by
  refine vx_ofW (cc := cX2_manual) (maxL := 4) (ret := (some .boolean)) (by decide) rfl ?_
  intro p e s m args below meth c s₁ B hml htb hv
  obtain ⟨rfl, rfl, hP, hK, hD0, hE⟩ := hv
  have hx := B.exec
  have hb := B.bytes
  have hr := B.returns
  have hts := atoms_spec (ws := wsX2_manual) B.pre
  have hown : s.vm.findClass RX2 = some m.cls := findClass_of_methodNamed B.named
  have hlocks := B.notSynchronized
  have hD := hD0.self (sz := s.heap.size)
  obtain ⟨A, hAe⟩ : ∃ A, A = va_A (cw_ cy ga ad σ) s.heap.size := ⟨_, rfl⟩
  rw [← hAe] at hD hE
  have hA : ∀ q : Nat, s.heap.size ≤ q → A q := fun q h => by rw [hAe]; exact Or.inr h
  have hS : va_S A s.heap s.heap [] := va_S.rf
  have hP : va_P D zz_cl (cw_ cy ga ad σ) s.heap := hP
  have hl := lv_entry ([.ref (ga 0), .int (zz_i (x)), .int (zz_i (y))]) (n := 4) (Nat.le_of_ble_eq_true rfl)
  rw [lg_entry_eq]
  generalize (lg_sl ([.ref (ga 0), .int (zz_i (x)), .int (zz_i (y))]) ++ List.replicate (4 - (lg_sl ([.ref (ga 0), .int (zz_i (x)), .int (zz_i (y))])).length) Slot.unset).toArray = ls at hl ⊢
  have hl : lv_has ls 4 [(0, .ref (ga 0)), (1, .int (zz_i (x))), (2, .int (zz_i (y)))] := hl
  obtain ⟨⟨j1, j2, j3, j4, j5, j6, j7, j8, j9, j10⟩, j11, j12, j13, j14, j15, j16, j17, j18, j19, j20, j21, j22, j23, j24⟩ := id hI
  have hiX0 : ∀ w ∈ wsX00, w ∈ wsX2_manual := by decide +kernel
  have hf123 := hts (.fieldLink RX2 123 "SorterSteps$Item" "state" "I") (by decide +kernel)
  have haISE := at_ISE (Ts := wsX2_manual) hts (by decide +kernel) hE
  refine lv_aload_n hx hb dX2_manual_0 rfl (lv_at hl 0 rfl) ?_
  refine lv_iload_n hx hb dX2_manual_1 rfl (lv_at hl 1 rfl) ?_
  refine zc_x (As := [.int (zz_i (x))]) (rest := []) (S := Unit) (pc := 2) ⟨hx, hb, hml, hown, hts⟩ (c_itemNumbered l hl9 D cy ga ad σ _ hI.1 (x) (by omega)) (cwV 1 hts gX2_manual_X2_itemNumbered rfl rfl rfl (by decide +kernel) ⟨Nat.le_of_ble_eq_true rfl, Nat.le_of_ble_eq_true rfl⟩) hK hP hD hS hA hE (va_recv hK hP (ci := 2) (q0 := 0) rfl rfl) rfl hl.1 rfl (Nat.le_of_ble_eq_true rfl) dX2_manual_2 ⟨Nat.le_of_ble_eq_true rfl, Nat.le_of_ble_eq_true rfl⟩ (fun k1 ce q9 H locs hP hD hS hce hcv hcl => ?_) (fun _ H locs k1 hP hD hS => ?_)
  · have hk9 : k_man σ x y = 1 := by unfold k_man; (repeat (first | rw [if_pos (by omega)] | rw [if_neg (by omega)])) <;> first | rfl | omega
    rw [show ex_s (k_man σ x y) = "java/lang/IllegalArgumentException" from by rw [hk9]; rfl]
    exact th_out (E := "java/lang/IllegalArgumentException") hAe htb hlocks hK hP hD hS hce hcv hcl (by rw [hk9]; decide) (Nat.le_of_ble_eq_true rfl) (Nat.le_of_ble_eq_true rfl)
  · refine W.eq (g2 := F0 m 5 ls [.ref (ad (x))]) rfl ?_
    refine lv_astore_n (lv' := [(3, .ref (ad (x))), (0, .ref (ga 0)), (1, .int (zz_i (x))), (2, .int (zz_i (y)))]) hx hb dX2_manual_5 rfl hl (by decide) rfl (fun ls hl => ?_)
    refine lv_aload_n hx hb dX2_manual_6 rfl (lv_at hl 1 rfl) ?_
    refine lv_iload_n hx hb dX2_manual_7 rfl (lv_at hl 3 rfl) ?_
    refine zc_x (As := [.int (zz_i (y))]) (rest := []) (S := Unit) (pc := 8) ⟨hx, hb, hml, hown, hts⟩ (c_requireChute l hl9 D cy ga ad σ _ hI.1 (y) (by omega)) (cwV 1 hts gX2_manual_X2_requireChute rfl rfl rfl (by decide +kernel) ⟨Nat.le_of_ble_eq_true rfl, Nat.le_of_ble_eq_true rfl⟩) hK hP hD hS hA hE (va_recv hK hP (ci := 2) (q0 := 0) rfl rfl) rfl hl.1 rfl (Nat.le_of_ble_eq_true rfl) dX2_manual_8 ⟨Nat.le_of_ble_eq_true rfl, Nat.le_of_ble_eq_true rfl⟩ (fun k2 ce q9 H locs hP hD hS hce hcv hcl => ?_) (fun _ H locs k2 hP hD hS => ?_)
    · have hk9 : k_man σ x y = 1 := by unfold k_man; (repeat (first | rw [if_pos (by omega)] | rw [if_neg (by omega)])) <;> first | rfl | omega
      rw [show ex_s (k_man σ x y) = "java/lang/IllegalArgumentException" from by rw [hk9]; rfl]
      exact th_out (E := "java/lang/IllegalArgumentException") hAe htb hlocks hK hP hD hS hce hcv hcl (by rw [hk9]; decide) (Nat.le_of_ble_eq_true rfl) (Nat.le_of_ble_eq_true rfl)
    · refine W.eq (g2 := F0 m 11 ls []) rfl ?_
      refine lv_aload_n hx hb dX2_manual_11 rfl (lv_at hl 0 rfl) ?_
      have hit := j13 x (by omega) (by omega)
      have h11 := j12 y
      refine va_get (D := D) (ci := 0) (v := .int (zz_i (σ 13 x))) (C := RX0) (T := TX0) (N := 12) hx hb hts hiX0 hown hK hP (9 + (x - 1).toNat) (cw_it (show 1 ≤ x ∧ x ≤ σ 4 0 by omega)) rfl 2 (by decide) hf123 (fun _ h9 => h9) rfl dX2_manual_12 ?_
      refine lv_iconst (v := zz_i (3)) hx hb dX2_manual_15 rfl ?_
      refine zz_icmp_eq (tgt := 37) hx hb dX2_manual_16 (by decide) (by omega) (by omega) (fun c3 => ?_) (fun c3 => ?_)
      · refine lv_aload_n hx hb dX2_manual_37 rfl (lv_at hl 1 rfl) ?_
        refine lv_iload_n hx hb dX2_manual_38 rfl (lv_at hl 3 rfl) ?_
        refine zc_v (As := [.int (zz_i (y))]) (rest := []) (S := Unit) (pc := 39) ⟨hx, hb, hml, hown, hts⟩ (c_isFull l D cy ga ad σ _ hI.1 j12 (y) (by omega)) (cwV 1 hts gX2_manual_X2_isFull rfl rfl rfl (by decide +kernel) ⟨Nat.le_of_ble_eq_true rfl, Nat.le_of_ble_eq_true rfl⟩) hK hP hD hS hA hE (va_recv hK hP (ci := 2) (q0 := 0) rfl rfl) rfl hl.1 rfl (Nat.le_of_ble_eq_true rfl) dX2_manual_39 ⟨Nat.le_of_ble_eq_true rfl, Nat.le_of_ble_eq_true rfl⟩ (fun _ H locs k4 hP hD hS => ?_)
        refine W.eq (g2 := F0 m 42 ls [.int (zz_i (sp_fu σ (y)))]) rfl ?_
        have b4_0 := sp_fu_b σ (y)
        have b4_1 := j12 (y)
        refine zz_if_eq (tgt := 47) hx hb dX2_manual_42 (by decide) (by omega) (fun c5 => ?_) (fun c5 => ?_)
        · refine lv_aload_n hx hb dX2_manual_47 rfl (lv_at hl 0 rfl) ?_
          refine lv_iconst (v := zz_i (2)) hx hb dX2_manual_48 rfl ?_
          refine va_put (D := D) (ci := 0) (v := .int (zz_i (2))) (ty := .int) (C := RX0) (T := TX0) (N := 12) hx hb hts hiX0 tyX0 tyX0_ok nmX0 hown hK hP hD hS (9 + (x - 1).toNat) (cw_it (show 1 ≤ x ∧ x ≤ σ 4 0 by omega)) rfl 2 (by decide) hf123 (fun _ h9 => h9) rfl (by decide +kernel) rfl rfl (Nat.le_of_ble_eq_true rfl) dX2_manual_49 (fun H locs hP hD hS => ?_)
          rw [cw_si13 (σ := σ) (show 1 ≤ x ∧ x ≤ σ 4 0 by omega)] at hP hD
          refine lv_iconst (v := zz_i (1)) hx hb dX2_manual_52 rfl ?_
          have hv9 : v_man σ y = 1 := by unfold v_man; (repeat (first | rw [if_pos (by omega)] | rw [if_neg (by omega)])) <;> first | rfl | omega
          have hw9 : cw_ cy ga ad (s_man σ x y) = cw_ cy ga ad (up_a σ 13 (x) (2)) := by unfold s_man; (repeat (first | rw [if_pos (by omega)] | rw [if_neg (by omega)])) <;> first | rfl | omega
          subst hAe
          refine W.widen (k := 3) (n := 18) (Nat.le_of_ble_eq_true rfl) (Nat.le_of_ble_eq_true rfl) ?_
          refine vx_ret ?_
          exact W.zret (v := zz_i (1)) (ty := .boolean) hx hb hr (zz_narB (by omega)) (fun t ht hW => ⟨congrArg (fun z => Outcome.returned (some (Value.int (zz_i z)))) hv9.symm, ⟨(), (by unfold k_man; (repeat (first | rw [if_pos (by omega)] | rw [if_neg (by omega)])) <;> first | rfl | omega), by rw [ht, hw9]; exact hP, va_K.moved hW.alike hK, by rw [hw9]; exact hD⟩, hS.F ht⟩) hS.2.2 dX2_manual_53
        · refine lv_iconst (v := zz_i (0)) hx hb dX2_manual_45 rfl ?_
          have hv9 : v_man σ y = 0 := by unfold v_man; (repeat (first | rw [if_pos (by omega)] | rw [if_neg (by omega)])) <;> first | rfl | omega
          have hw9 : cw_ cy ga ad (s_man σ x y) = cw_ cy ga ad σ := by unfold s_man; (repeat (first | rw [if_pos (by omega)] | rw [if_neg (by omega)])) <;> first | rfl | omega
          subst hAe
          refine W.widen (k := 3) (n := 18) (Nat.le_of_ble_eq_true rfl) (Nat.le_of_ble_eq_true rfl) ?_
          refine vx_ret ?_
          exact W.zret (v := zz_i (0)) (ty := .boolean) hx hb hr (zz_narB (by omega)) (fun t ht hW => ⟨congrArg (fun z => Outcome.returned (some (Value.int (zz_i z)))) hv9.symm, ⟨(), (by unfold k_man; (repeat (first | rw [if_pos (by omega)] | rw [if_neg (by omega)])) <;> first | rfl | omega), by rw [ht, hw9]; exact hP, va_K.moved hW.alike hK, by rw [hw9]; exact hD⟩, hS.F ht⟩) hS.2.2 dX2_manual_46
      · refine lv_aload_n hx hb dX2_manual_19 rfl (lv_at hl 0 rfl) ?_
        refine va_get (D := D) (ci := 0) (v := .int (zz_i (σ 13 x))) (C := RX0) (T := TX0) (N := 12) hx hb hts hiX0 hown hK hP (9 + (x - 1).toNat) (cw_it (show 1 ≤ x ∧ x ≤ σ 4 0 by omega)) rfl 2 (by decide) hf123 (fun _ h9 => h9) rfl dX2_manual_20 ?_
        refine lv_iconst (v := zz_i (5)) hx hb dX2_manual_23 rfl ?_
        refine zz_icmp_eq (tgt := 37) hx hb dX2_manual_24 (by decide) (by omega) (by omega) (fun c6 => ?_) (fun c6 => ?_)
        · refine lv_aload_n hx hb dX2_manual_37 rfl (lv_at hl 1 rfl) ?_
          refine lv_iload_n hx hb dX2_manual_38 rfl (lv_at hl 3 rfl) ?_
          refine zc_v (As := [.int (zz_i (y))]) (rest := []) (S := Unit) (pc := 39) ⟨hx, hb, hml, hown, hts⟩ (c_isFull l D cy ga ad σ _ hI.1 j12 (y) (by omega)) (cwV 1 hts gX2_manual_X2_isFull rfl rfl rfl (by decide +kernel) ⟨Nat.le_of_ble_eq_true rfl, Nat.le_of_ble_eq_true rfl⟩) hK hP hD hS hA hE (va_recv hK hP (ci := 2) (q0 := 0) rfl rfl) rfl hl.1 rfl (Nat.le_of_ble_eq_true rfl) dX2_manual_39 ⟨Nat.le_of_ble_eq_true rfl, Nat.le_of_ble_eq_true rfl⟩ (fun _ H locs k7 hP hD hS => ?_)
          refine W.eq (g2 := F0 m 42 ls [.int (zz_i (sp_fu σ (y)))]) rfl ?_
          have b7_0 := sp_fu_b σ (y)
          have b7_1 := j12 (y)
          refine zz_if_eq (tgt := 47) hx hb dX2_manual_42 (by decide) (by omega) (fun c8 => ?_) (fun c8 => ?_)
          · refine lv_aload_n hx hb dX2_manual_47 rfl (lv_at hl 0 rfl) ?_
            refine lv_iconst (v := zz_i (2)) hx hb dX2_manual_48 rfl ?_
            refine va_put (D := D) (ci := 0) (v := .int (zz_i (2))) (ty := .int) (C := RX0) (T := TX0) (N := 12) hx hb hts hiX0 tyX0 tyX0_ok nmX0 hown hK hP hD hS (9 + (x - 1).toNat) (cw_it (show 1 ≤ x ∧ x ≤ σ 4 0 by omega)) rfl 2 (by decide) hf123 (fun _ h9 => h9) rfl (by decide +kernel) rfl rfl (Nat.le_of_ble_eq_true rfl) dX2_manual_49 (fun H locs hP hD hS => ?_)
            rw [cw_si13 (σ := σ) (show 1 ≤ x ∧ x ≤ σ 4 0 by omega)] at hP hD
            refine lv_iconst (v := zz_i (1)) hx hb dX2_manual_52 rfl ?_
            have hv9 : v_man σ y = 1 := by unfold v_man; (repeat (first | rw [if_pos (by omega)] | rw [if_neg (by omega)])) <;> first | rfl | omega
            have hw9 : cw_ cy ga ad (s_man σ x y) = cw_ cy ga ad (up_a σ 13 (x) (2)) := by unfold s_man; (repeat (first | rw [if_pos (by omega)] | rw [if_neg (by omega)])) <;> first | rfl | omega
            subst hAe
            refine W.widen (k := 3) (n := 18) (Nat.le_of_ble_eq_true rfl) (Nat.le_of_ble_eq_true rfl) ?_
            refine vx_ret ?_
            exact W.zret (v := zz_i (1)) (ty := .boolean) hx hb hr (zz_narB (by omega)) (fun t ht hW => ⟨congrArg (fun z => Outcome.returned (some (Value.int (zz_i z)))) hv9.symm, ⟨(), (by unfold k_man; (repeat (first | rw [if_pos (by omega)] | rw [if_neg (by omega)])) <;> first | rfl | omega), by rw [ht, hw9]; exact hP, va_K.moved hW.alike hK, by rw [hw9]; exact hD⟩, hS.F ht⟩) hS.2.2 dX2_manual_53
          · refine lv_iconst (v := zz_i (0)) hx hb dX2_manual_45 rfl ?_
            have hv9 : v_man σ y = 0 := by unfold v_man; (repeat (first | rw [if_pos (by omega)] | rw [if_neg (by omega)])) <;> first | rfl | omega
            have hw9 : cw_ cy ga ad (s_man σ x y) = cw_ cy ga ad σ := by unfold s_man; (repeat (first | rw [if_pos (by omega)] | rw [if_neg (by omega)])) <;> first | rfl | omega
            subst hAe
            refine W.widen (k := 3) (n := 18) (Nat.le_of_ble_eq_true rfl) (Nat.le_of_ble_eq_true rfl) ?_
            refine vx_ret ?_
            exact W.zret (v := zz_i (0)) (ty := .boolean) hx hb hr (zz_narB (by omega)) (fun t ht hW => ⟨congrArg (fun z => Outcome.returned (some (Value.int (zz_i z)))) hv9.symm, ⟨(), (by unfold k_man; (repeat (first | rw [if_pos (by omega)] | rw [if_neg (by omega)])) <;> first | rfl | omega), by rw [ht, hw9]; exact hP, va_K.moved hW.alike hK, by rw [hw9]; exact hD⟩, hS.F ht⟩) hS.2.2 dX2_manual_46
        · have hk9 : k_man σ x y = 2 := by unfold k_man; (repeat (first | rw [if_pos (by omega)] | rw [if_neg (by omega)])) <;> first | rfl | omega
          rw [show ex_s (k_man σ x y) = "java/lang/IllegalStateException" from by rw [hk9]; rfl]
          exact th_row (own := RX2) (cls := "java/lang/IllegalStateException") hx hb hl9 hown (by decide +kernel) (by decide +kernel) (hts (.classLink RX2 99 "java/lang/IllegalStateException") (by decide +kernel)) (hts (.initialized "java/lang/IllegalStateException") (by decide +kernel)) (hE.2.2.2.1 (201, "the item is neither manual nor lost") (by decide +kernel)) haISE go_ISE hAe hE hK hP hD hS (hl.1.trans hml.symm) dX2_manual_27 dX2_manual_30 dX2_manual_31 dX2_manual_33 dX2_manual_36 htb (Nat.le_of_ble_eq_true rfl) (Nat.le_of_ble_eq_true rfl) (Nat.le_of_ble_eq_true rfl) (Nat.le_of_ble_eq_true rfl) hlocks (by rw [hk9]; decide) (Nat.le_of_ble_eq_true rfl) (Nat.le_of_ble_eq_true rfl)

set_option maxHeartbeats 4000000 in
set_option maxRecDepth 100000 in
theorem c_told (l : Launch) (hl9 : l.stackTraces = false) (D : va_G) (cy ga : Nat → Nat) (ad : Int → Nat) (σ : zz_S) (sz : Nat) (hI : iv_ σ) (x y : Int) (q_x : (-2147483648 ≤ x ∧ x < 2147483648)) (q_y : (-2147483648 ≤ y ∧ y < 2147483648)) : vx_Met l yX2_told wsX2_told ({ frames := 7, cells := 2, slots := 12, locals := 104 }) (ct_P D cy [.ref (ga 0), .int (zz_i (x)), .int (zz_i (y))] (cw_ cy ga ad σ) sz) (ct_Q D cy (cw_ cy ga ad σ) sz (some (.int (zz_i (v_tol σ x y)))) (fun _ : Unit => k_tol σ x y = 0) (fun _ => cw_ cy ga ad σ)) (ct_X D cy (cw_ cy ga ad σ) sz (k_tol σ x y ≠ 0) ("java/lang/IllegalArgumentException")) 2 12 (va_A (cw_ cy ga ad σ) sz) := by
  refine vx_ofW (cc := cX2_told) (maxL := 4) (ret := (some .int)) (by decide) rfl ?_
  intro p e s m args below meth c s₁ B hml htb hv
  obtain ⟨rfl, rfl, hP, hK, hD0, hE⟩ := hv
  have hx := B.exec
  have hb := B.bytes
  have hr := B.returns
  have hts := atoms_spec (ws := wsX2_told) B.pre
  have hown : s.vm.findClass RX2 = some m.cls := findClass_of_methodNamed B.named
  have hlocks := B.notSynchronized
  have hD := hD0.self (sz := s.heap.size)
  obtain ⟨A, hAe⟩ : ∃ A, A = va_A (cw_ cy ga ad σ) s.heap.size := ⟨_, rfl⟩
  rw [← hAe] at hD hE
  have hA : ∀ q : Nat, s.heap.size ≤ q → A q := fun q h => by rw [hAe]; exact Or.inr h
  have hS : va_S A s.heap s.heap [] := va_S.rf
  have hP : va_P D zz_cl (cw_ cy ga ad σ) s.heap := hP
  have hl := lv_entry ([.ref (ga 0), .int (zz_i (x)), .int (zz_i (y))]) (n := 4) (Nat.le_of_ble_eq_true rfl)
  rw [lg_entry_eq]
  generalize (lg_sl ([.ref (ga 0), .int (zz_i (x)), .int (zz_i (y))]) ++ List.replicate (4 - (lg_sl ([.ref (ga 0), .int (zz_i (x)), .int (zz_i (y))])).length) Slot.unset).toArray = ls at hl ⊢
  have hl : lv_has ls 4 [(0, .ref (ga 0)), (1, .int (zz_i (x))), (2, .int (zz_i (y)))] := hl
  obtain ⟨⟨j1, j2, j3, j4, j5, j6, j7, j8, j9, j10⟩, j11, j12, j13, j14, j15, j16, j17, j18, j19, j20, j21, j22, j23, j24⟩ := id hI
  have hiX0 : ∀ w ∈ wsX00, w ∈ wsX2_told := by decide +kernel
  have hf123 := hts (.fieldLink RX2 123 "SorterSteps$Item" "state" "I") (by decide +kernel)
  have hf104 := hts (.fieldLink RX2 104 "SorterSteps$Item" "code" "I") (by decide +kernel)
  have hf152 := hts (.fieldLink RX2 152 "SorterSteps$Item" "rounds" "I") (by decide +kernel)
  have hf118 := hts (.fieldLink RX2 118 "SorterSteps$Item" "length" "I") (by decide +kernel)
  have hf115 := hts (.fieldLink RX2 115 "SorterSteps$Item" "tray" "I") (by decide +kernel)
  have hf130 := hts (.fieldLink RX2 130 "SorterSteps$Item" "retries" "I") (by decide +kernel)
  have haIAE := at_IAE (Ts := wsX2_told) hts (by decide +kernel) hE
  refine lv_aload_n hx hb dX2_told_0 rfl (lv_at hl 0 rfl) ?_
  refine lv_iload_n hx hb dX2_told_1 rfl (lv_at hl 1 rfl) ?_
  refine zc_x (As := [.int (zz_i (x))]) (rest := []) (S := Unit) (pc := 2) ⟨hx, hb, hml, hown, hts⟩ (c_itemNumbered l hl9 D cy ga ad σ _ hI.1 (x) (by omega)) (cwV 1 hts gX2_told_X2_itemNumbered rfl rfl rfl (by decide +kernel) ⟨Nat.le_of_ble_eq_true rfl, Nat.le_of_ble_eq_true rfl⟩) hK hP hD hS hA hE (va_recv hK hP (ci := 2) (q0 := 0) rfl rfl) rfl hl.1 rfl (Nat.le_of_ble_eq_true rfl) dX2_told_2 ⟨Nat.le_of_ble_eq_true rfl, Nat.le_of_ble_eq_true rfl⟩ (fun k1 ce q9 H locs hP hD hS hce hcv hcl => ?_) (fun _ H locs k1 hP hD hS => ?_)
  · have hk9 : k_tol σ x y = 1 := by unfold k_tol; (repeat (first | rw [if_pos (by omega)] | rw [if_neg (by omega)])) <;> first | rfl | omega
    exact th_out (E := "java/lang/IllegalArgumentException") hAe htb hlocks hK hP hD hS hce hcv hcl (by rw [hk9]; decide) (Nat.le_of_ble_eq_true rfl) (Nat.le_of_ble_eq_true rfl)
  · refine W.eq (g2 := F0 m 5 ls [.ref (ad (x))]) rfl ?_
    refine lv_astore_n (lv' := [(3, .ref (ad (x))), (0, .ref (ga 0)), (1, .int (zz_i (x))), (2, .int (zz_i (y)))]) hx hb dX2_told_5 rfl hl (by decide) rfl (fun ls hl => ?_)
    have hit := j13 x (by omega) (by omega)
    refine lv_iload_n hx hb dX2_told_6 rfl (lv_at hl 3 rfl) ?_
    rcases (show (y) = 0 ∨ (y) = 1 ∨ (y) = 2 ∨ (y) = 3 ∨ (y) = 4 ∨ (y) = 5 ∨ (y) = 6 ∨ ((y) < 0 ∨ 6 < (y)) by omega) with c3 | c4 | c5 | c6 | c7 | c8 | c9 | c10
    · refine lv_tableIn (off := 41) (tgt := 48) hx hb dX2_told_7 (by rw [zz_toInt (by omega)]; omega) (by rw [zz_toInt (by omega)]; omega) (by rw [zz_toInt (by omega), c3]; rfl) (by decide) ?_
      refine lv_aload_n hx hb dX2_told_48 rfl (lv_at hl 0 rfl) ?_
      refine va_get (D := D) (ci := 0) (v := .int (zz_i (σ 13 x))) (C := RX0) (T := TX0) (N := 12) hx hb hts hiX0 hown hK hP (9 + (x - 1).toNat) (cw_it (show 1 ≤ x ∧ x ≤ σ 4 0 by omega)) rfl 2 (by decide) hf123 (fun _ h9 => h9) rfl dX2_told_49 ?_
      have hv9 : v_tol σ x y = σ 13 x := by unfold v_tol; (repeat (first | rw [if_pos (by omega)] | rw [if_neg (by omega)])) <;> first | rfl | omega
      have hw9 : cw_ cy ga ad σ = cw_ cy ga ad σ := by rfl
      subst hAe
      refine W.widen (k := 2) (n := 12) (Nat.le_of_ble_eq_true rfl) (Nat.le_of_ble_eq_true rfl) ?_
      refine vx_ret ?_
      exact W.iret (v := zz_i (σ 13 x)) hx hb hr (fun t ht hW => ⟨congrArg (fun z => Outcome.returned (some (Value.int (zz_i z)))) hv9.symm, ⟨(), (by unfold k_tol; (repeat (first | rw [if_pos (by omega)] | rw [if_neg (by omega)])) <;> first | rfl | omega), by rw [ht, hw9]; exact hP, va_K.moved hW.alike hK, by rw [hw9]; exact hD⟩, hS.F ht⟩) hS.2.2 dX2_told_52
    · refine lv_tableIn (off := 46) (tgt := 53) hx hb dX2_told_7 (by rw [zz_toInt (by omega)]; omega) (by rw [zz_toInt (by omega)]; omega) (by rw [zz_toInt (by omega), c4]; rfl) (by decide) ?_
      refine lv_aload_n hx hb dX2_told_53 rfl (lv_at hl 0 rfl) ?_
      refine va_get (D := D) (ci := 0) (v := .int (zz_i (σ 14 x))) (C := RX0) (T := TX0) (N := 12) hx hb hts hiX0 hown hK hP (9 + (x - 1).toNat) (cw_it (show 1 ≤ x ∧ x ≤ σ 4 0 by omega)) rfl 3 (by decide) hf104 (fun _ h9 => h9) rfl dX2_told_54 ?_
      have hv9 : v_tol σ x y = σ 14 x := by unfold v_tol; (repeat (first | rw [if_pos (by omega)] | rw [if_neg (by omega)])) <;> first | rfl | omega
      have hw9 : cw_ cy ga ad σ = cw_ cy ga ad σ := by rfl
      subst hAe
      refine W.widen (k := 2) (n := 12) (Nat.le_of_ble_eq_true rfl) (Nat.le_of_ble_eq_true rfl) ?_
      refine vx_ret ?_
      exact W.iret (v := zz_i (σ 14 x)) hx hb hr (fun t ht hW => ⟨congrArg (fun z => Outcome.returned (some (Value.int (zz_i z)))) hv9.symm, ⟨(), (by unfold k_tol; (repeat (first | rw [if_pos (by omega)] | rw [if_neg (by omega)])) <;> first | rfl | omega), by rw [ht, hw9]; exact hP, va_K.moved hW.alike hK, by rw [hw9]; exact hD⟩, hS.F ht⟩) hS.2.2 dX2_told_57
    · refine lv_tableIn (off := 51) (tgt := 58) hx hb dX2_told_7 (by rw [zz_toInt (by omega)]; omega) (by rw [zz_toInt (by omega)]; omega) (by rw [zz_toInt (by omega), c5]; rfl) (by decide) ?_
      refine lv_aload_n hx hb dX2_told_58 rfl (lv_at hl 0 rfl) ?_
      refine va_get (D := D) (ci := 0) (v := .int (zz_i (σ 15 x))) (C := RX0) (T := TX0) (N := 12) hx hb hts hiX0 hown hK hP (9 + (x - 1).toNat) (cw_it (show 1 ≤ x ∧ x ≤ σ 4 0 by omega)) rfl 4 (by decide) hf152 (fun _ h9 => h9) rfl dX2_told_59 ?_
      have hv9 : v_tol σ x y = σ 15 x := by unfold v_tol; (repeat (first | rw [if_pos (by omega)] | rw [if_neg (by omega)])) <;> first | rfl | omega
      have hw9 : cw_ cy ga ad σ = cw_ cy ga ad σ := by rfl
      subst hAe
      refine W.widen (k := 2) (n := 12) (Nat.le_of_ble_eq_true rfl) (Nat.le_of_ble_eq_true rfl) ?_
      refine vx_ret ?_
      exact W.iret (v := zz_i (σ 15 x)) hx hb hr (fun t ht hW => ⟨congrArg (fun z => Outcome.returned (some (Value.int (zz_i z)))) hv9.symm, ⟨(), (by unfold k_tol; (repeat (first | rw [if_pos (by omega)] | rw [if_neg (by omega)])) <;> first | rfl | omega), by rw [ht, hw9]; exact hP, va_K.moved hW.alike hK, by rw [hw9]; exact hD⟩, hS.F ht⟩) hS.2.2 dX2_told_62
    · refine lv_tableIn (off := 56) (tgt := 63) hx hb dX2_told_7 (by rw [zz_toInt (by omega)]; omega) (by rw [zz_toInt (by omega)]; omega) (by rw [zz_toInt (by omega), c6]; rfl) (by decide) ?_
      refine lv_aload_n hx hb dX2_told_63 rfl (lv_at hl 0 rfl) ?_
      refine va_get (D := D) (ci := 0) (v := .int (zz_i (σ 12 x))) (C := RX0) (T := TX0) (N := 12) hx hb hts hiX0 hown hK hP (9 + (x - 1).toNat) (cw_it (show 1 ≤ x ∧ x ≤ σ 4 0 by omega)) rfl 1 (by decide) hf118 (fun _ h9 => h9) rfl dX2_told_64 ?_
      have hv9 : v_tol σ x y = σ 12 x := by unfold v_tol; (repeat (first | rw [if_pos (by omega)] | rw [if_neg (by omega)])) <;> first | rfl | omega
      have hw9 : cw_ cy ga ad σ = cw_ cy ga ad σ := by rfl
      subst hAe
      refine W.widen (k := 2) (n := 12) (Nat.le_of_ble_eq_true rfl) (Nat.le_of_ble_eq_true rfl) ?_
      refine vx_ret ?_
      exact W.iret (v := zz_i (σ 12 x)) hx hb hr (fun t ht hW => ⟨congrArg (fun z => Outcome.returned (some (Value.int (zz_i z)))) hv9.symm, ⟨(), (by unfold k_tol; (repeat (first | rw [if_pos (by omega)] | rw [if_neg (by omega)])) <;> first | rfl | omega), by rw [ht, hw9]; exact hP, va_K.moved hW.alike hK, by rw [hw9]; exact hD⟩, hS.F ht⟩) hS.2.2 dX2_told_67
    · refine lv_tableIn (off := 61) (tgt := 68) hx hb dX2_told_7 (by rw [zz_toInt (by omega)]; omega) (by rw [zz_toInt (by omega)]; omega) (by rw [zz_toInt (by omega), c7]; rfl) (by decide) ?_
      refine lv_aload_n hx hb dX2_told_68 rfl (lv_at hl 0 rfl) ?_
      refine va_get (D := D) (ci := 0) (v := .int (zz_i (σ 18 x))) (C := RX0) (T := TX0) (N := 12) hx hb hts hiX0 hown hK hP (9 + (x - 1).toNat) (cw_it (show 1 ≤ x ∧ x ≤ σ 4 0 by omega)) rfl 5 (by decide) hf115 (fun _ h9 => h9) rfl dX2_told_69 ?_
      have hv9 : v_tol σ x y = σ 18 x := by unfold v_tol; (repeat (first | rw [if_pos (by omega)] | rw [if_neg (by omega)])) <;> first | rfl | omega
      have hw9 : cw_ cy ga ad σ = cw_ cy ga ad σ := by rfl
      subst hAe
      refine W.widen (k := 2) (n := 12) (Nat.le_of_ble_eq_true rfl) (Nat.le_of_ble_eq_true rfl) ?_
      refine vx_ret ?_
      exact W.iret (v := zz_i (σ 18 x)) hx hb hr (fun t ht hW => ⟨congrArg (fun z => Outcome.returned (some (Value.int (zz_i z)))) hv9.symm, ⟨(), (by unfold k_tol; (repeat (first | rw [if_pos (by omega)] | rw [if_neg (by omega)])) <;> first | rfl | omega), by rw [ht, hw9]; exact hP, va_K.moved hW.alike hK, by rw [hw9]; exact hD⟩, hS.F ht⟩) hS.2.2 dX2_told_72
    · refine lv_tableIn (off := 66) (tgt := 73) hx hb dX2_told_7 (by rw [zz_toInt (by omega)]; omega) (by rw [zz_toInt (by omega)]; omega) (by rw [zz_toInt (by omega), c8]; rfl) (by decide) ?_
      refine lv_aload_n hx hb dX2_told_73 rfl (lv_at hl 1 rfl) ?_
      refine lv_aload_n hx hb dX2_told_74 rfl (lv_at hl 0 rfl) ?_
      refine zc_v (As := [.ref (ad (x))]) (rest := []) (S := Unit) (pc := 75) ⟨hx, hb, hml, hown, hts⟩ (c_positionOf l D cy ga ad σ _ hI.1 (x) (by omega) (by omega)) (cwV 1 hts gX2_told_X2_positionOf rfl rfl rfl (by decide +kernel) ⟨Nat.le_of_ble_eq_true rfl, Nat.le_of_ble_eq_true rfl⟩) hK hP hD hS hA hE (va_recv hK hP (ci := 2) (q0 := 0) rfl rfl) rfl hl.1 rfl (Nat.le_of_ble_eq_true rfl) dX2_told_75 ⟨Nat.le_of_ble_eq_true rfl, Nat.le_of_ble_eq_true rfl⟩ (fun _ H locs k11 hP hD hS => ?_)
      refine W.eq (g2 := F0 m 78 ls [.int (zz_i (sp_po σ (x)))]) rfl ?_
      have b11 := sp_po_b σ (x)
      have hv9 : v_tol σ x y = sp_po σ (x) := by unfold v_tol; (repeat (first | rw [if_pos (by omega)] | rw [if_neg (by omega)])) <;> first | rfl | omega
      have hw9 : cw_ cy ga ad σ = cw_ cy ga ad σ := by rfl
      subst hAe
      refine W.widen (k := 2) (n := 12) (Nat.le_of_ble_eq_true rfl) (Nat.le_of_ble_eq_true rfl) ?_
      refine vx_ret ?_
      exact W.iret (v := zz_i (sp_po σ (x))) hx hb hr (fun t ht hW => ⟨congrArg (fun z => Outcome.returned (some (Value.int (zz_i z)))) hv9.symm, ⟨(), (by unfold k_tol; (repeat (first | rw [if_pos (by omega)] | rw [if_neg (by omega)])) <;> first | rfl | omega), by rw [ht, hw9]; exact hP, va_K.moved hW.alike hK, by rw [hw9]; exact hD⟩, hS.F ht⟩) hS.2.2 dX2_told_78
    · refine lv_tableIn (off := 72) (tgt := 79) hx hb dX2_told_7 (by rw [zz_toInt (by omega)]; omega) (by rw [zz_toInt (by omega)]; omega) (by rw [zz_toInt (by omega), c9]; rfl) (by decide) ?_
      refine lv_aload_n hx hb dX2_told_79 rfl (lv_at hl 0 rfl) ?_
      refine va_get (D := D) (ci := 0) (v := .int (zz_i (σ 16 x))) (C := RX0) (T := TX0) (N := 12) hx hb hts hiX0 hown hK hP (9 + (x - 1).toNat) (cw_it (show 1 ≤ x ∧ x ≤ σ 4 0 by omega)) rfl 6 (by decide) hf130 (fun _ h9 => h9) rfl dX2_told_80 ?_
      have hv9 : v_tol σ x y = σ 16 x := by unfold v_tol; (repeat (first | rw [if_pos (by omega)] | rw [if_neg (by omega)])) <;> first | rfl | omega
      have hw9 : cw_ cy ga ad σ = cw_ cy ga ad σ := by rfl
      subst hAe
      refine W.widen (k := 2) (n := 12) (Nat.le_of_ble_eq_true rfl) (Nat.le_of_ble_eq_true rfl) ?_
      refine vx_ret ?_
      exact W.iret (v := zz_i (σ 16 x)) hx hb hr (fun t ht hW => ⟨congrArg (fun z => Outcome.returned (some (Value.int (zz_i z)))) hv9.symm, ⟨(), (by unfold k_tol; (repeat (first | rw [if_pos (by omega)] | rw [if_neg (by omega)])) <;> first | rfl | omega), by rw [ht, hw9]; exact hP, va_K.moved hW.alike hK, by rw [hw9]; exact hD⟩, hS.F ht⟩) hS.2.2 dX2_told_83
    · refine lv_tableOut (tgt := 84) hx hb dX2_told_7 (by rw [zz_toInt (by omega)]; omega) (by decide) ?_
      have hk9 : k_tol σ x y = 1 := by unfold k_tol; (repeat (first | rw [if_pos (by omega)] | rw [if_neg (by omega)])) <;> first | rfl | omega
      exact th_row (own := RX2) (cls := "java/lang/IllegalArgumentException") hx hb hl9 hown (by decide +kernel) (by decide +kernel) (hts (.classLink RX2 82 "java/lang/IllegalArgumentException") (by decide +kernel)) (hts (.initialized "java/lang/IllegalArgumentException") (by decide +kernel)) (hE.2.2.2.1 (155, "no such what") (by decide +kernel)) haIAE go_IAE hAe hE hK hP hD hS (hl.1.trans hml.symm) dX2_told_84 dX2_told_87 dX2_told_88 dX2_told_90 dX2_told_93 htb (Nat.le_of_ble_eq_true rfl) (Nat.le_of_ble_eq_true rfl) (Nat.le_of_ble_eq_true rfl) (Nat.le_of_ble_eq_true rfl) hlocks (by rw [hk9]; decide) (Nat.le_of_ble_eq_true rfl) (Nat.le_of_ble_eq_true rfl)

set_option maxHeartbeats 4000000 in
set_option maxRecDepth 100000 in
theorem c_count (l : Launch) (D : va_G) (cy ga : Nat → Nat) (ad : Int → Nat) (σ : zz_S) (sz : Nat) (hI : iv_ σ) (x : Int) (q_x : (-2147483648 ≤ x ∧ x < 2147483648)) : Met l yX2_count wsX2_count ({ frames := 2, cells := 0, slots := 0, locals := 44 }) (ct_P D cy [.ref (ga 0), .int (zz_i (x))] (cw_ cy ga ad σ) sz) (ct_Q D cy (cw_ cy ga ad σ) sz (some (.int (zz_i (v_cou σ x)))) (fun _ : Unit => True) (fun _ => cw_ cy ga ad σ)) 0 0 (va_A (cw_ cy ga ad σ) sz) := by
  refine Met.ofW (cc := cX2_count) (maxL := 2) (ret := (some .int)) (by decide) rfl ?_
  intro p e s m args below meth c s₁ B hml hv
  obtain ⟨rfl, rfl, hP, hK, hD0, hE⟩ := hv
  have hx := B.exec
  have hb := B.bytes
  have hr := B.returns
  have hts := atoms_spec (ws := wsX2_count) B.pre
  have hown : s.vm.findClass RX2 = some m.cls := findClass_of_methodNamed B.named
  have hlocks := B.notSynchronized
  have hD := hD0.self (sz := s.heap.size)
  obtain ⟨A, hAe⟩ : ∃ A, A = va_A (cw_ cy ga ad σ) s.heap.size := ⟨_, rfl⟩
  rw [← hAe] at hD hE
  have hA : ∀ q : Nat, s.heap.size ≤ q → A q := fun q h => by rw [hAe]; exact Or.inr h
  have hS : va_S A s.heap s.heap [] := va_S.rf
  have hP : va_P D zz_cl (cw_ cy ga ad σ) s.heap := hP
  have hl := lv_entry ([.ref (ga 0), .int (zz_i (x))]) (n := 2) (Nat.le_of_ble_eq_true rfl)
  rw [lg_entry_eq]
  generalize (lg_sl ([.ref (ga 0), .int (zz_i (x))]) ++ List.replicate (2 - (lg_sl ([.ref (ga 0), .int (zz_i (x))])).length) Slot.unset).toArray = ls at hl ⊢
  have hl : lv_has ls 2 [(0, .ref (ga 0)), (1, .int (zz_i (x)))] := hl
  obtain ⟨⟨j1, j2, j3, j4, j5, j6, j7, j8, j9, j10⟩, j11, j12, j13, j14, j15, j16, j17, j18, j19, j20, j21, j22, j23, j24⟩ := id hI
  have hiX2 : ∀ w ∈ wsX20, w ∈ wsX2_count := by decide +kernel
  have hf39 := hts (.fieldLink RX2 39 "SorterSteps" "onTrays" "[LSorterSteps$Item;") (by decide +kernel)
  have hf14 := hts (.fieldLink RX2 14 "SorterSteps" "items" "LSorterSteps$ItemRow;") (by decide +kernel)
  have hf215 := hts (.fieldLink RX2 215 "SorterSteps" "steps" "I") (by decide +kernel)
  have hf43 := hts (.fieldLink RX2 43 "SorterSteps" "fullChutes" "[Z") (by decide +kernel)
  have hf173 := hts (.fieldLink RX2 173 "SorterSteps" "jammed" "Z") (by decide +kernel)
  refine lv_iload_n hx hb dX2_count_0 rfl (lv_at hl 1 rfl) ?_
  rcases (show (x) = 0 ∨ (x) = 1 ∨ (x) = 2 ∨ (x) = 3 ∨ (x) = 4 ∨ (x) = 5 ∨ (x) = 6 ∨ ((x) < 0 ∨ 6 < (x)) by omega) with c2 | c3 | c4 | c5 | c6 | c7 | c8 | c9
  · refine lv_tableIn (off := 43) (tgt := 44) hx hb dX2_count_1 (by rw [zz_toInt (by omega)]; omega) (by rw [zz_toInt (by omega)]; omega) (by rw [zz_toInt (by omega), c2]; rfl) (by decide) ?_
    refine lv_aload_n hx hb dX2_count_44 rfl (lv_at hl 0 rfl) ?_
    refine va_get (D := D) (ci := 2) (v := .ref (ga 1)) (C := RX2) (T := TX2) (N := 10) hx hb hts hiX2 hown hK hP (0) rfl rfl 0 (by decide) hf39 (fun _ h9 => h9) rfl dX2_count_45 ?_
    refine va_alen hx hb hK hP 1 2 rfl rfl (v := zz_i (σ 0 0)) (zz_len (show 0 ≤ σ 0 0 ∧ σ 0 0 < 2147483648 by omega)) dX2_count_48 ?_
    have hv9 : v_cou σ x = σ 0 0 := by unfold v_cou; (repeat (first | rw [if_pos (by omega)] | rw [if_neg (by omega)])) <;> first | rfl | omega
    have hw9 : cw_ cy ga ad σ = cw_ cy ga ad σ := by rfl
    subst hAe
    exact W.iret (v := zz_i (σ 0 0)) hx hb hr (fun t ht hW => ⟨congrArg (fun z => Outcome.returned (some (Value.int (zz_i z)))) hv9.symm, ⟨(), trivial, by rw [ht, hw9]; exact hP, va_K.moved hW.alike hK, by rw [hw9]; exact hD⟩, hS.F ht⟩) hS.2.2 dX2_count_49
  · refine lv_tableIn (off := 49) (tgt := 50) hx hb dX2_count_1 (by rw [zz_toInt (by omega)]; omega) (by rw [zz_toInt (by omega)]; omega) (by rw [zz_toInt (by omega), c3]; rfl) (by decide) ?_
    refine lv_aload_n hx hb dX2_count_50 rfl (lv_at hl 0 rfl) ?_
    refine va_get (D := D) (ci := 2) (v := .ref (ga 3)) (C := RX2) (T := TX2) (N := 10) hx hb hts hiX2 hown hK hP (0) rfl rfl 2 (by decide) hf14 (fun _ h9 => h9) rfl dX2_count_51 ?_
    refine zc_v (As := []) (rest := []) (S := Unit) (pc := 54) ⟨hx, hb, hml, hown, hts⟩ (c_size_it l D cy ga ad σ _) (cwV 0 hts gX2_count_X1_size rfl rfl rfl (by decide +kernel) ⟨Nat.le_of_ble_eq_true rfl, Nat.le_of_ble_eq_true rfl⟩) hK hP hD hS hA hE (va_recv hK hP (ci := 1) (q0 := 3) rfl rfl) rfl hl.1 rfl (Nat.le_of_ble_eq_true rfl) dX2_count_54 ⟨Nat.le_of_ble_eq_true rfl, Nat.le_of_ble_eq_true rfl⟩ (fun _ H locs k10 hP hD hS => ?_)
    refine W.eq (g2 := F0 m 57 ls [.int (zz_i (σ 4 0))]) rfl ?_
    have hv9 : v_cou σ x = σ 4 0 := by unfold v_cou; (repeat (first | rw [if_pos (by omega)] | rw [if_neg (by omega)])) <;> first | rfl | omega
    have hw9 : cw_ cy ga ad σ = cw_ cy ga ad σ := by rfl
    subst hAe
    exact W.iret (v := zz_i (σ 4 0)) hx hb hr (fun t ht hW => ⟨congrArg (fun z => Outcome.returned (some (Value.int (zz_i z)))) hv9.symm, ⟨(), trivial, by rw [ht, hw9]; exact hP, va_K.moved hW.alike hK, by rw [hw9]; exact hD⟩, hS.F ht⟩) hS.2.2 dX2_count_57
  · refine lv_tableIn (off := 57) (tgt := 58) hx hb dX2_count_1 (by rw [zz_toInt (by omega)]; omega) (by rw [zz_toInt (by omega)]; omega) (by rw [zz_toInt (by omega), c4]; rfl) (by decide) ?_
    refine lv_aload_n hx hb dX2_count_58 rfl (lv_at hl 0 rfl) ?_
    refine zc_v (As := []) (rest := []) (S := Unit) (pc := 59) ⟨hx, hb, hml, hown, hts⟩ (c_countEmpty l D cy ga ad σ _ hI.1) (cwV 0 hts gX2_count_X2_countEmptyTrays rfl rfl rfl (by decide +kernel) ⟨Nat.le_of_ble_eq_true rfl, Nat.le_of_ble_eq_true rfl⟩) hK hP hD hS hA hE (va_recv hK hP (ci := 2) (q0 := 0) rfl rfl) rfl hl.1 rfl (Nat.le_of_ble_eq_true rfl) dX2_count_59 ⟨Nat.le_of_ble_eq_true rfl, Nat.le_of_ble_eq_true rfl⟩ (fun _ H locs k11 hP hD hS => ?_)
    refine W.eq (g2 := F0 m 62 ls [.int (zz_i (sm_ (f_et σ) (σ 0 0).toNat))]) rfl ?_
    have hv9 : v_cou σ x = sm_ (f_et σ) (σ 0 0).toNat := by unfold v_cou; (repeat (first | rw [if_pos (by omega)] | rw [if_neg (by omega)])) <;> first | rfl | omega
    have hw9 : cw_ cy ga ad σ = cw_ cy ga ad σ := by rfl
    subst hAe
    exact W.iret (v := zz_i (sm_ (f_et σ) (σ 0 0).toNat)) hx hb hr (fun t ht hW => ⟨congrArg (fun z => Outcome.returned (some (Value.int (zz_i z)))) hv9.symm, ⟨(), trivial, by rw [ht, hw9]; exact hP, va_K.moved hW.alike hK, by rw [hw9]; exact hD⟩, hS.F ht⟩) hS.2.2 dX2_count_62
  · refine lv_tableIn (off := 62) (tgt := 63) hx hb dX2_count_1 (by rw [zz_toInt (by omega)]; omega) (by rw [zz_toInt (by omega)]; omega) (by rw [zz_toInt (by omega), c5]; rfl) (by decide) ?_
    refine lv_aload_n hx hb dX2_count_63 rfl (lv_at hl 0 rfl) ?_
    refine va_get (D := D) (ci := 2) (v := .int (zz_i (σ 2 0))) (C := RX2) (T := TX2) (N := 10) hx hb hts hiX2 hown hK hP (0) rfl rfl 7 (by decide) hf215 (fun _ h9 => h9) rfl dX2_count_64 ?_
    have hv9 : v_cou σ x = σ 2 0 := by unfold v_cou; (repeat (first | rw [if_pos (by omega)] | rw [if_neg (by omega)])) <;> first | rfl | omega
    have hw9 : cw_ cy ga ad σ = cw_ cy ga ad σ := by rfl
    subst hAe
    exact W.iret (v := zz_i (σ 2 0)) hx hb hr (fun t ht hW => ⟨congrArg (fun z => Outcome.returned (some (Value.int (zz_i z)))) hv9.symm, ⟨(), trivial, by rw [ht, hw9]; exact hP, va_K.moved hW.alike hK, by rw [hw9]; exact hD⟩, hS.F ht⟩) hS.2.2 dX2_count_67
  · refine lv_tableIn (off := 67) (tgt := 68) hx hb dX2_count_1 (by rw [zz_toInt (by omega)]; omega) (by rw [zz_toInt (by omega)]; omega) (by rw [zz_toInt (by omega), c6]; rfl) (by decide) ?_
    refine lv_aload_n hx hb dX2_count_68 rfl (lv_at hl 0 rfl) ?_
    refine va_get (D := D) (ci := 2) (v := .ref (ga 2)) (C := RX2) (T := TX2) (N := 10) hx hb hts hiX2 hown hK hP (0) rfl rfl 1 (by decide) hf43 (fun _ h9 => h9) rfl dX2_count_69 ?_
    refine va_alen hx hb hK hP 2 1 rfl rfl (v := zz_i (σ 28 0 + 1)) (zz_len (show 0 ≤ σ 28 0 + 1 ∧ σ 28 0 + 1 < 2147483648 by omega)) dX2_count_72 ?_
    refine lv_iconst (v := zz_i (1)) hx hb dX2_count_73 rfl ?_
    refine zz_isub hx hb dX2_count_74 ?_
    have hv9 : v_cou σ x = (σ 28 0 + 1) - 1 := by unfold v_cou; (repeat (first | rw [if_pos (by omega)] | rw [if_neg (by omega)])) <;> first | rfl | omega
    have hw9 : cw_ cy ga ad σ = cw_ cy ga ad σ := by rfl
    subst hAe
    exact W.iret (v := zz_i ((σ 28 0 + 1) - 1)) hx hb hr (fun t ht hW => ⟨congrArg (fun z => Outcome.returned (some (Value.int (zz_i z)))) hv9.symm, ⟨(), trivial, by rw [ht, hw9]; exact hP, va_K.moved hW.alike hK, by rw [hw9]; exact hD⟩, hS.F ht⟩) hS.2.2 dX2_count_75
  · refine lv_tableIn (off := 75) (tgt := 76) hx hb dX2_count_1 (by rw [zz_toInt (by omega)]; omega) (by rw [zz_toInt (by omega)]; omega) (by rw [zz_toInt (by omega), c7]; rfl) (by decide) ?_
    refine lv_aload_n hx hb dX2_count_76 rfl (lv_at hl 0 rfl) ?_
    refine zc_v (As := []) (rest := []) (S := Unit) (pc := 77) ⟨hx, hb, hml, hown, hts⟩ (c_countOut l D cy ga ad σ _ hI) (cwV 0 hts gX2_count_X2_countOut rfl rfl rfl (by decide +kernel) ⟨Nat.le_of_ble_eq_true rfl, Nat.le_of_ble_eq_true rfl⟩) hK hP hD hS hA hE (va_recv hK hP (ci := 2) (q0 := 0) rfl rfl) rfl hl.1 rfl (Nat.le_of_ble_eq_true rfl) dX2_count_77 ⟨Nat.le_of_ble_eq_true rfl, Nat.le_of_ble_eq_true rfl⟩ (fun _ H locs k12 hP hD hS => ?_)
    refine W.eq (g2 := F0 m 80 ls [.int (zz_i (sm_ (f_ou σ) (σ 4 0).toNat))]) rfl ?_
    have hv9 : v_cou σ x = sm_ (f_ou σ) (σ 4 0).toNat := by unfold v_cou; (repeat (first | rw [if_pos (by omega)] | rw [if_neg (by omega)])) <;> first | rfl | omega
    have hw9 : cw_ cy ga ad σ = cw_ cy ga ad σ := by rfl
    subst hAe
    exact W.iret (v := zz_i (sm_ (f_ou σ) (σ 4 0).toNat)) hx hb hr (fun t ht hW => ⟨congrArg (fun z => Outcome.returned (some (Value.int (zz_i z)))) hv9.symm, ⟨(), trivial, by rw [ht, hw9]; exact hP, va_K.moved hW.alike hK, by rw [hw9]; exact hD⟩, hS.F ht⟩) hS.2.2 dX2_count_80
  · refine lv_tableIn (off := 80) (tgt := 81) hx hb dX2_count_1 (by rw [zz_toInt (by omega)]; omega) (by rw [zz_toInt (by omega)]; omega) (by rw [zz_toInt (by omega), c8]; rfl) (by decide) ?_
    refine lv_aload_n hx hb dX2_count_81 rfl (lv_at hl 0 rfl) ?_
    refine va_get (D := D) (ci := 2) (v := .int (zz_i (σ 6 0))) (C := RX2) (T := TX2) (N := 10) hx hb hts hiX2 hown hK hP (0) rfl rfl 9 (by decide) hf173 (fun _ h9 => h9) rfl dX2_count_82 ?_
    refine zz_if_eq (tgt := 92) hx hb dX2_count_85 (by decide) (by omega) (fun c13 => ?_) (fun c13 => ?_)
    · refine lv_iconst (v := zz_i (0)) hx hb dX2_count_92 rfl ?_
      have hv9 : v_cou σ x = 0 := by unfold v_cou; (repeat (first | rw [if_pos (by omega)] | rw [if_neg (by omega)])) <;> first | rfl | omega
      have hw9 : cw_ cy ga ad σ = cw_ cy ga ad σ := by rfl
      subst hAe
      exact W.iret (v := zz_i (0)) hx hb hr (fun t ht hW => ⟨congrArg (fun z => Outcome.returned (some (Value.int (zz_i z)))) hv9.symm, ⟨(), trivial, by rw [ht, hw9]; exact hP, va_K.moved hW.alike hK, by rw [hw9]; exact hD⟩, hS.F ht⟩) hS.2.2 dX2_count_93
    · refine lv_iconst (v := zz_i (1)) hx hb dX2_count_88 rfl ?_
      refine lv_goto (tgt := 93) hx hb dX2_count_89 (by decide) ?_
      have hv9 : v_cou σ x = 1 := by unfold v_cou; (repeat (first | rw [if_pos (by omega)] | rw [if_neg (by omega)])) <;> first | rfl | omega
      have hw9 : cw_ cy ga ad σ = cw_ cy ga ad σ := by rfl
      subst hAe
      exact W.iret (v := zz_i (1)) hx hb hr (fun t ht hW => ⟨congrArg (fun z => Outcome.returned (some (Value.int (zz_i z)))) hv9.symm, ⟨(), trivial, by rw [ht, hw9]; exact hP, va_K.moved hW.alike hK, by rw [hw9]; exact hD⟩, hS.F ht⟩) hS.2.2 dX2_count_93
  · refine lv_tableOut (tgt := 94) hx hb dX2_count_1 (by rw [zz_toInt (by omega)]; omega) (by decide) ?_
    refine lv_iconst (v := zz_i (-1)) hx hb dX2_count_94 rfl ?_
    have hv9 : v_cou σ x = -1 := by unfold v_cou; (repeat (first | rw [if_pos (by omega)] | rw [if_neg (by omega)])) <;> first | rfl | omega
    have hw9 : cw_ cy ga ad σ = cw_ cy ga ad σ := by rfl
    subst hAe
    exact W.iret (v := zz_i (-1)) hx hb hr (fun t ht hW => ⟨congrArg (fun z => Outcome.returned (some (Value.int (zz_i z)))) hv9.symm, ⟨(), trivial, by rw [ht, hw9]; exact hP, va_K.moved hW.alike hK, by rw [hw9]; exact hD⟩, hS.F ht⟩) hS.2.2 dX2_count_95
end
