section
set_option maxHeartbeats 4000000 in
set_option maxRecDepth 100000 in
theorem c_length (l : Launch) (hl9 : l.stackTraces = false) (D : va_G) (cy ga : Nat → Nat) (ad : Int → Nat) (σ : zz_S) (sz : Nat) (hI : iv_ σ) (x : Int) (q_x : (-2147483648 ≤ x ∧ x < 2147483648)) : vx_Met l yX2_length wsX2_length ({ frames := 7, cells := 1, slots := 6, locals := 103 }) (ct_P D cy [.ref (ga 0), .int (zz_i (x))] (cw_ cy ga ad σ) sz) (ct_Q D cy (cw_ cy ga ad σ) sz (some (.int (zz_i (v_len σ x)))) (fun _ : Unit => k_len σ x = 0) (fun _ => cw_ cy ga ad (s_len σ x))) (ct_X D cy (cw_ cy ga ad σ) sz (k_len σ x ≠ 0) ("java/lang/IllegalArgumentException")) 1 6 (va_A (cw_ cy ga ad σ) sz) := by
  refine vx_ofW (cc := cX2_length) (maxL := 7) (ret := (some .int)) (by decide) rfl ?_
  intro p e s m args below meth c s₁ B hml htb hv
  obtain ⟨rfl, rfl, hP, hK, hD0, hE⟩ := hv
  have hx := B.exec
  have hb := B.bytes
  have hr := B.returns
  have hts := atoms_spec (ws := wsX2_length) B.pre
  have hown : s.vm.findClass RX2 = some m.cls := findClass_of_methodNamed B.named
  have hlocks := B.notSynchronized
  have hD := hD0.self (sz := s.heap.size)
  obtain ⟨A, hAe⟩ : ∃ A, A = va_A (cw_ cy ga ad σ) s.heap.size := ⟨_, rfl⟩
  rw [← hAe] at hD hE
  have hA : ∀ q : Nat, s.heap.size ≤ q → A q := fun q h => by rw [hAe]; exact Or.inr h
  have hS : va_S A s.heap s.heap [] := va_S.rf
  have hP : va_P D zz_cl (cw_ cy ga ad σ) s.heap := hP
  have hl := lv_entry ([.ref (ga 0), .int (zz_i (x))]) (n := 7) (Nat.le_of_ble_eq_true rfl)
  rw [lg_entry_eq]
  generalize (lg_sl ([.ref (ga 0), .int (zz_i (x))]) ++ List.replicate (7 - (lg_sl ([.ref (ga 0), .int (zz_i (x))])).length) Slot.unset).toArray = ls at hl ⊢
  have hl : lv_has ls 7 [(0, .ref (ga 0)), (1, .int (zz_i (x)))] := hl
  obtain ⟨⟨j1, j2, j3, j4, j5, j6, j7, j8, j9, j10⟩, j11, j12, j13, j14, j15, j16, j17, j18, j19, j20, j21, j22, j23, j24⟩ := id hI
  have hiX2 : ∀ w ∈ wsX20, w ∈ wsX2_length := by decide +kernel
  have hf24 := hts (.fieldLink RX2 24 "SorterSteps" "trayLength" "I") (by decide +kernel)
  have hf39 := hts (.fieldLink RX2 39 "SorterSteps" "onTrays" "[LSorterSteps$Item;") (by decide +kernel)
  have hiX0 : ∀ w ∈ wsX00, w ∈ wsX2_length := by decide +kernel
  have hf118 := hts (.fieldLink RX2 118 "SorterSteps$Item" "length" "I") (by decide +kernel)
  refine lv_aload_n hx hb dX2_length_0 rfl (lv_at hl 0 rfl) ?_
  refine lv_iload_n hx hb dX2_length_1 rfl (lv_at hl 1 rfl) ?_
  refine zc_x (As := [.int (zz_i (x))]) (rest := []) (S := Unit) (pc := 2) ⟨hx, hb, hml, hown, hts⟩ (c_requireLength l hl9 D cy ga ad σ _ (x) (by omega)) (cwV 1 hts gX2_length_X2_requireLength rfl rfl rfl (by decide +kernel) ⟨Nat.le_of_ble_eq_true rfl, Nat.le_of_ble_eq_true rfl⟩) hK hP hD hS hA hE (va_recv hK hP (ci := 2) (q0 := 0) rfl rfl) rfl hl.1 rfl (Nat.le_of_ble_eq_true rfl) dX2_length_2 ⟨Nat.le_of_ble_eq_true rfl, Nat.le_of_ble_eq_true rfl⟩ (fun k1 ce q9 H locs hP hD hS hce hcv hcl => ?_) (fun _ H locs k1 hP hD hS => ?_)
  · have hk9 : k_len σ x = 1 := by unfold k_len; (repeat (first | rw [if_pos (by omega)] | rw [if_neg (by omega)])) <;> first | rfl | omega
    exact th_out (E := "java/lang/IllegalArgumentException") hAe htb hlocks hK hP hD hS hce hcv hcl (by rw [hk9]; decide) (Nat.le_of_ble_eq_true rfl) (Nat.le_of_ble_eq_true rfl)
  · refine W.eq (g2 := F0 m 5 ls []) rfl ?_
    refine lv_aload_n hx hb dX2_length_5 rfl (lv_at hl 0 rfl) ?_
    refine lv_iload_n hx hb dX2_length_6 rfl (lv_at hl 1 rfl) ?_
    refine va_put (D := D) (ci := 2) (v := .int (zz_i (x))) (ty := .int) (C := RX2) (T := TX2) (N := 10) hx hb hts hiX2 tyX2 tyX2_ok nmX2 hown hK hP hD hS (0) rfl rfl 6 (by decide) hf24 (fun _ h9 => h9) rfl (by decide +kernel) rfl rfl (Nat.le_of_ble_eq_true rfl) dX2_length_7 (fun H locs hP hD hS => ?_)
    have hP : va_P D zz_cl (cw_ cy ga ad (up_s σ 3 (x))) H := hP
    have hD : va_D A (cw_ cy ga ad (up_s σ 3 (x))) := hD
    refine lv_iconst (v := zz_i (0)) hx hb dX2_length_10 rfl ?_
    refine lv_istore_n (lv' := [(2, .int (zz_i (0))), (0, .ref (ga 0)), (1, .int (zz_i (x)))]) hx hb dX2_length_11 rfl hl (by decide) rfl (fun ls hl => ?_)
    refine lv_aload_n hx hb dX2_length_12 rfl (lv_at hl 1 rfl) ?_
    refine va_get (D := D) (ci := 2) (v := .ref (ga 1)) (C := RX2) (T := TX2) (N := 10) hx hb hts hiX2 hown hK hP (0) rfl rfl 0 (by decide) hf39 (fun _ h9 => h9) rfl dX2_length_13 ?_
    refine lv_astore_n (lv' := [(3, .ref (ga 1)), (2, .int (zz_i (0))), (0, .ref (ga 0)), (1, .int (zz_i (x)))]) hx hb dX2_length_16 rfl hl (by decide) rfl (fun ls hl => ?_)
    refine lv_aload_n hx hb dX2_length_17 rfl (lv_at hl 0 rfl) ?_
    refine va_alen hx hb hK hP 1 2 rfl rfl (v := zz_i (σ 0 0)) (zz_len (show 0 ≤ σ 0 0 ∧ σ 0 0 < 2147483648 by omega)) dX2_length_18 ?_
    refine lv_istore (lv' := [(4, .int (zz_i (σ 0 0))), (3, .ref (ga 1)), (2, .int (zz_i (0))), (0, .ref (ga 0)), (1, .int (zz_i (x)))]) hx hb dX2_length_19 hl (by decide) rfl (fun ls hl => ?_)
    refine lv_iconst (v := zz_i (0)) hx hb dX2_length_21 rfl ?_
    refine lv_istore (lv' := [(5, .int (zz_i (0))), (4, .int (zz_i (σ 0 0))), (3, .ref (ga 1)), (2, .int (zz_i (0))), (0, .ref (ga 0)), (1, .int (zz_i (x)))]) hx hb dX2_length_22 hl (by decide) rfl (fun ls hl => ?_)
    refine zz_lp (α := Int × Int) (μ := fun z9 => (σ 0 0 - z9.1).toNat) (cf := fun _ => 1) (sf := fun _ => 6) (I := fun z9 H locs ls => (0 ≤ z9.1 ∧ z9.1 ≤ σ 0 0) ∧ (z9.2 = sm_ (f_lg σ x) z9.1.toNat) ∧ va_P D zz_cl (cw_ cy ga ad (up_s σ 3 (x))) H ∧ va_D A (cw_ cy ga ad (up_s σ 3 (x))) ∧ va_S A s.heap H locs ∧ lv_has ls 7 [(0, .ref (ga 0)), (1, .int (zz_i (x))), (2, .int (zz_i (z9.2))), (3, .ref (ga 1)), (4, .int (zz_i (σ 0 0))), (5, .int (zz_i (z9.1)))]) ?_ (0, 0) _ _ _ ⟨(show 0 ≤ (0 : Int) ∧ (0 : Int) ≤ σ 0 0 from (by omega)), (show (0 : Int) = sm_ (f_lg σ x) (0 : Int).toNat from rfl), hP, hD, hS, lv_sub hl [4, 5, 3, 2, 1, 0] rfl⟩
    rintro ⟨j, a⟩ H locs ls ⟨v1, v2, hP, hD, hS, hl⟩ ih24
    have v1 : 0 ≤ j ∧ j ≤ σ 0 0 := v1
    have v2 : a = sm_ (f_lg σ x) j.toNat := v2
    have hP : va_P D zz_cl (cw_ cy ga ad (up_s σ 3 (x))) H := hP
    have hD : va_D A (cw_ cy ga ad (up_s σ 3 (x))) := hD
    have hl : lv_has ls 7 [(0, .ref (ga 0)), (1, .int (zz_i (x))), (2, .int (zz_i (a))), (3, .ref (ga 1)), (4, .int (zz_i (σ 0 0))), (5, .int (zz_i (j)))] := hl
    have v3 := sm_b (f := f_lg σ x) (f_lg_r σ x) j.toNat
    have v4 := f_lg_b σ x j
    refine lv_iload hx hb dX2_length_24 (lv_at hl 5 rfl) ?_
    refine lv_iload hx hb dX2_length_26 (lv_at hl 4 rfl) ?_
    refine zz_icmp_ge (tgt := 63) hx hb dX2_length_28 (by decide) (by omega) (by omega) (fun c2 => ?_) (fun c2 => ?_)
    · refine lv_iload_n hx hb dX2_length_63 rfl (lv_at hl 2 rfl) ?_
      have hv9 : v_len σ x = a := by (have e9 : j = σ 0 0 := by omega); unfold v_len; rw [v2, e9]
      have hw9 : cw_ cy ga ad (s_len σ x) = cw_ cy ga ad (up_s σ 3 (x)) := by rfl
      subst hAe
      refine W.widen (k := 1) (n := 6) (Nat.le_of_ble_eq_true rfl) (Nat.le_of_ble_eq_true rfl) ?_
      refine vx_ret ?_
      exact W.iret (v := zz_i (a)) hx hb hr (fun t ht hW => ⟨congrArg (fun z => Outcome.returned (some (Value.int (zz_i z)))) hv9.symm, ⟨(), (by unfold k_len; (repeat (first | rw [if_pos (by omega)] | rw [if_neg (by omega)])) <;> first | rfl | omega), by rw [ht, hw9]; exact hP, va_K.moved hW.alike hK, by rw [hw9]; exact hD⟩, hS.F ht⟩) hS.2.2 dX2_length_64
    · refine lv_aload_n hx hb dX2_length_31 rfl (lv_at hl 3 rfl) ?_
      refine lv_iload hx hb dX2_length_32 (lv_at hl 5 rfl) ?_
      refine zz_aald hx hb hK hP 1 2 rfl rfl (show 0 ≤ j ∧ j < (((σ 0 0).toNat : Nat) : Int) by omega) (show (σ 0 0).toNat < 2147483648 by omega) dX2_length_34 ?_
      rcases aq_or ad (σ 10 j) with ⟨c3, hv⟩ | ⟨c3, hv⟩
      · refine W.eq (g2 := F0 m 35 ls [.null]) (congrArg (fun z => F0 m 35 ls (z :: [])) hv) ?_
        refine lv_astoreN (lv' := [(6, .null), (0, .ref (ga 0)), (1, .int (zz_i (x))), (2, .int (zz_i (a))), (3, .ref (ga 1)), (4, .int (zz_i (σ 0 0))), (5, .int (zz_i (j)))]) hx hb dX2_length_35 hl (by decide) rfl (fun ls hl => ?_)
        refine lv_aloadN hx hb dX2_length_37 (lv_at hl 0 rfl) ?_
        refine lv_ifnullN (tgt := 57) hx hb dX2_length_39 (by decide) ?_
        refine lv_iinc (v := zz_i (j + 1)) (lv' := [(5, .int (zz_i (j + 1))), (6, .null), (0, .ref (ga 0)), (1, .int (zz_i (x))), (2, .int (zz_i (a))), (3, .ref (ga 1)), (4, .int (zz_i (σ 0 0)))]) hx hb dX2_length_57 hl (k := 6) rfl (zz_add _ _) (by decide) rfl (fun ls hl => ?_)
        refine lv_goto (tgt := 24) hx hb dX2_length_60 (by decide) ?_
        exact ih24 (j + 1, a) _ _ _ (show (σ 0 0 - (j + 1)).toNat < (σ 0 0 - j).toNat by omega) ⟨(show 0 ≤ (j + 1) ∧ (j + 1) ≤ σ 0 0 from (by omega)), (show a = sm_ (f_lg σ x) (j + 1).toNat from (by rw [sm_s _ (show 0 ≤ j by omega)]; omega)), hP, hD, hS, lv_sub hl [2, 3, 4, 5, 6, 0] rfl⟩
      · refine W.eq (g2 := F0 m 35 ls [.ref (ad (σ 10 j))]) (congrArg (fun z => F0 m 35 ls (z :: [])) hv) ?_
        have h10 := j11 j
        have hit := j13 (σ 10 j) (by omega) (by omega)
        refine lv_astore (lv' := [(6, .ref (ad (σ 10 j))), (0, .ref (ga 0)), (1, .int (zz_i (x))), (2, .int (zz_i (a))), (3, .ref (ga 1)), (4, .int (zz_i (σ 0 0))), (5, .int (zz_i (j)))]) hx hb dX2_length_35 hl (by decide) rfl (fun ls hl => ?_)
        refine lv_aload hx hb dX2_length_37 (lv_at hl 0 rfl) ?_
        refine lv_ifnull hx hb dX2_length_39 ?_
        refine lv_aload hx hb dX2_length_42 (lv_at hl 0 rfl) ?_
        refine va_get (D := D) (ci := 0) (v := .int (zz_i (σ 12 (σ 10 j)))) (C := RX0) (T := TX0) (N := 12) hx hb hts hiX0 hown hK hP (9 + ((σ 10 j) - 1).toNat) (cw_it (show 1 ≤ σ 10 j ∧ σ 10 j ≤ σ 4 0 by omega)) rfl 1 (by decide) hf118 (fun _ h9 => h9) rfl dX2_length_44 ?_
        refine lv_aload_n hx hb dX2_length_47 rfl (lv_at hl 1 rfl) ?_
        refine va_get (D := D) (ci := 2) (v := .int (zz_i (x))) (C := RX2) (T := TX2) (N := 10) hx hb hts hiX2 hown hK hP (0) rfl rfl 6 (by decide) hf24 (fun _ h9 => h9) rfl dX2_length_48 ?_
        refine zz_icmp_le (tgt := 57) hx hb dX2_length_51 (by decide) (by omega) (by omega) (fun c4 => ?_) (fun c4 => ?_)
        · refine lv_iinc (v := zz_i (j + 1)) (lv' := [(5, .int (zz_i (j + 1))), (6, .ref (ad (σ 10 j))), (0, .ref (ga 0)), (1, .int (zz_i (x))), (2, .int (zz_i (a))), (3, .ref (ga 1)), (4, .int (zz_i (σ 0 0)))]) hx hb dX2_length_57 hl (k := 6) rfl (zz_add _ _) (by decide) rfl (fun ls hl => ?_)
          refine lv_goto (tgt := 24) hx hb dX2_length_60 (by decide) ?_
          exact ih24 (j + 1, a) _ _ _ (show (σ 0 0 - (j + 1)).toNat < (σ 0 0 - j).toNat by omega) ⟨(show 0 ≤ (j + 1) ∧ (j + 1) ≤ σ 0 0 from (by omega)), (show a = sm_ (f_lg σ x) (j + 1).toNat from (by rw [sm_s _ (show 0 ≤ j by omega)]; omega)), hP, hD, hS, lv_sub hl [2, 3, 4, 5, 6, 0] rfl⟩
        · refine lv_iinc (v := zz_i (a + 1)) (lv' := [(2, .int (zz_i (a + 1))), (6, .ref (ad (σ 10 j))), (0, .ref (ga 0)), (1, .int (zz_i (x))), (3, .ref (ga 1)), (4, .int (zz_i (σ 0 0))), (5, .int (zz_i (j)))]) hx hb dX2_length_54 hl (k := 3) rfl (zz_add _ _) (by decide) rfl (fun ls hl => ?_)
          refine lv_iinc (v := zz_i (j + 1)) (lv' := [(5, .int (zz_i (j + 1))), (2, .int (zz_i (a + 1))), (6, .ref (ad (σ 10 j))), (0, .ref (ga 0)), (1, .int (zz_i (x))), (3, .ref (ga 1)), (4, .int (zz_i (σ 0 0)))]) hx hb dX2_length_57 hl (k := 6) rfl (zz_add _ _) (by decide) rfl (fun ls hl => ?_)
          refine lv_goto (tgt := 24) hx hb dX2_length_60 (by decide) ?_
          exact ih24 (j + 1, a + 1) _ _ _ (show (σ 0 0 - (j + 1)).toNat < (σ 0 0 - j).toNat by omega) ⟨(show 0 ≤ (j + 1) ∧ (j + 1) ≤ σ 0 0 from (by omega)), (show (a + 1) = sm_ (f_lg σ x) (j + 1).toNat from (by rw [sm_s _ (show 0 ≤ j by omega)]; omega)), hP, hD, hS, lv_sub hl [3, 4, 1, 5, 6, 0] rfl⟩

set_option maxHeartbeats 4000000 in
set_option maxRecDepth 100000 in
theorem c_tray (l : Launch) (hl9 : l.stackTraces = false) (D : va_G) (cy ga : Nat → Nat) (ad : Int → Nat) (σ : zz_S) (sz : Nat) (hI : iv_ σ) (x : Int) (q_x : (-2147483648 ≤ x ∧ x < 2147483648)) : vx_Met l yX2_tray wsX2_trayB ({ frames := 7, cells := 1, slots := 6, locals := 95 }) (ct_P D cy [.ref (ga 0), .int (zz_i (x))] (cw_ cy ga ad σ) sz) (ct_Q D cy (cw_ cy ga ad σ) sz (some (.int (zz_i (σ 10 x)))) (fun _ : Unit => k_tra σ x = 0) (fun _ => cw_ cy ga ad σ)) (ct_X D cy (cw_ cy ga ad σ) sz (k_tra σ x ≠ 0) ("java/lang/ArrayIndexOutOfBoundsException")) 1 6 (va_A (cw_ cy ga ad σ) sz) := by
  refine vx_ofW (cc := cX2_tray) (maxL := 3) (ret := (some .int)) (by decide) rfl ?_
  intro p e s m args below meth c s₁ B hml htb hv
  obtain ⟨rfl, rfl, hP, hK, hD0, hE⟩ := hv
  have hx := B.exec
  have hb := B.bytes
  have hr := B.returns
  have hts := atoms_spec (ws := wsX2_trayB) B.pre
  have hown : s.vm.findClass RX2 = some m.cls := findClass_of_methodNamed B.named
  have hlocks := B.notSynchronized
  have hD := hD0.self (sz := s.heap.size)
  obtain ⟨A, hAe⟩ : ∃ A, A = va_A (cw_ cy ga ad σ) s.heap.size := ⟨_, rfl⟩
  rw [← hAe] at hD hE
  have hA : ∀ q : Nat, s.heap.size ≤ q → A q := fun q h => by rw [hAe]; exact Or.inr h
  have hS : va_S A s.heap s.heap [] := va_S.rf
  have hP : va_P D zz_cl (cw_ cy ga ad σ) s.heap := hP
  have hl := lv_entry ([.ref (ga 0), .int (zz_i (x))]) (n := 3) (Nat.le_of_ble_eq_true rfl)
  rw [lg_entry_eq]
  generalize (lg_sl ([.ref (ga 0), .int (zz_i (x))]) ++ List.replicate (3 - (lg_sl ([.ref (ga 0), .int (zz_i (x))])).length) Slot.unset).toArray = ls at hl ⊢
  have hl : lv_has ls 3 [(0, .ref (ga 0)), (1, .int (zz_i (x)))] := hl
  obtain ⟨⟨j1, j2, j3, j4, j5, j6, j7, j8, j9, j10⟩, j11, j12, j13, j14, j15, j16, j17, j18, j19, j20, j21, j22, j23, j24⟩ := id hI
  have hiX2 : ∀ w ∈ wsX20, w ∈ wsX2_trayB := by decide +kernel
  have hf39 := hts (.fieldLink RX2 39 "SorterSteps" "onTrays" "[LSorterSteps$Item;") (by decide +kernel)
  have hiX0 : ∀ w ∈ wsX00, w ∈ wsX2_trayB := by decide +kernel
  have hf75 := hts (.fieldLink RX2 75 "SorterSteps$Item" "number" "I") (by decide +kernel)
  have haAIO := at_AIO (Ts := wsX2_trayB) hts (by decide +kernel) hE
  refine lv_aload_n hx hb dX2_tray_0 rfl (lv_at hl 0 rfl) ?_
  refine lv_iload_n hx hb dX2_tray_1 rfl (lv_at hl 1 rfl) ?_
  refine zc_v (As := [.int (zz_i (x))]) (rest := []) (S := Unit) (pc := 2) ⟨hx, hb, hml, hown, hts⟩ (c_isInLoop l D cy ga ad σ _ hI.1 (x) (by omega)) (cwV 1 hts gX2_trayB_X2_isInLoop rfl rfl rfl (by decide +kernel) ⟨Nat.le_of_ble_eq_true rfl, Nat.le_of_ble_eq_true rfl⟩) hK hP hD hS hA hE (va_recv hK hP (ci := 2) (q0 := 0) rfl rfl) rfl hl.1 rfl (Nat.le_of_ble_eq_true rfl) dX2_tray_2 ⟨Nat.le_of_ble_eq_true rfl, Nat.le_of_ble_eq_true rfl⟩ (fun _ H locs k1 hP hD hS => ?_)
  refine W.eq (g2 := F0 m 5 ls [.int (zz_i (sp_il σ (x)))]) rfl ?_
  have b1_0 := sp_il_b σ (x)
  refine zz_if_ne (tgt := 18) hx hb dX2_tray_5 (by decide) (by omega) (fun c2 => ?_) (fun c2 => ?_)
  · refine lv_aload_n hx hb dX2_tray_18 rfl (lv_at hl 0 rfl) ?_
    refine va_get (D := D) (ci := 2) (v := .ref (ga 1)) (C := RX2) (T := TX2) (N := 10) hx hb hts hiX2 hown hK hP (0) rfl rfl 0 (by decide) hf39 (fun _ h9 => h9) rfl dX2_tray_19 ?_
    refine lv_iload_n hx hb dX2_tray_22 rfl (lv_at hl 1 rfl) ?_
    refine zz_aald hx hb hK hP 1 2 rfl rfl (show 0 ≤ x ∧ x < (((σ 0 0).toNat : Nat) : Int) by omega) (show (σ 0 0).toNat < 2147483648 by omega) dX2_tray_23 ?_
    rcases aq_or ad (σ 10 x) with ⟨c3, hv⟩ | ⟨c3, hv⟩
    · refine W.eq (g2 := F0 m 24 ls [.null]) (congrArg (fun z => F0 m 24 ls (z :: [])) hv) ?_
      refine lv_astore_nN (lv' := [(2, .null), (0, .ref (ga 0)), (1, .int (zz_i (x)))]) hx hb dX2_tray_24 rfl hl (by decide) rfl (fun ls hl => ?_)
      refine lv_aload_nN hx hb dX2_tray_25 rfl (lv_at hl 0 rfl) ?_
      refine lv_ifnonnullN hx hb dX2_tray_26 ?_
      refine lv_iconst (v := zz_i (0)) hx hb dX2_tray_29 rfl ?_
      refine lv_goto (tgt := 37) hx hb dX2_tray_30 (by decide) ?_
      have hv9 : σ 10 x = 0 := by omega
      have hw9 : cw_ cy ga ad σ = cw_ cy ga ad σ := by rfl
      subst hAe
      refine W.widen (k := 1) (n := 6) (Nat.le_of_ble_eq_true rfl) (Nat.le_of_ble_eq_true rfl) ?_
      refine vx_ret ?_
      exact W.iret (v := zz_i (0)) hx hb hr (fun t ht hW => ⟨congrArg (fun z => Outcome.returned (some (Value.int (zz_i z)))) hv9.symm, ⟨(), (by unfold k_tra; (repeat (first | rw [if_pos (by omega)] | rw [if_neg (by omega)])) <;> first | rfl | omega), by rw [ht, hw9]; exact hP, va_K.moved hW.alike hK, by rw [hw9]; exact hD⟩, hS.F ht⟩) hS.2.2 dX2_tray_37
    · refine W.eq (g2 := F0 m 24 ls [.ref (ad (σ 10 x))]) (congrArg (fun z => F0 m 24 ls (z :: [])) hv) ?_
      have h10 := j11 x
      refine lv_astore_n (lv' := [(2, .ref (ad (σ 10 x))), (0, .ref (ga 0)), (1, .int (zz_i (x)))]) hx hb dX2_tray_24 rfl hl (by decide) rfl (fun ls hl => ?_)
      refine lv_aload_n hx hb dX2_tray_25 rfl (lv_at hl 0 rfl) ?_
      refine lv_ifnonnull (tgt := 33) hx hb dX2_tray_26 (by decide) ?_
      refine lv_aload_n hx hb dX2_tray_33 rfl (lv_at hl 0 rfl) ?_
      refine va_get (D := D) (ci := 0) (v := .int (zz_i (σ 10 x))) (C := RX0) (T := TX0) (N := 12) hx hb hts hiX0 hown hK hP (9 + ((σ 10 x) - 1).toNat) (cw_it (show 1 ≤ σ 10 x ∧ σ 10 x ≤ σ 4 0 by omega)) rfl 0 (by decide) hf75 (fun _ h9 => h9) rfl dX2_tray_34 ?_
      have hv9 : σ 10 x = σ 10 x := by omega
      have hw9 : cw_ cy ga ad σ = cw_ cy ga ad σ := by rfl
      subst hAe
      refine W.widen (k := 1) (n := 6) (Nat.le_of_ble_eq_true rfl) (Nat.le_of_ble_eq_true rfl) ?_
      refine vx_ret ?_
      exact W.iret (v := zz_i (σ 10 x)) hx hb hr (fun t ht hW => ⟨congrArg (fun z => Outcome.returned (some (Value.int (zz_i z)))) hv9.symm, ⟨(), (by unfold k_tra; (repeat (first | rw [if_pos (by omega)] | rw [if_neg (by omega)])) <;> first | rfl | omega), by rw [ht, hw9]; exact hP, va_K.moved hW.alike hK, by rw [hw9]; exact hD⟩, hS.F ht⟩) hS.2.2 dX2_tray_37
  · have hk9 : k_tra σ x = 1 := by unfold k_tra; (repeat (first | rw [if_pos (by omega)] | rw [if_neg (by omega)])) <;> first | rfl | omega
    exact th_row (own := RX2) (cls := "java/lang/ArrayIndexOutOfBoundsException") hx hb hl9 hown (by decide +kernel) (by decide +kernel) (hts (.classLink RX2 203 "java/lang/ArrayIndexOutOfBoundsException") (by decide +kernel)) (hts (.initialized "java/lang/ArrayIndexOutOfBoundsException") (by decide +kernel)) (hE.2.2.2.1 (205, "no such tray") (by decide +kernel)) haAIO go_AIO hAe hE hK hP hD hS (hl.1.trans hml.symm) dX2_tray_8 dX2_tray_11 dX2_tray_12 dX2_tray_14 dX2_tray_17 htb (Nat.le_of_ble_eq_true rfl) (Nat.le_of_ble_eq_true rfl) (Nat.le_of_ble_eq_true rfl) (Nat.le_of_ble_eq_true rfl) hlocks (by rw [hk9]; decide) (Nat.le_of_ble_eq_true rfl) (Nat.le_of_ble_eq_true rfl)

set_option maxHeartbeats 4000000 in
set_option maxRecDepth 100000 in
theorem c_found (l : Launch) (hl9 : l.stackTraces = false) (D : va_G) (cy ga : Nat → Nat) (ad : Int → Nat) (σ : zz_S) (sz : Nat) (hI : iv_ σ) (x f : Int) (q_x : (-2147483648 ≤ x ∧ x < 2147483648)) (q_f : f = 0 ∨ f = 1) : vx_Met l yX2_found wsX2_found ({ frames := 7, cells := 2, slots := 12, locals := 104 }) (ct_P D cy [.ref (ga 0), .int (zz_i (x)), .int (zz_i (f))] (cw_ cy ga ad σ) sz) (ct_Q D cy (cw_ cy ga ad σ) sz (some (.int (zz_i (v_fou σ x f)))) (fun _ : Unit => k_fou σ x = 0) (fun _ => cw_ cy ga ad (up_a σ 20 x f))) (ct_X D cy (cw_ cy ga ad σ) sz (k_fou σ x ≠ 0) (ex_s (k_fou σ x))) 2 12 (va_A (cw_ cy ga ad σ) sz) := by
  refine vx_ofW (cc := cX2_found) (maxL := 4) (ret := (some .int)) (by decide) rfl ?_
  intro p e s m args below meth c s₁ B hml htb hv
  obtain ⟨rfl, rfl, hP, hK, hD0, hE⟩ := hv
  have hx := B.exec
  have hb := B.bytes
  have hr := B.returns
  have hts := atoms_spec (ws := wsX2_found) B.pre
  have hown : s.vm.findClass RX2 = some m.cls := findClass_of_methodNamed B.named
  have hlocks := B.notSynchronized
  have hD := hD0.self (sz := s.heap.size)
  obtain ⟨A, hAe⟩ : ∃ A, A = va_A (cw_ cy ga ad σ) s.heap.size := ⟨_, rfl⟩
  rw [← hAe] at hD hE
  have hA : ∀ q : Nat, s.heap.size ≤ q → A q := fun q h => by rw [hAe]; exact Or.inr h
  have hS : va_S A s.heap s.heap [] := va_S.rf
  have hP : va_P D zz_cl (cw_ cy ga ad σ) s.heap := hP
  have hl := lv_entry ([.ref (ga 0), .int (zz_i (x)), .int (zz_i (f))]) (n := 4) (Nat.le_of_ble_eq_true rfl)
  rw [lg_entry_eq]
  generalize (lg_sl ([.ref (ga 0), .int (zz_i (x)), .int (zz_i (f))]) ++ List.replicate (4 - (lg_sl ([.ref (ga 0), .int (zz_i (x)), .int (zz_i (f))])).length) Slot.unset).toArray = ls at hl ⊢
  have hl : lv_has ls 4 [(0, .ref (ga 0)), (1, .int (zz_i (x))), (2, .int (zz_i (f)))] := hl
  obtain ⟨⟨j1, j2, j3, j4, j5, j6, j7, j8, j9, j10⟩, j11, j12, j13, j14, j15, j16, j17, j18, j19, j20, j21, j22, j23, j24⟩ := id hI
  have hiX0 : ∀ w ∈ wsX00, w ∈ wsX2_found := by decide +kernel
  have hf183 := hts (.fieldLink RX2 183 "SorterSteps$Item" "doubted" "Z") (by decide +kernel)
  have hf187 := hts (.fieldLink RX2 187 "SorterSteps$Item" "found" "Z") (by decide +kernel)
  have haISE := at_ISE (Ts := wsX2_found) hts (by decide +kernel) hE
  refine lv_aload_n hx hb dX2_found_0 rfl (lv_at hl 0 rfl) ?_
  refine lv_iload_n hx hb dX2_found_1 rfl (lv_at hl 1 rfl) ?_
  refine zc_x (As := [.int (zz_i (x))]) (rest := []) (S := Unit) (pc := 2) ⟨hx, hb, hml, hown, hts⟩ (c_itemNumbered l hl9 D cy ga ad σ _ hI.1 (x) (by omega)) (cwV 1 hts gX2_found_X2_itemNumbered rfl rfl rfl (by decide +kernel) ⟨Nat.le_of_ble_eq_true rfl, Nat.le_of_ble_eq_true rfl⟩) hK hP hD hS hA hE (va_recv hK hP (ci := 2) (q0 := 0) rfl rfl) rfl hl.1 rfl (Nat.le_of_ble_eq_true rfl) dX2_found_2 ⟨Nat.le_of_ble_eq_true rfl, Nat.le_of_ble_eq_true rfl⟩ (fun k1 ce q9 H locs hP hD hS hce hcv hcl => ?_) (fun _ H locs k1 hP hD hS => ?_)
  · have hk9 : k_fou σ x = 1 := by unfold k_fou; (repeat (first | rw [if_pos (by omega)] | rw [if_neg (by omega)])) <;> first | rfl | omega
    rw [show ex_s (k_fou σ x) = "java/lang/IllegalArgumentException" from by rw [hk9]; rfl]
    exact th_out (E := "java/lang/IllegalArgumentException") hAe htb hlocks hK hP hD hS hce hcv hcl (by rw [hk9]; decide) (Nat.le_of_ble_eq_true rfl) (Nat.le_of_ble_eq_true rfl)
  · refine W.eq (g2 := F0 m 5 ls [.ref (ad (x))]) rfl ?_
    refine lv_astore_n (lv' := [(3, .ref (ad (x))), (0, .ref (ga 0)), (1, .int (zz_i (x))), (2, .int (zz_i (f)))]) hx hb dX2_found_5 rfl hl (by decide) rfl (fun ls hl => ?_)
    refine lv_aload_n hx hb dX2_found_6 rfl (lv_at hl 0 rfl) ?_
    have hit := j13 x (by omega) (by omega)
    have hS20 := pv_20 hI (i := x) (v := f) (by omega) q_f
    refine va_get (D := D) (ci := 0) (v := .int (zz_i (σ 19 x))) (C := RX0) (T := TX0) (N := 12) hx hb hts hiX0 hown hK hP (9 + (x - 1).toNat) (cw_it (show 1 ≤ x ∧ x ≤ σ 4 0 by omega)) rfl 8 (by decide) hf183 (fun _ h9 => h9) rfl dX2_found_7 ?_
    refine zz_if_ne (tgt := 23) hx hb dX2_found_10 (by decide) (by omega) (fun c2 => ?_) (fun c2 => ?_)
    · refine lv_aload_n hx hb dX2_found_23 rfl (lv_at hl 0 rfl) ?_
      refine lv_iload_n hx hb dX2_found_24 rfl (lv_at hl 3 rfl) ?_
      refine va_put (D := D) (ci := 0) (v := .int (zz_i (f))) (ty := .boolean) (C := RX0) (T := TX0) (N := 12) hx hb hts hiX0 tyX0 tyX0_ok nmX0 hown hK hP hD hS (9 + (x - 1).toNat) (cw_it (show 1 ≤ x ∧ x ≤ σ 4 0 by omega)) rfl 9 (by decide) hf187 (fun _ h9 => h9) rfl (by decide +kernel) (zz_narB (by omega)) (zz_fitB (by omega)) (Nat.le_of_ble_eq_true rfl) dX2_found_25 (fun H locs hP hD hS => ?_)
      rw [cw_si20 (σ := σ) (show 1 ≤ x ∧ x ≤ σ 4 0 by omega)] at hP hD
      refine lv_aload_n hx hb dX2_found_28 rfl (lv_at hl 1 rfl) ?_
      refine zc_v (As := []) (rest := []) (S := Unit) (pc := 29) ⟨hx, hb, hml, hown, hts⟩ (c_countNotFound l D cy ga ad (up_a σ 20 (x) (f)) _ hI.1 (fun j h1 h2 => ⟨(j15 j h1 h2).1, (j15 j h1 h2).2.1⟩) (fun j h1 h2 => (hS20.2.2.2.1 _ (j15 j h1 h2).1 (j15 j h1 h2).2.1).2.2.2.2.2.2.2.2.1)) (cwV 0 hts gX2_found_X2_countNotFound rfl rfl rfl (by decide +kernel) ⟨Nat.le_of_ble_eq_true rfl, Nat.le_of_ble_eq_true rfl⟩) hK hP hD hS hA hE (va_recv hK hP (ci := 2) (q0 := 0) rfl rfl) rfl hl.1 rfl (Nat.le_of_ble_eq_true rfl) dX2_found_29 ⟨Nat.le_of_ble_eq_true rfl, Nat.le_of_ble_eq_true rfl⟩ (fun _ H locs k3 hP hD hS => ?_)
      refine W.eq (g2 := F0 m 32 ls [.int (zz_i (sm_ (f_nf (up_a σ 20 (x) (f))) ((up_a σ 20 (x) (f)) 7 0).toNat))]) rfl ?_
      have hv9 : v_fou σ x f = sm_ (f_nf (up_a σ 20 (x) (f))) ((up_a σ 20 (x) (f)) 7 0).toNat := by rfl
      have hw9 : cw_ cy ga ad (up_a σ 20 x f) = cw_ cy ga ad (up_a σ 20 (x) (f)) := by rfl
      subst hAe
      refine W.widen (k := 2) (n := 12) (Nat.le_of_ble_eq_true rfl) (Nat.le_of_ble_eq_true rfl) ?_
      refine vx_ret ?_
      exact W.iret (v := zz_i (sm_ (f_nf (up_a σ 20 (x) (f))) ((up_a σ 20 (x) (f)) 7 0).toNat)) hx hb hr (fun t ht hW => ⟨congrArg (fun z => Outcome.returned (some (Value.int (zz_i z)))) hv9.symm, ⟨(), (by unfold k_fou; (repeat (first | rw [if_pos (by omega)] | rw [if_neg (by omega)])) <;> first | rfl | omega), by rw [ht, hw9]; exact hP, va_K.moved hW.alike hK, by rw [hw9]; exact hD⟩, hS.F ht⟩) hS.2.2 dX2_found_32
    · have hk9 : k_fou σ x = 2 := by unfold k_fou; (repeat (first | rw [if_pos (by omega)] | rw [if_neg (by omega)])) <;> first | rfl | omega
      rw [show ex_s (k_fou σ x) = "java/lang/IllegalStateException" from by rw [hk9]; rfl]
      exact th_row (own := RX2) (cls := "java/lang/IllegalStateException") hx hb hl9 hown (by decide +kernel) (by decide +kernel) (hts (.classLink RX2 99 "java/lang/IllegalStateException") (by decide +kernel)) (hts (.initialized "java/lang/IllegalStateException") (by decide +kernel)) (hE.2.2.2.1 (185, "the item is not doubted") (by decide +kernel)) haISE go_ISE hAe hE hK hP hD hS (hl.1.trans hml.symm) dX2_found_13 dX2_found_16 dX2_found_17 dX2_found_19 dX2_found_22 htb (Nat.le_of_ble_eq_true rfl) (Nat.le_of_ble_eq_true rfl) (Nat.le_of_ble_eq_true rfl) (Nat.le_of_ble_eq_true rfl) hlocks (by rw [hk9]; decide) (Nat.le_of_ble_eq_true rfl) (Nat.le_of_ble_eq_true rfl)
end
