section
set_option maxHeartbeats 4000000 in
set_option maxRecDepth 100000 in
theorem c_countEmpty (l : Launch) (D : va_G) (cy ga : Nat → Nat) (ad : Int → Nat) (σ : zz_S) (sz : Nat) (hI : iw_ σ) : Met l yX2_countEmptyTrays wsX2_countEmptyTrays ({ frames := 0, cells := 0, slots := 0, locals := 0 }) (ct_P D cy [.ref (ga 0)] (cw_ cy ga ad σ) sz) (ct_Q D cy (cw_ cy ga ad σ) sz (some (.int (zz_i (sm_ (f_et σ) (σ 0 0).toNat)))) (fun _ : Unit => True) (fun _ => cw_ cy ga ad σ)) 0 0 (va_A (cw_ cy ga ad σ) sz) := by
  refine Met.ofW (cc := cX2_countEmptyTrays) (maxL := 6) (ret := (some .int)) (by decide) rfl ?_
  intro p e s m args below meth c s₁ B hml hv
  obtain ⟨rfl, rfl, hP, hK, hD0, hE⟩ := hv
  have hx := B.exec
  have hb := B.bytes
  have hr := B.returns
  have hts := atoms_spec (ws := wsX2_countEmptyTrays) B.pre
  have hown : s.vm.findClass RX2 = some m.cls := findClass_of_methodNamed B.named
  have hlocks := B.notSynchronized
  have hD := hD0.self (sz := s.heap.size)
  obtain ⟨A, hAe⟩ : ∃ A, A = va_A (cw_ cy ga ad σ) s.heap.size := ⟨_, rfl⟩
  rw [← hAe] at hD hE
  have hA : ∀ q : Nat, s.heap.size ≤ q → A q := fun q h => by rw [hAe]; exact Or.inr h
  have hS : va_S A s.heap s.heap [] := va_S.rf
  have hP : va_P D zz_cl (cw_ cy ga ad σ) s.heap := hP
  have hl := lv_entry ([.ref (ga 0)]) (n := 6) (Nat.le_of_ble_eq_true rfl)
  rw [lg_entry_eq]
  generalize (lg_sl ([.ref (ga 0)]) ++ List.replicate (6 - (lg_sl ([.ref (ga 0)])).length) Slot.unset).toArray = ls at hl ⊢
  have hl : lv_has ls 6 [(0, .ref (ga 0))] := hl
  obtain ⟨j1, j2, j3, j4, j5, j6, j7, j8, j9, j10⟩ := id hI
  have hiX2 : ∀ w ∈ wsX20, w ∈ wsX2_countEmptyTrays := by decide +kernel
  have hf39 := hts (.fieldLink RX2 39 "SorterSteps" "onTrays" "[LSorterSteps$Item;") (by decide +kernel)
  refine lv_iconst (v := zz_i (0)) hx hb dX2_countEmptyTrays_0 rfl ?_
  refine lv_istore_n (lv' := [(1, .int (zz_i (0))), (0, .ref (ga 0))]) hx hb dX2_countEmptyTrays_1 rfl hl (by decide) rfl (fun ls hl => ?_)
  refine lv_aload_n hx hb dX2_countEmptyTrays_2 rfl (lv_at hl 1 rfl) ?_
  refine va_get (D := D) (ci := 2) (v := .ref (ga 1)) (C := RX2) (T := TX2) (N := 10) hx hb hts hiX2 hown hK hP (0) rfl rfl 0 (by decide) hf39 (fun _ h9 => h9) rfl dX2_countEmptyTrays_3 ?_
  refine lv_astore_n (lv' := [(2, .ref (ga 1)), (1, .int (zz_i (0))), (0, .ref (ga 0))]) hx hb dX2_countEmptyTrays_6 rfl hl (by decide) rfl (fun ls hl => ?_)
  refine lv_aload_n hx hb dX2_countEmptyTrays_7 rfl (lv_at hl 0 rfl) ?_
  refine va_alen hx hb hK hP 1 2 rfl rfl (v := zz_i (σ 0 0)) (zz_len (show 0 ≤ σ 0 0 ∧ σ 0 0 < 2147483648 by omega)) dX2_countEmptyTrays_8 ?_
  refine lv_istore_n (lv' := [(3, .int (zz_i (σ 0 0))), (2, .ref (ga 1)), (1, .int (zz_i (0))), (0, .ref (ga 0))]) hx hb dX2_countEmptyTrays_9 rfl hl (by decide) rfl (fun ls hl => ?_)
  refine lv_iconst (v := zz_i (0)) hx hb dX2_countEmptyTrays_10 rfl ?_
  refine lv_istore (lv' := [(4, .int (zz_i (0))), (3, .int (zz_i (σ 0 0))), (2, .ref (ga 1)), (1, .int (zz_i (0))), (0, .ref (ga 0))]) hx hb dX2_countEmptyTrays_11 hl (by decide) rfl (fun ls hl => ?_)
  refine zz_lp (α := Int × Int) (μ := fun z9 => (σ 0 0 - z9.1).toNat) (cf := fun _ => 0) (sf := fun _ => 0) (I := fun z9 H locs ls => (0 ≤ z9.1 ∧ z9.1 ≤ σ 0 0) ∧ (z9.2 = sm_ (f_et σ) z9.1.toNat) ∧ va_P D zz_cl (cw_ cy ga ad σ) H ∧ va_D A (cw_ cy ga ad σ) ∧ va_S A s.heap H locs ∧ lv_has ls 6 [(0, .ref (ga 0)), (1, .int (zz_i (z9.2))), (2, .ref (ga 1)), (3, .int (zz_i (σ 0 0))), (4, .int (zz_i (z9.1)))]) ?_ (0, 0) _ _ _ ⟨(show 0 ≤ (0 : Int) ∧ (0 : Int) ≤ σ 0 0 from (by omega)), (show (0 : Int) = sm_ (f_et σ) (0 : Int).toNat from rfl), hP, hD, hS, lv_sub hl [4, 3, 2, 1, 0] rfl⟩
  rintro ⟨j, a⟩ H locs ls ⟨v1, v2, hP, hD, hS, hl⟩ ih13
  have v1 : 0 ≤ j ∧ j ≤ σ 0 0 := v1
  have v2 : a = sm_ (f_et σ) j.toNat := v2
  have hP : va_P D zz_cl (cw_ cy ga ad σ) H := hP
  have hD : va_D A (cw_ cy ga ad σ) := hD
  have hl : lv_has ls 6 [(0, .ref (ga 0)), (1, .int (zz_i (a))), (2, .ref (ga 1)), (3, .int (zz_i (σ 0 0))), (4, .int (zz_i (j)))] := hl
  have v3 := sm_b (f := f_et σ) (f_et_r σ) j.toNat
  have v4 := f_et_b σ j
  refine lv_iload hx hb dX2_countEmptyTrays_13 (lv_at hl 4 rfl) ?_
  refine lv_iload_n hx hb dX2_countEmptyTrays_15 rfl (lv_at hl 3 rfl) ?_
  refine zz_icmp_ge (tgt := 39) hx hb dX2_countEmptyTrays_16 (by decide) (by omega) (by omega) (fun c1 => ?_) (fun c1 => ?_)
  · refine lv_iload_n hx hb dX2_countEmptyTrays_39 rfl (lv_at hl 1 rfl) ?_
    have hv9 : sm_ (f_et σ) (σ 0 0).toNat = a := by (have e : j = σ 0 0 := by omega); rw [v2, e]
    have hw9 : cw_ cy ga ad σ = cw_ cy ga ad σ := by rfl
    subst hAe
    exact W.iret (v := zz_i (a)) hx hb hr (fun t ht hW => ⟨congrArg (fun z => Outcome.returned (some (Value.int (zz_i z)))) hv9.symm, ⟨(), trivial, by rw [ht, hw9]; exact hP, va_K.moved hW.alike hK, by rw [hw9]; exact hD⟩, hS.F ht⟩) hS.2.2 dX2_countEmptyTrays_40
  · refine lv_aload_n hx hb dX2_countEmptyTrays_19 rfl (lv_at hl 2 rfl) ?_
    refine lv_iload hx hb dX2_countEmptyTrays_20 (lv_at hl 4 rfl) ?_
    refine zz_aald hx hb hK hP 1 2 rfl rfl (show 0 ≤ j ∧ j < (((σ 0 0).toNat : Nat) : Int) by omega) (show (σ 0 0).toNat < 2147483648 by omega) dX2_countEmptyTrays_22 ?_
    rcases aq_or ad (σ 10 j) with ⟨c2, hv⟩ | ⟨c2, hv⟩
    · refine W.eq (g2 := F0 m 23 ls [.null]) (congrArg (fun z => F0 m 23 ls (z :: [])) hv) ?_
      refine lv_astoreN (lv' := [(5, .null), (0, .ref (ga 0)), (1, .int (zz_i (a))), (2, .ref (ga 1)), (3, .int (zz_i (σ 0 0))), (4, .int (zz_i (j)))]) hx hb dX2_countEmptyTrays_23 hl (by decide) rfl (fun ls hl => ?_)
      refine lv_aloadN hx hb dX2_countEmptyTrays_25 (lv_at hl 0 rfl) ?_
      refine lv_ifnonnullN hx hb dX2_countEmptyTrays_27 ?_
      refine lv_iinc (v := zz_i (a + 1)) (lv' := [(1, .int (zz_i (a + 1))), (5, .null), (0, .ref (ga 0)), (2, .ref (ga 1)), (3, .int (zz_i (σ 0 0))), (4, .int (zz_i (j)))]) hx hb dX2_countEmptyTrays_30 hl (k := 2) rfl (zz_add _ _) (by decide) rfl (fun ls hl => ?_)
      refine lv_iinc (v := zz_i (j + 1)) (lv' := [(4, .int (zz_i (j + 1))), (1, .int (zz_i (a + 1))), (5, .null), (0, .ref (ga 0)), (2, .ref (ga 1)), (3, .int (zz_i (σ 0 0)))]) hx hb dX2_countEmptyTrays_33 hl (k := 5) rfl (zz_add _ _) (by decide) rfl (fun ls hl => ?_)
      refine lv_goto (tgt := 13) hx hb dX2_countEmptyTrays_36 (by decide) ?_
      exact ih13 (j + 1, a + 1) _ _ _ (show (σ 0 0 - (j + 1)).toNat < (σ 0 0 - j).toNat by omega) ⟨(show 0 ≤ (j + 1) ∧ (j + 1) ≤ σ 0 0 from (by omega)), (show (a + 1) = sm_ (f_et σ) (j + 1).toNat from (by rw [sm_s _ (show 0 ≤ j by omega)]; omega)), hP, hD, hS, lv_sub hl [3, 1, 4, 5, 0] rfl⟩
    · refine W.eq (g2 := F0 m 23 ls [.ref (ad (σ 10 j))]) (congrArg (fun z => F0 m 23 ls (z :: [])) hv) ?_
      refine lv_astore (lv' := [(5, .ref (ad (σ 10 j))), (0, .ref (ga 0)), (1, .int (zz_i (a))), (2, .ref (ga 1)), (3, .int (zz_i (σ 0 0))), (4, .int (zz_i (j)))]) hx hb dX2_countEmptyTrays_23 hl (by decide) rfl (fun ls hl => ?_)
      refine lv_aload hx hb dX2_countEmptyTrays_25 (lv_at hl 0 rfl) ?_
      refine lv_ifnonnull (tgt := 33) hx hb dX2_countEmptyTrays_27 (by decide) ?_
      refine lv_iinc (v := zz_i (j + 1)) (lv' := [(4, .int (zz_i (j + 1))), (5, .ref (ad (σ 10 j))), (0, .ref (ga 0)), (1, .int (zz_i (a))), (2, .ref (ga 1)), (3, .int (zz_i (σ 0 0)))]) hx hb dX2_countEmptyTrays_33 hl (k := 5) rfl (zz_add _ _) (by decide) rfl (fun ls hl => ?_)
      refine lv_goto (tgt := 13) hx hb dX2_countEmptyTrays_36 (by decide) ?_
      exact ih13 (j + 1, a) _ _ _ (show (σ 0 0 - (j + 1)).toNat < (σ 0 0 - j).toNat by omega) ⟨(show 0 ≤ (j + 1) ∧ (j + 1) ≤ σ 0 0 from (by omega)), (show a = sm_ (f_et σ) (j + 1).toNat from (by rw [sm_s _ (show 0 ≤ j by omega)]; omega)), hP, hD, hS, lv_sub hl [2, 3, 4, 5, 0] rfl⟩

set_option maxHeartbeats 4000000 in
set_option maxRecDepth 100000 in
theorem c_countOut (l : Launch) (D : va_G) (cy ga : Nat → Nat) (ad : Int → Nat) (σ : zz_S) (sz : Nat) (hI : iv_ σ) : Met l yX2_countOut wsX2_countOut ({ frames := 1, cells := 0, slots := 0, locals := 21 }) (ct_P D cy [.ref (ga 0)] (cw_ cy ga ad σ) sz) (ct_Q D cy (cw_ cy ga ad σ) sz (some (.int (zz_i (sm_ (f_ou σ) (σ 4 0).toNat)))) (fun _ : Unit => True) (fun _ => cw_ cy ga ad σ)) 0 0 (va_A (cw_ cy ga ad σ) sz) := by
  refine Met.ofW (cc := cX2_countOut) (maxL := 4) (ret := (some .int)) (by decide) rfl ?_
  intro p e s m args below meth c s₁ B hml hv
  obtain ⟨rfl, rfl, hP, hK, hD0, hE⟩ := hv
  have hx := B.exec
  have hb := B.bytes
  have hr := B.returns
  have hts := atoms_spec (ws := wsX2_countOut) B.pre
  have hown : s.vm.findClass RX2 = some m.cls := findClass_of_methodNamed B.named
  have hlocks := B.notSynchronized
  have hD := hD0.self (sz := s.heap.size)
  obtain ⟨A, hAe⟩ : ∃ A, A = va_A (cw_ cy ga ad σ) s.heap.size := ⟨_, rfl⟩
  rw [← hAe] at hD hE
  have hA : ∀ q : Nat, s.heap.size ≤ q → A q := fun q h => by rw [hAe]; exact Or.inr h
  have hS : va_S A s.heap s.heap [] := va_S.rf
  have hP : va_P D zz_cl (cw_ cy ga ad σ) s.heap := hP
  have hl := lv_entry ([.ref (ga 0)]) (n := 4) (Nat.le_of_ble_eq_true rfl)
  rw [lg_entry_eq]
  generalize (lg_sl ([.ref (ga 0)]) ++ List.replicate (4 - (lg_sl ([.ref (ga 0)])).length) Slot.unset).toArray = ls at hl ⊢
  have hl : lv_has ls 4 [(0, .ref (ga 0))] := hl
  obtain ⟨⟨j1, j2, j3, j4, j5, j6, j7, j8, j9, j10⟩, j11, j12, j13, j14, j15, j16, j17, j18, j19, j20, j21, j22, j23, j24⟩ := id hI
  have hiX2 : ∀ w ∈ wsX20, w ∈ wsX2_countOut := by decide +kernel
  have hf14 := hts (.fieldLink RX2 14 "SorterSteps" "items" "LSorterSteps$ItemRow;") (by decide +kernel)
  have hiX0 : ∀ w ∈ wsX00, w ∈ wsX2_countOut := by decide +kernel
  have hf123 := hts (.fieldLink RX2 123 "SorterSteps$Item" "state" "I") (by decide +kernel)
  refine lv_iconst (v := zz_i (0)) hx hb dX2_countOut_0 rfl ?_
  refine lv_istore_n (lv' := [(1, .int (zz_i (0))), (0, .ref (ga 0))]) hx hb dX2_countOut_1 rfl hl (by decide) rfl (fun ls hl => ?_)
  refine lv_iconst (v := zz_i (0)) hx hb dX2_countOut_2 rfl ?_
  refine lv_istore_n (lv' := [(2, .int (zz_i (0))), (1, .int (zz_i (0))), (0, .ref (ga 0))]) hx hb dX2_countOut_3 rfl hl (by decide) rfl (fun ls hl => ?_)
  refine zz_lp (α := Int × Int) (μ := fun z9 => (σ 4 0 - z9.1).toNat) (cf := fun _ => 0) (sf := fun _ => 0) (I := fun z9 H locs ls => (0 ≤ z9.1 ∧ z9.1 ≤ σ 4 0) ∧ (z9.2 = sm_ (f_ou σ) z9.1.toNat) ∧ va_P D zz_cl (cw_ cy ga ad σ) H ∧ va_D A (cw_ cy ga ad σ) ∧ va_S A s.heap H locs ∧ lv_has ls 4 [(0, .ref (ga 0)), (1, .int (zz_i (z9.2))), (2, .int (zz_i (z9.1)))]) ?_ (0, 0) _ _ _ ⟨(show 0 ≤ (0 : Int) ∧ (0 : Int) ≤ σ 4 0 from (by omega)), (show (0 : Int) = sm_ (f_ou σ) (0 : Int).toNat from rfl), hP, hD, hS, lv_sub hl [2, 1, 0] rfl⟩
  rintro ⟨j, a⟩ H locs ls ⟨v1, v2, hP, hD, hS, hl⟩ ih4
  have v1 : 0 ≤ j ∧ j ≤ σ 4 0 := v1
  have v2 : a = sm_ (f_ou σ) j.toNat := v2
  have hP : va_P D zz_cl (cw_ cy ga ad σ) H := hP
  have hD : va_D A (cw_ cy ga ad σ) := hD
  have hl : lv_has ls 4 [(0, .ref (ga 0)), (1, .int (zz_i (a))), (2, .int (zz_i (j)))] := hl
  have v3 := sm_b (f := f_ou σ) (f_ou_r σ) j.toNat
  have v4 := f_ou_b σ j
  refine lv_iload_n hx hb dX2_countOut_4 rfl (lv_at hl 2 rfl) ?_
  refine lv_aload_n hx hb dX2_countOut_5 rfl (lv_at hl 0 rfl) ?_
  refine va_get (D := D) (ci := 2) (v := .ref (ga 3)) (C := RX2) (T := TX2) (N := 10) hx hb hts hiX2 hown hK hP (0) rfl rfl 2 (by decide) hf14 (fun _ h9 => h9) rfl dX2_countOut_6 ?_
  refine zc_v (As := []) (rest := [.int (zz_i (j))]) (S := Unit) (pc := 9) ⟨hx, hb, hml, hown, hts⟩ (c_size_it l D cy ga ad σ _) (cwV 0 hts gX2_countOut_X1_size rfl rfl rfl (by decide +kernel) ⟨Nat.le_of_ble_eq_true rfl, Nat.le_of_ble_eq_true rfl⟩) hK hP hD hS hA hE (va_recv hK hP (ci := 1) (q0 := 3) rfl rfl) rfl hl.1 rfl (Nat.le_of_ble_eq_true rfl) dX2_countOut_9 ⟨Nat.le_of_ble_eq_true rfl, Nat.le_of_ble_eq_true rfl⟩ (fun _ H locs k1 hP hD hS => ?_)
  refine W.eq (g2 := F0 m 12 ls [.int (zz_i (σ 4 0)), .int (zz_i (j))]) rfl ?_
  refine zz_icmp_ge (tgt := 45) hx hb dX2_countOut_12 (by decide) (by omega) (by omega) (fun c2 => ?_) (fun c2 => ?_)
  · refine lv_iload_n hx hb dX2_countOut_45 rfl (lv_at hl 1 rfl) ?_
    have hv9 : sm_ (f_ou σ) (σ 4 0).toNat = a := by (have e : j = σ 4 0 := by omega); rw [v2, e]
    have hw9 : cw_ cy ga ad σ = cw_ cy ga ad σ := by rfl
    subst hAe
    exact W.iret (v := zz_i (a)) hx hb hr (fun t ht hW => ⟨congrArg (fun z => Outcome.returned (some (Value.int (zz_i z)))) hv9.symm, ⟨(), trivial, by rw [ht, hw9]; exact hP, va_K.moved hW.alike hK, by rw [hw9]; exact hD⟩, hS.F ht⟩) hS.2.2 dX2_countOut_46
  · refine lv_aload_n hx hb dX2_countOut_15 rfl (lv_at hl 0 rfl) ?_
    refine va_get (D := D) (ci := 2) (v := .ref (ga 3)) (C := RX2) (T := TX2) (N := 10) hx hb hts hiX2 hown hK hP (0) rfl rfl 2 (by decide) hf14 (fun _ h9 => h9) rfl dX2_countOut_16 ?_
    refine lv_iload_n hx hb dX2_countOut_19 rfl (lv_at hl 2 rfl) ?_
    refine zc_v (As := [.int (zz_i (j))]) (rest := []) (S := Unit) (pc := 20) ⟨hx, hb, hml, hown, hts⟩ (c_at_it l D cy ga ad σ _ hI.1 (j) (by omega)) (cwV 1 hts gX2_countOut_X1_at rfl rfl rfl (by decide +kernel) ⟨Nat.le_of_ble_eq_true rfl, Nat.le_of_ble_eq_true rfl⟩) hK hP hD hS hA hE (va_recv hK hP (ci := 1) (q0 := 3) rfl rfl) rfl hl.1 rfl (Nat.le_of_ble_eq_true rfl) dX2_countOut_20 ⟨Nat.le_of_ble_eq_true rfl, Nat.le_of_ble_eq_true rfl⟩ (fun _ H locs k3 hP hD hS => ?_)
    refine W.eq (g2 := F0 m 23 ls [va_rf (aq_ ad (sp_ai σ (j)))]) rfl ?_
    have b3_0 := sp_ai_b σ (j)
    rcases aq_or ad (sp_ai σ (j)) with ⟨c4, hv⟩ | ⟨c4, hv⟩
    · refine W.eq (g2 := F0 m 23 ls [.null]) (congrArg (fun z => F0 m 23 ls (z :: [])) hv) ?_
      refine lv_astore_nN (lv' := [(3, .null), (0, .ref (ga 0)), (1, .int (zz_i (a))), (2, .int (zz_i (j)))]) hx hb dX2_countOut_23 rfl hl (by decide) rfl (fun ls hl => ?_)
      refine lv_aload_nN hx hb dX2_countOut_24 rfl (lv_at hl 0 rfl) ?_
      refine lv_ifnullN (tgt := 39) hx hb dX2_countOut_25 (by decide) ?_
      refine lv_iinc (v := zz_i (j + 1)) (lv' := [(2, .int (zz_i (j + 1))), (3, .null), (0, .ref (ga 0)), (1, .int (zz_i (a)))]) hx hb dX2_countOut_39 hl (k := 3) rfl (zz_add _ _) (by decide) rfl (fun ls hl => ?_)
      refine lv_goto (tgt := 4) hx hb dX2_countOut_42 (by decide) ?_
      exact ih4 (j + 1, a) _ _ _ (show (σ 4 0 - (j + 1)).toNat < (σ 4 0 - j).toNat by omega) ⟨(show 0 ≤ (j + 1) ∧ (j + 1) ≤ σ 4 0 from (by omega)), (show a = sm_ (f_ou σ) (j + 1).toNat from (by rw [sm_s _ (show 0 ≤ j by omega)]; omega)), hP, hD, hS, lv_sub hl [2, 3, 0] rfl⟩
    · refine W.eq (g2 := F0 m 23 ls [.ref (ad (sp_ai σ (j)))]) (congrArg (fun z => F0 m 23 ls (z :: [])) hv) ?_
      have es : sp_ai σ (j) = j + 1 := by omega
      have hit := j13 (sp_ai σ (j)) (by omega) (by omega)
      have e13 : σ 13 (sp_ai σ (j)) = σ 13 (j + 1) := by rw [es]
      refine lv_astore_n (lv' := [(3, .ref (ad (sp_ai σ (j)))), (0, .ref (ga 0)), (1, .int (zz_i (a))), (2, .int (zz_i (j)))]) hx hb dX2_countOut_23 rfl hl (by decide) rfl (fun ls hl => ?_)
      refine lv_aload_n hx hb dX2_countOut_24 rfl (lv_at hl 0 rfl) ?_
      refine lv_ifnull hx hb dX2_countOut_25 ?_
      refine lv_aload_n hx hb dX2_countOut_28 rfl (lv_at hl 0 rfl) ?_
      refine va_get (D := D) (ci := 0) (v := .int (zz_i (σ 13 (sp_ai σ (j))))) (C := RX0) (T := TX0) (N := 12) hx hb hts hiX0 hown hK hP (9 + ((sp_ai σ (j)) - 1).toNat) (cw_it (show 1 ≤ sp_ai σ (j) ∧ sp_ai σ (j) ≤ σ 4 0 by omega)) rfl 2 (by decide) hf123 (fun _ h9 => h9) rfl dX2_countOut_29 ?_
      refine lv_iconst (v := zz_i (2)) hx hb dX2_countOut_32 rfl ?_
      refine zz_icmp_ne (tgt := 39) hx hb dX2_countOut_33 (by decide) (by omega) (by omega) (fun c5 => ?_) (fun c5 => ?_)
      · refine lv_iinc (v := zz_i (j + 1)) (lv' := [(2, .int (zz_i (j + 1))), (3, .ref (ad (sp_ai σ (j)))), (0, .ref (ga 0)), (1, .int (zz_i (a)))]) hx hb dX2_countOut_39 hl (k := 3) rfl (zz_add _ _) (by decide) rfl (fun ls hl => ?_)
        refine lv_goto (tgt := 4) hx hb dX2_countOut_42 (by decide) ?_
        exact ih4 (j + 1, a) _ _ _ (show (σ 4 0 - (j + 1)).toNat < (σ 4 0 - j).toNat by omega) ⟨(show 0 ≤ (j + 1) ∧ (j + 1) ≤ σ 4 0 from (by omega)), (show a = sm_ (f_ou σ) (j + 1).toNat from (by rw [sm_s _ (show 0 ≤ j by omega)]; omega)), hP, hD, hS, lv_sub hl [2, 3, 0] rfl⟩
      · refine lv_iinc (v := zz_i (a + 1)) (lv' := [(1, .int (zz_i (a + 1))), (3, .ref (ad (sp_ai σ (j)))), (0, .ref (ga 0)), (2, .int (zz_i (j)))]) hx hb dX2_countOut_36 hl (k := 2) rfl (zz_add _ _) (by decide) rfl (fun ls hl => ?_)
        refine lv_iinc (v := zz_i (j + 1)) (lv' := [(2, .int (zz_i (j + 1))), (1, .int (zz_i (a + 1))), (3, .ref (ad (sp_ai σ (j)))), (0, .ref (ga 0))]) hx hb dX2_countOut_39 hl (k := 3) rfl (zz_add _ _) (by decide) rfl (fun ls hl => ?_)
        refine lv_goto (tgt := 4) hx hb dX2_countOut_42 (by decide) ?_
        exact ih4 (j + 1, a + 1) _ _ _ (show (σ 4 0 - (j + 1)).toNat < (σ 4 0 - j).toNat by omega) ⟨(show 0 ≤ (j + 1) ∧ (j + 1) ≤ σ 4 0 from (by omega)), (show (a + 1) = sm_ (f_ou σ) (j + 1).toNat from (by rw [sm_s _ (show 0 ≤ j by omega)]; omega)), hP, hD, hS, lv_sub hl [3, 1, 0] rfl⟩

set_option maxHeartbeats 4000000 in
set_option maxRecDepth 100000 in
theorem c_countNotFound (l : Launch) (D : va_G) (cy ga : Nat → Nat) (ad : Int → Nat) (σ : zz_S) (sz : Nat) (hI : iw_ σ) (j15 : ∀ j, 0 ≤ j → j < σ 7 0 → 1 ≤ σ 27 j ∧ σ 27 j ≤ σ 4 0) (j20 : ∀ j, 0 ≤ j → j < σ 7 0 → σ 20 (σ 27 j) = 0 ∨ σ 20 (σ 27 j) = 1) : Met l yX2_countNotFound wsX2_countNotFound ({ frames := 1, cells := 0, slots := 0, locals := 21 }) (ct_P D cy [.ref (ga 0)] (cw_ cy ga ad σ) sz) (ct_Q D cy (cw_ cy ga ad σ) sz (some (.int (zz_i (sm_ (f_nf σ) (σ 7 0).toNat)))) (fun _ : Unit => True) (fun _ => cw_ cy ga ad σ)) 0 0 (va_A (cw_ cy ga ad σ) sz) := by
  refine Met.ofW (cc := cX2_countNotFound) (maxL := 4) (ret := (some .int)) (by decide) rfl ?_
  intro p e s m args below meth c s₁ B hml hv
  obtain ⟨rfl, rfl, hP, hK, hD0, hE⟩ := hv
  have hx := B.exec
  have hb := B.bytes
  have hr := B.returns
  have hts := atoms_spec (ws := wsX2_countNotFound) B.pre
  have hown : s.vm.findClass RX2 = some m.cls := findClass_of_methodNamed B.named
  have hlocks := B.notSynchronized
  have hD := hD0.self (sz := s.heap.size)
  obtain ⟨A, hAe⟩ : ∃ A, A = va_A (cw_ cy ga ad σ) s.heap.size := ⟨_, rfl⟩
  rw [← hAe] at hD hE
  have hA : ∀ q : Nat, s.heap.size ≤ q → A q := fun q h => by rw [hAe]; exact Or.inr h
  have hS : va_S A s.heap s.heap [] := va_S.rf
  have hP : va_P D zz_cl (cw_ cy ga ad σ) s.heap := hP
  have hl := lv_entry ([.ref (ga 0)]) (n := 4) (Nat.le_of_ble_eq_true rfl)
  rw [lg_entry_eq]
  generalize (lg_sl ([.ref (ga 0)]) ++ List.replicate (4 - (lg_sl ([.ref (ga 0)])).length) Slot.unset).toArray = ls at hl ⊢
  have hl : lv_has ls 4 [(0, .ref (ga 0))] := hl
  obtain ⟨j1, j2, j3, j4, j5, j6, j7, j8, j9, j10⟩ := id hI
  have hiX2 : ∀ w ∈ wsX20, w ∈ wsX2_countNotFound := by decide +kernel
  have hf21 := hts (.fieldLink RX2 21 "SorterSteps" "doubted" "LSorterSteps$ItemRow;") (by decide +kernel)
  have hiX0 : ∀ w ∈ wsX00, w ∈ wsX2_countNotFound := by decide +kernel
  have hf187 := hts (.fieldLink RX2 187 "SorterSteps$Item" "found" "Z") (by decide +kernel)
  refine lv_iconst (v := zz_i (0)) hx hb dX2_countNotFound_0 rfl ?_
  refine lv_istore_n (lv' := [(1, .int (zz_i (0))), (0, .ref (ga 0))]) hx hb dX2_countNotFound_1 rfl hl (by decide) rfl (fun ls hl => ?_)
  refine lv_iconst (v := zz_i (0)) hx hb dX2_countNotFound_2 rfl ?_
  refine lv_istore_n (lv' := [(2, .int (zz_i (0))), (1, .int (zz_i (0))), (0, .ref (ga 0))]) hx hb dX2_countNotFound_3 rfl hl (by decide) rfl (fun ls hl => ?_)
  refine zz_lp (α := Int × Int) (μ := fun z9 => (σ 7 0 - z9.1).toNat) (cf := fun _ => 0) (sf := fun _ => 0) (I := fun z9 H locs ls => (0 ≤ z9.1 ∧ z9.1 ≤ σ 7 0) ∧ (z9.2 = sm_ (f_nf σ) z9.1.toNat) ∧ va_P D zz_cl (cw_ cy ga ad σ) H ∧ va_D A (cw_ cy ga ad σ) ∧ va_S A s.heap H locs ∧ lv_has ls 4 [(0, .ref (ga 0)), (1, .int (zz_i (z9.2))), (2, .int (zz_i (z9.1)))]) ?_ (0, 0) _ _ _ ⟨(show 0 ≤ (0 : Int) ∧ (0 : Int) ≤ σ 7 0 from (by omega)), (show (0 : Int) = sm_ (f_nf σ) (0 : Int).toNat from rfl), hP, hD, hS, lv_sub hl [2, 1, 0] rfl⟩
  rintro ⟨j, a⟩ H locs ls ⟨v1, v2, hP, hD, hS, hl⟩ ih4
  have v1 : 0 ≤ j ∧ j ≤ σ 7 0 := v1
  have v2 : a = sm_ (f_nf σ) j.toNat := v2
  have hP : va_P D zz_cl (cw_ cy ga ad σ) H := hP
  have hD : va_D A (cw_ cy ga ad σ) := hD
  have hl : lv_has ls 4 [(0, .ref (ga 0)), (1, .int (zz_i (a))), (2, .int (zz_i (j)))] := hl
  have v3 := sm_b (f := f_nf σ) (f_nf_r σ) j.toNat
  have v4 := f_nf_b σ j
  refine lv_iload_n hx hb dX2_countNotFound_4 rfl (lv_at hl 2 rfl) ?_
  refine lv_aload_n hx hb dX2_countNotFound_5 rfl (lv_at hl 0 rfl) ?_
  refine va_get (D := D) (ci := 2) (v := .ref (ga 5)) (C := RX2) (T := TX2) (N := 10) hx hb hts hiX2 hown hK hP (0) rfl rfl 4 (by decide) hf21 (fun _ h9 => h9) rfl dX2_countNotFound_6 ?_
  refine zc_v (As := []) (rest := [.int (zz_i (j))]) (S := Unit) (pc := 9) ⟨hx, hb, hml, hown, hts⟩ (c_size_db l D cy ga ad σ _) (cwV 0 hts gX2_countNotFound_X1_size rfl rfl rfl (by decide +kernel) ⟨Nat.le_of_ble_eq_true rfl, Nat.le_of_ble_eq_true rfl⟩) hK hP hD hS hA hE (va_recv hK hP (ci := 1) (q0 := 5) rfl rfl) rfl hl.1 rfl (Nat.le_of_ble_eq_true rfl) dX2_countNotFound_9 ⟨Nat.le_of_ble_eq_true rfl, Nat.le_of_ble_eq_true rfl⟩ (fun _ H locs k1 hP hD hS => ?_)
  refine W.eq (g2 := F0 m 12 ls [.int (zz_i (σ 7 0)), .int (zz_i (j))]) rfl ?_
  refine zz_icmp_ge (tgt := 44) hx hb dX2_countNotFound_12 (by decide) (by omega) (by omega) (fun c2 => ?_) (fun c2 => ?_)
  · refine lv_iload_n hx hb dX2_countNotFound_44 rfl (lv_at hl 1 rfl) ?_
    have hv9 : sm_ (f_nf σ) (σ 7 0).toNat = a := by (have e : j = σ 7 0 := by omega); rw [v2, e]
    have hw9 : cw_ cy ga ad σ = cw_ cy ga ad σ := by rfl
    subst hAe
    exact W.iret (v := zz_i (a)) hx hb hr (fun t ht hW => ⟨congrArg (fun z => Outcome.returned (some (Value.int (zz_i z)))) hv9.symm, ⟨(), trivial, by rw [ht, hw9]; exact hP, va_K.moved hW.alike hK, by rw [hw9]; exact hD⟩, hS.F ht⟩) hS.2.2 dX2_countNotFound_45
  · refine lv_aload_n hx hb dX2_countNotFound_15 rfl (lv_at hl 0 rfl) ?_
    refine va_get (D := D) (ci := 2) (v := .ref (ga 5)) (C := RX2) (T := TX2) (N := 10) hx hb hts hiX2 hown hK hP (0) rfl rfl 4 (by decide) hf21 (fun _ h9 => h9) rfl dX2_countNotFound_16 ?_
    refine lv_iload_n hx hb dX2_countNotFound_19 rfl (lv_at hl 2 rfl) ?_
    refine zc_v (As := [.int (zz_i (j))]) (rest := []) (S := Unit) (pc := 20) ⟨hx, hb, hml, hown, hts⟩ (c_at_db l D cy ga ad σ _ hI (j) (by omega)) (cwV 1 hts gX2_countNotFound_X1_at rfl rfl rfl (by decide +kernel) ⟨Nat.le_of_ble_eq_true rfl, Nat.le_of_ble_eq_true rfl⟩) hK hP hD hS hA hE (va_recv hK hP (ci := 1) (q0 := 5) rfl rfl) rfl hl.1 rfl (Nat.le_of_ble_eq_true rfl) dX2_countNotFound_20 ⟨Nat.le_of_ble_eq_true rfl, Nat.le_of_ble_eq_true rfl⟩ (fun _ H locs k3 hP hD hS => ?_)
    refine W.eq (g2 := F0 m 23 ls [va_rf (aq_ ad (sp_ad σ (j)))]) rfl ?_
    have b3_0 := sp_ad_b σ (j)
    rcases aq_or ad (sp_ad σ (j)) with ⟨c4, hv⟩ | ⟨c4, hv⟩
    · refine W.eq (g2 := F0 m 23 ls [.null]) (congrArg (fun z => F0 m 23 ls (z :: [])) hv) ?_
      have h15 := j15 j (by omega) (by omega)
      refine lv_astore_nN (lv' := [(3, .null), (0, .ref (ga 0)), (1, .int (zz_i (a))), (2, .int (zz_i (j)))]) hx hb dX2_countNotFound_23 rfl hl (by decide) rfl (fun ls hl => ?_)
      refine lv_aload_nN hx hb dX2_countNotFound_24 rfl (lv_at hl 0 rfl) ?_
      refine lv_ifnullN (tgt := 38) hx hb dX2_countNotFound_25 (by decide) ?_
      refine lv_iinc (v := zz_i (j + 1)) (lv' := [(2, .int (zz_i (j + 1))), (3, .null), (0, .ref (ga 0)), (1, .int (zz_i (a)))]) hx hb dX2_countNotFound_38 hl (k := 3) rfl (zz_add _ _) (by decide) rfl (fun ls hl => ?_)
      refine lv_goto (tgt := 4) hx hb dX2_countNotFound_41 (by decide) ?_
      exact ih4 (j + 1, a) _ _ _ (show (σ 7 0 - (j + 1)).toNat < (σ 7 0 - j).toNat by omega) ⟨(show 0 ≤ (j + 1) ∧ (j + 1) ≤ σ 7 0 from (by omega)), (show a = sm_ (f_nf σ) (j + 1).toNat from (by rw [sm_s _ (show 0 ≤ j by omega)]; omega)), hP, hD, hS, lv_sub hl [2, 3, 0] rfl⟩
    · refine W.eq (g2 := F0 m 23 ls [.ref (ad (sp_ad σ (j)))]) (congrArg (fun z => F0 m 23 ls (z :: [])) hv) ?_
      have h15 := j15 j (by omega) (by omega)
      have es : sp_ad σ (j) = σ 27 j := by omega
      have hit := j20 j (by omega) (by omega)
      have e20 : σ 20 (sp_ad σ (j)) = σ 20 (σ 27 j) := by rw [es]
      refine lv_astore_n (lv' := [(3, .ref (ad (sp_ad σ (j)))), (0, .ref (ga 0)), (1, .int (zz_i (a))), (2, .int (zz_i (j)))]) hx hb dX2_countNotFound_23 rfl hl (by decide) rfl (fun ls hl => ?_)
      refine lv_aload_n hx hb dX2_countNotFound_24 rfl (lv_at hl 0 rfl) ?_
      refine lv_ifnull hx hb dX2_countNotFound_25 ?_
      refine lv_aload_n hx hb dX2_countNotFound_28 rfl (lv_at hl 0 rfl) ?_
      refine va_get (D := D) (ci := 0) (v := .int (zz_i (σ 20 (sp_ad σ (j))))) (C := RX0) (T := TX0) (N := 12) hx hb hts hiX0 hown hK hP (9 + ((sp_ad σ (j)) - 1).toNat) (cw_it (show 1 ≤ sp_ad σ (j) ∧ sp_ad σ (j) ≤ σ 4 0 by omega)) rfl 9 (by decide) hf187 (fun _ h9 => h9) rfl dX2_countNotFound_29 ?_
      refine zz_if_ne (tgt := 38) hx hb dX2_countNotFound_32 (by decide) (by omega) (fun c5 => ?_) (fun c5 => ?_)
      · refine lv_iinc (v := zz_i (j + 1)) (lv' := [(2, .int (zz_i (j + 1))), (3, .ref (ad (sp_ad σ (j)))), (0, .ref (ga 0)), (1, .int (zz_i (a)))]) hx hb dX2_countNotFound_38 hl (k := 3) rfl (zz_add _ _) (by decide) rfl (fun ls hl => ?_)
        refine lv_goto (tgt := 4) hx hb dX2_countNotFound_41 (by decide) ?_
        exact ih4 (j + 1, a) _ _ _ (show (σ 7 0 - (j + 1)).toNat < (σ 7 0 - j).toNat by omega) ⟨(show 0 ≤ (j + 1) ∧ (j + 1) ≤ σ 7 0 from (by omega)), (show a = sm_ (f_nf σ) (j + 1).toNat from (by rw [sm_s _ (show 0 ≤ j by omega)]; omega)), hP, hD, hS, lv_sub hl [2, 3, 0] rfl⟩
      · refine lv_iinc (v := zz_i (a + 1)) (lv' := [(1, .int (zz_i (a + 1))), (3, .ref (ad (sp_ad σ (j)))), (0, .ref (ga 0)), (2, .int (zz_i (j)))]) hx hb dX2_countNotFound_35 hl (k := 2) rfl (zz_add _ _) (by decide) rfl (fun ls hl => ?_)
        refine lv_iinc (v := zz_i (j + 1)) (lv' := [(2, .int (zz_i (j + 1))), (1, .int (zz_i (a + 1))), (3, .ref (ad (sp_ad σ (j)))), (0, .ref (ga 0))]) hx hb dX2_countNotFound_38 hl (k := 3) rfl (zz_add _ _) (by decide) rfl (fun ls hl => ?_)
        refine lv_goto (tgt := 4) hx hb dX2_countNotFound_41 (by decide) ?_
        exact ih4 (j + 1, a + 1) _ _ _ (show (σ 7 0 - (j + 1)).toNat < (σ 7 0 - j).toNat by omega) ⟨(show 0 ≤ (j + 1) ∧ (j + 1) ≤ σ 7 0 from (by omega)), (show (a + 1) = sm_ (f_nf σ) (j + 1).toNat from (by rw [sm_s _ (show 0 ≤ j by omega)]; omega)), hP, hD, hS, lv_sub hl [3, 1, 0] rfl⟩
end
