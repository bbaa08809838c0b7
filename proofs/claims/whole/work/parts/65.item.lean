/-! the call item: a new cell comes to the world -/
section IT
def ad_n (ad : Int → Nat) (n : Int) (q : Nat) : Int → Nat := fun i => if i = n then q else ad i
theorem ad_s (ad : Int → Nat) (n : Int) (q : Nat) : ad_n ad n q n = q := if_pos rfl
theorem ad_o {ad : Int → Nat} {n : Int} {q : Nat} {i : Int} (h : i ≠ n) : ad_n ad n q i = ad i := if_neg h
theorem aq_o {ad : Int → Nat} {n : Int} {q : Nat} {i : Int} (h : i ≠ n) : aq_ (ad_n ad n q) i = aq_ ad i := by
  unfold aq_; rw [ad_o h]
theorem cw_ln (cy ga : Nat → Nat) (ad : Int → Nat) (σ : zz_S) : (cw_ cy ga ad σ).length = 9 + (σ 4 0).toNat := by
  unfold cw_; rw [List.length_append, cw_len]; simp [it_w]
theorem cw_lst (cy ga : Nat → Nat) (ad : Int → Nat) (σ : zz_S) (c : Nat × va_E) : (cw_ cy ga ad σ ++ [c])[9 + (σ 4 0).toNat]? = some c := by
  rw [List.getElem?_append_right (by rw [cw_ln]; exact Nat.le_refl _), cw_ln, Nat.sub_self]; rfl
theorem it_nw {ad : Int → Nat} {σ : zz_S} {x : Int} {q : Nat} (h4 : 0 ≤ σ 4 0) : it_w (ad_n ad (σ 4 0 + 1) q) (s_item σ x) = it_w ad σ ++ [(q, .inr (0, it_v (s_item σ x) (σ 4 0 + 1)))] := by
  have e4 : (s_item σ x 4 0).toNat = (σ 4 0).toNat + 1 := by
    show (σ 4 0 + 1).toNat = _
    omega
  unfold it_w
  rw [e4, List.range_succ, List.map_append]
  have e5 : (((σ 4 0).toNat : Nat) : Int) + 1 = σ 4 0 + 1 := by omega
  refine congr (congrArg _ (List.map_congr_left (fun j hj => ?_))) ?_
  · have hj2 : j < (σ 4 0).toNat := List.mem_range.mp hj
    rw [ad_o (show ((j : Int) + 1) ≠ σ 4 0 + 1 by omega)]
    have e6 : it_v (s_item σ x) ((j : Int) + 1) = it_v σ ((j : Int) + 1) := by
      show [_, _, _, _, _, _, _, _, _, _, _, _] = _
      have e7 : s_item σ x 12 ((j : Int) + 1) = σ 12 ((j : Int) + 1) := up_i_n (show ((j : Int) + 1) ≠ σ 4 0 + 1 by omega)
      rw [e7]; rfl
    rw [e6]
  · rw [List.map_cons, List.map_nil, e5, ad_s]
theorem cw_nw {cy ga : Nat → Nat} {ad : Int → Nat} {σ : zz_S} {x : Int} {q : Nat} (hI : iv_ σ) :
    (((cw_ cy ga ad σ ++ [(q, .inr (0, it_v (s_item σ x) (σ 4 0 + 1)))] : va_W)).set 6 (ga 6, .inl (cy 2, 60, .inr (.inr (.inr (.inr (va_up (fun j : Nat => if (j : Int) < σ 4 0 then some (ad ((j : Int) + 1)) else none) (zz_i (σ 4 0)).toNatClampNeg (some q)))))))).set 3 (ga 3, .inr (1, [.ref (ga 6), .int (zz_i (σ 4 0 + 1))])) = cw_ cy ga (ad_n ad (σ 4 0 + 1) q) (s_item σ x) := by
  obtain ⟨⟨-, -, -, -, h4, -⟩, j11, -, -, -, -, -, -, -, -, -, -, j22, j23, -⟩ := id hI
  have f1 : (fun j : Nat => aq_ (ad_n ad (σ 4 0 + 1) q) (s_item σ x 10 j)) = (fun j : Nat => aq_ ad (σ 10 j)) := by
    funext j; exact aq_o (show σ 10 j ≠ σ 4 0 + 1 by have := j11 j; omega)
  have f2 : (fun j : Nat => aq_ (ad_n ad (σ 4 0 + 1) q) (s_item σ x 23 j)) = (fun j : Nat => aq_ ad (σ 23 j)) := by
    funext j; exact aq_o (show σ 23 j ≠ σ 4 0 + 1 by have := j22 j; omega)
  have f3 : (fun j : Nat => aq_ (ad_n ad (σ 4 0 + 1) q) (s_item σ x 27 j)) = (fun j : Nat => aq_ ad (σ 27 j)) := by
    funext j; exact aq_o (show σ 27 j ≠ σ 4 0 + 1 by have := j23 j; omega)
  have f4 : (fun j : Nat => if (j : Int) < s_item σ x 4 0 then some (ad_n ad (σ 4 0 + 1) q ((j : Int) + 1)) else none) = va_up (fun j : Nat => if (j : Int) < σ 4 0 then some (ad ((j : Int) + 1)) else none) (zz_i (σ 4 0)).toNatClampNeg (some q) := by
    funext j
    have e4 : s_item σ x 4 0 = σ 4 0 + 1 := rfl
    rw [zz_nat (by omega), e4]
    simp only [va_up]
    by_cases hj : j = (σ 4 0).toNat
    · rw [if_pos hj, if_pos (show (j : Int) < σ 4 0 + 1 by omega), show ((j : Int) + 1) = σ 4 0 + 1 by omega, ad_s]
    · rw [if_neg hj]
      by_cases hk : (j : Int) < σ 4 0
      · rw [if_pos hk, if_pos (show (j : Int) < σ 4 0 + 1 by omega), ad_o (by omega)]
      · rw [if_neg hk, if_neg (show ¬ (j : Int) < σ 4 0 + 1 by omega)]
  have e1 : cw_x cy ga (ad_n ad (σ 4 0 + 1) q) (s_item σ x) = ((cw_x cy ga ad σ).set 6 (ga 6, .inl (cy 2, 60, .inr (.inr (.inr (.inr (va_up (fun j : Nat => if (j : Int) < σ 4 0 then some (ad ((j : Int) + 1)) else none) (zz_i (σ 4 0)).toNatClampNeg (some q)))))))).set 3 (ga 3, .inr (1, [.ref (ga 6), .int (zz_i (σ 4 0 + 1))])) := by
    unfold cw_x
    rw [f1, f2, f3, f4]
    rfl
  unfold cw_
  rw [e1, it_nw h4.1]
  rfl
set_option maxHeartbeats 4000000 in
set_option maxRecDepth 100000 in
theorem c_add_it (l : Launch) (D : va_G) (cy ga : Nat → Nat) (ad : Int → Nat) (σ : zz_S) (sz : Nat) (hI : iv_ σ) (x : Int) (q : Nat) (hf : σ 4 0 < 60) : Met l yX1_add wsX1_add ({ frames := 1, cells := 0, slots := 0, locals := 20 }) (ct_P D cy [.ref (ga 3), .ref q] (cw_ cy ga ad σ ++ [(q, .inr (0, it_v (s_item σ x) (σ 4 0 + 1)))]) sz) (ct_Q D cy (cw_ cy ga ad σ ++ [(q, .inr (0, it_v (s_item σ x) (σ 4 0 + 1)))]) sz none (fun _ : Unit => True) (fun _ => cw_ cy ga (ad_n ad (σ 4 0 + 1) q) (s_item σ x))) 0 0 (va_A (cw_ cy ga ad σ ++ [(q, .inr (0, it_v (s_item σ x) (σ 4 0 + 1)))]) sz) := by
  refine Met.ofW (cc := cX1_add) (maxL := 2) (ret := none) (by decide) rfl ?_
  intro p e s m args below meth c s₁ B hml hv
  obtain ⟨rfl, rfl, hP, hK, hD0, hE⟩ := hv
  have hx := B.exec
  have hb := B.bytes
  have hr := B.returns
  have hts := atoms_spec (ws := wsX1_add) B.pre
  have hown : s.vm.findClass RX1 = some m.cls := findClass_of_methodNamed B.named
  have hlocks := B.notSynchronized
  have hD := hD0.self (sz := s.heap.size)
  obtain ⟨A, hAe⟩ : ∃ A, A = va_A (cw_ cy ga ad σ ++ [(q, .inr (0, it_v (s_item σ x) (σ 4 0 + 1)))]) s.heap.size := ⟨_, rfl⟩
  rw [← hAe] at hD hE
  have hA : ∀ q : Nat, s.heap.size ≤ q → A q := fun q h => by rw [hAe]; exact Or.inr h
  have hS : va_S A s.heap s.heap [] := va_S.rf
  have hP : va_P D zz_cl (cw_ cy ga ad σ ++ [(q, .inr (0, it_v (s_item σ x) (σ 4 0 + 1)))]) s.heap := hP
  have hl := lv_entry ([.ref (ga 3), .ref q]) (n := 2) (Nat.le_of_ble_eq_true rfl)
  rw [lg_entry_eq]
  generalize (lg_sl ([.ref (ga 3), .ref q]) ++ List.replicate (2 - (lg_sl ([.ref (ga 3), .ref q])).length) Slot.unset).toArray = ls at hl ⊢
  have hl : lv_has ls 2 [(0, .ref (ga 3)), (1, .ref q)] := hl
  obtain ⟨j1, j2, j3, j4, j5, j6, j7, j8, j9, j10⟩ := id hI.1
  have hiX1 : ∀ w ∈ wsX10, w ∈ wsX1_add := by decide +kernel
  have hf15 := hts (.fieldLink RX1 15 "SorterSteps$ItemRow" "places" "[LSorterSteps$Item;") (by decide +kernel)
  have hf21 := hts (.fieldLink RX1 21 "SorterSteps$ItemRow" "size" "I") (by decide +kernel)
  refine lv_aload_n hx hb dX1_add_0 rfl (lv_at hl 0 rfl) ?_
  refine zf_v (wc := cw_ cy ga ad σ) (wr := [(q, .inr (0, it_v (s_item σ x) (σ 4 0 + 1)))]) (As := []) (rest := []) (S := Unit) (pc := 1) ⟨hx, hb, hml, hown, hts⟩ (c_filled_it l D cy ga ad σ _ hI.1) (cwV 0 hts gX1_add_X1_isFilled rfl rfl rfl (by decide +kernel) ⟨(Nat.le_of_ble_eq_true rfl), (Nat.le_of_ble_eq_true rfl)⟩) hK hP hD hS hA hE (va_recv hK hP (ci := 1) (q0 := 3) rfl rfl) rfl hl.1 rfl (Nat.le_of_ble_eq_true rfl) dX1_add_1 ⟨(Nat.le_of_ble_eq_true rfl), (Nat.le_of_ble_eq_true rfl)⟩ (fun _ H locs k1 hP hD hS => ?_)
  refine W.eq (g2 := F0 m 4 ls [.int (zz_i (sp_fl σ 4 60))]) rfl ?_
  have b1_0 := sp_fl_b σ 4 60
  refine zz_if_ne (tgt := 27) hx hb dX1_add_4 (by decide) (by omega) (fun c2 => ?_) (fun c2 => ?_)
  · exact absurd c2 (by omega)
  · refine lv_aload_n hx hb dX1_add_7 rfl (lv_at hl 0 rfl) ?_
    refine va_get (D := D) (ci := 1) (v := .ref (ga 6)) (C := RX1) (T := TX1) (N := 2) hx hb hts hiX1 hown hK hP (3) rfl rfl 0 (by decide) hf15 (fun _ h9 => h9) rfl dX1_add_8 ?_
    refine lv_aload_n hx hb dX1_add_11 rfl (lv_at hl 0 rfl) ?_
    refine va_get (D := D) (ci := 1) (v := .int (zz_i (σ 4 0))) (C := RX1) (T := TX1) (N := 2) hx hb hts hiX1 hown hK hP (3) rfl rfl 1 (by decide) hf21 (fun _ h9 => h9) rfl dX1_add_12 ?_
    refine lv_aload_n hx hb dX1_add_15 rfl (lv_at hl 1 rfl) ?_
    refine va_astq hx hb hK hP hD hS 6 2 (9 + (σ 4 0).toNat) 0 rfl rfl (cw_lst cy ga ad σ _) rfl (zz_in (n := 60) (show 0 ≤ σ 4 0 ∧ σ 4 0 < ((60 : Nat) : Int) by omega) (by omega)) dX1_add_16 (fun H locs hP hD hS => ?_)
    refine lv_aload_n hx hb dX1_add_17 rfl (lv_at hl 0 rfl) ?_
    refine lv_dup hx hb dX1_add_18 rfl ?_
    refine va_get (D := D) (ci := 1) (v := .int (zz_i (σ 4 0))) (C := RX1) (T := TX1) (N := 2) hx hb hts hiX1 hown hK hP (3) rfl rfl 1 (by decide) hf21 (fun _ h9 => h9) rfl dX1_add_19 ?_
    refine lv_iconst (v := zz_i (1)) hx hb dX1_add_22 rfl ?_
    refine zz_iadd hx hb dX1_add_23 ?_
    refine va_put (D := D) (ci := 1) (v := .int (zz_i ((σ 4 0) + 1))) (ty := .int) (C := RX1) (T := TX1) (N := 2) hx hb hts hiX1 tyX1 tyX1_ok nmX1 hown hK hP hD hS (3) rfl rfl 1 (by decide) hf21 (fun _ h9 => h9) rfl (by decide +kernel) rfl rfl (Nat.le_of_ble_eq_true rfl) dX1_add_24 (fun H locs hP hD hS => ?_)
    have hw9 := cw_nw (cy := cy) (ga := ga) (ad := ad) (x := x) (q := q) hI
    have hP : va_P D zz_cl (cw_ cy ga (ad_n ad (σ 4 0 + 1) q) (s_item σ x)) H := by rw [← hw9]; exact hP
    have hD : va_D A (cw_ cy ga (ad_n ad (σ 4 0 + 1) q) (s_item σ x)) := by rw [← hw9]; exact hD
    subst hAe
    exact W.vret hx hb hr (fun t ht hW => ⟨rfl, ⟨(), trivial, by rw [ht]; exact hP, va_K.moved hW.alike hK, hD⟩, hS.F ht⟩) hS.2.2 dX1_add_27
theorem it_v0 {σ : zz_S} {x : Int} (hI : iv_ σ) : [.int (zz_i (σ 4 0 + 1)), .int (zz_i x), .int (zz_i 0), .int (zz_i 0), .int (zz_i 0), .int (zz_i (-1)), .int (zz_i 0), .int (zz_i 0), .int (zz_i 0), .int (zz_i 0), .int (zz_i 0), .int (zz_i 0)] = it_v (s_item σ x) (σ 4 0 + 1) := by
  obtain ⟨-, -, -, -, -, -, j16, -⟩ := id hI
  obtain ⟨a1, a2, a3, a4, a5, a6, a7, a8, a9, a10⟩ := j16 (σ 4 0 + 1) (by omega)
  show _ = [_, _, _, _, _, _, _, _, _, _, _, _]
  have e7 : s_item σ x 12 (σ 4 0 + 1) = x := up_i_s (σ 12) (σ 4 0 + 1) x
  have b1 : s_item σ x 13 (σ 4 0 + 1) = 0 := a1
  have b2 : s_item σ x 14 (σ 4 0 + 1) = 0 := a2
  have b3 : s_item σ x 15 (σ 4 0 + 1) = 0 := a3
  have b4 : s_item σ x 16 (σ 4 0 + 1) = 0 := a4
  have b5 : s_item σ x 17 (σ 4 0 + 1) = 0 := a5
  have b6 : s_item σ x 18 (σ 4 0 + 1) = -1 := a6
  have b7 : s_item σ x 19 (σ 4 0 + 1) = 0 := a7
  have b8 : s_item σ x 20 (σ 4 0 + 1) = 0 := a8
  have b9 : s_item σ x 21 (σ 4 0 + 1) = 0 := a9
  have b10 : s_item σ x 22 (σ 4 0 + 1) = 0 := a10
  rw [e7, b1, b2, b3, b4, b5, b6, b7, b8, b9, b10]
set_option maxHeartbeats 4000000 in
set_option maxRecDepth 100000 in
theorem c_item (l : Launch) (hl9 : l.stackTraces = false) (D : va_G) (cy ga : Nat → Nat) (ad : Int → Nat) (σ : zz_S) (sz : Nat) (hI : iv_ σ) (x : Int) (q_x : (-2147483648 ≤ x ∧ x < 2147483648)) : vx_Met l yX2_item wsX2_item ({ frames := 7, cells := 2, slots := 18, locals := 140 }) (ct_P D cy [.ref (ga 0), .int (zz_i x)] (cw_ cy ga ad σ) sz) (ct_Q D cy (cw_ cy ga ad σ) sz (some (.int (zz_i (σ 4 0 + 1)))) (fun _ : Nat => k_item σ x = 0) (fun q => cw_ cy ga (ad_n ad (σ 4 0 + 1) q) (s_item σ x))) (ct_X D cy (cw_ cy ga ad σ) sz (k_item σ x ≠ 0) (ex_u (k_item σ x))) 2 18 (va_A (cw_ cy ga ad σ) sz) := by
  refine vx_ofW (cc := cX2_item) (maxL := 3) (ret := (some .int)) (by decide) rfl ?_
  intro p e s m args below meth c s₁ B hml htb hv
  obtain ⟨rfl, rfl, hP, hK, hD0, hE⟩ := hv
  have hx := B.exec
  have hb := B.bytes
  have hr := B.returns
  have hts := atoms_spec (ws := wsX2_item) B.pre
  have hown : s.vm.findClass RX2 = some m.cls := findClass_of_methodNamed B.named
  have hlocks := B.notSynchronized
  have hD := hD0.self (sz := s.heap.size)
  obtain ⟨A, hAe⟩ : ∃ A, A = va_A (cw_ cy ga ad σ) s.heap.size := ⟨_, rfl⟩
  rw [← hAe] at hD hE
  have hA : ∀ q : Nat, s.heap.size ≤ q → A q := fun q h => by rw [hAe]; exact Or.inr h
  have hS : va_S A s.heap s.heap [] := va_S.rf
  have hP : va_P D zz_cl (cw_ cy ga ad σ) s.heap := hP
  have hl := lv_entry ([.ref (ga 0), .int (zz_i x)]) (n := 3) (Nat.le_of_ble_eq_true rfl)
  rw [lg_entry_eq]
  generalize (lg_sl ([.ref (ga 0), .int (zz_i x)]) ++ List.replicate (3 - (lg_sl ([.ref (ga 0), .int (zz_i x)])).length) Slot.unset).toArray = ls at hl ⊢
  have hl : lv_has ls 3 [(0, .ref (ga 0)), (1, .int (zz_i x))] := hl
  obtain ⟨j1, j2, j3, j4, j5, j6, j7, j8, j9, j10⟩ := id hI.1
  have hiX0 : ∀ w ∈ wsX00, w ∈ wsX2_item := by decide +kernel
  have hiX2 : ∀ w ∈ wsX20, w ∈ wsX2_item := by decide +kernel
  have hf14 := hts (.fieldLink RX2 14 "SorterSteps" "items" "LSorterSteps$ItemRow;") (by decide +kernel)
  have hf75 := hts (.fieldLink RX2 75 "SorterSteps$Item" "number" "I") (by decide +kernel)
  have haUOE := at_UOE (Ts := wsX2_item) hts (by decide +kernel) hE
  refine lv_aload_n hx hb dX2_item_0 rfl (lv_at hl 0 rfl) ?_
  refine lv_iload_n hx hb dX2_item_1 rfl (lv_at hl 1 rfl) ?_
  refine zc_x (As := [.int (zz_i x)]) (rest := []) (S := Unit) (pc := 2) ⟨hx, hb, hml, hown, hts⟩ (c_requireLength l hl9 D cy ga ad σ _ x (by omega)) (cwV 1 hts gX2_item_X2_requireLength rfl rfl rfl (by decide +kernel) ⟨(Nat.le_of_ble_eq_true rfl), (Nat.le_of_ble_eq_true rfl)⟩) hK hP hD hS hA hE (va_recv hK hP (ci := 2) (q0 := 0) rfl rfl) rfl hl.1 rfl (Nat.le_of_ble_eq_true rfl) dX2_item_2 ⟨(Nat.le_of_ble_eq_true rfl), (Nat.le_of_ble_eq_true rfl)⟩ (fun k1 ce q9 H locs hP hD hS hce hcv hcl => ?_) (fun _ H locs k1 hP hD hS => ?_)
  · have hk9 : k_item σ x = 1 := by unfold k_item; rw [if_pos (by omega)]
    rw [show ex_u (k_item σ x) = "java/lang/IllegalArgumentException" from by rw [hk9]; rfl]
    exact th_out (E := "java/lang/IllegalArgumentException") hAe htb hlocks hK hP hD hS hce hcv hcl (by rw [hk9]; decide) (Nat.le_of_ble_eq_true rfl) (Nat.le_of_ble_eq_true rfl)
  · refine W.eq (g2 := F0 m 5 ls []) rfl ?_
    refine lv_aload_n hx hb dX2_item_5 rfl (lv_at hl 0 rfl) ?_
    refine va_get (D := D) (ci := 2) (v := .ref (ga 3)) (C := RX2) (T := TX2) (N := 10) hx hb hts hiX2 hown hK hP (0) rfl rfl 2 (by decide) hf14 (fun _ h9 => h9) rfl dX2_item_6 ?_
    refine zc_v (As := []) (rest := []) (S := Unit) (pc := 9) ⟨hx, hb, hml, hown, hts⟩ (c_filled_it l D cy ga ad σ _ hI.1) (cwV 0 hts gX2_item_X1_isFilled rfl rfl rfl (by decide +kernel) ⟨(Nat.le_of_ble_eq_true rfl), (Nat.le_of_ble_eq_true rfl)⟩) hK hP hD hS hA hE (va_recv hK hP (ci := 1) (q0 := 3) rfl rfl) rfl hl.1 rfl (Nat.le_of_ble_eq_true rfl) dX2_item_9 ⟨(Nat.le_of_ble_eq_true rfl), (Nat.le_of_ble_eq_true rfl)⟩ (fun _ H locs k2 hP hD hS => ?_)
    refine W.eq (g2 := F0 m 12 ls [.int (zz_i (sp_fl σ 4 60))]) rfl ?_
    have b1_0 := sp_fl_b σ 4 60
    refine zz_if_eq (tgt := 25) hx hb dX2_item_12 (by decide) (by omega) (fun c2 => ?_) (fun c2 => ?_)
    · have hk9 : k_item σ x = 0 := by unfold k_item; rw [if_neg (by omega), if_neg (by omega)]
      refine va_new (ci := 0) (fs := [.int (zz_i 0), .int (zz_i 0), .int (zz_i 0), .int (zz_i 0), .int (zz_i 0), .int (zz_i 0), .int (zz_i 0), .int (zz_i 0), .int (zz_i 0), .int (zz_i 0), .int (zz_i 0), .int (zz_i 0)]) (C := RX0) (T := TX0) (N := 12) hx hb hts hiX0 tyX0 tyX0_ok hown (hts (.classLink RX2 37 RX0) (by decide +kernel)) (hts (.instantiable RX0 12) (by decide +kernel)) (hts (.initialized RX0) (by decide +kernel)) hK hP hD hS hA rfl (fun j hj => by rcases (show j = 0 ∨ j = 1 ∨ j = 2 ∨ j = 3 ∨ j = 4 ∨ j = 5 ∨ j = 6 ∨ j = 7 ∨ j = 8 ∨ j = 9 ∨ j = 10 ∨ j = 11 by omega) with rfl | rfl | rfl | rfl | rfl | rfl | rfl | rfl | rfl | rfl | rfl | rfl <;> rfl) (Nat.le_of_ble_eq_true rfl) (Nat.le_of_ble_eq_true rfl) dX2_item_25 (fun q H hP hD hS => ?_)
      refine lv_dup hx hb dX2_item_28 rfl ?_
      refine lv_aload_n hx hb dX2_item_29 rfl (lv_at hl 0 rfl) ?_
      refine va_get (D := D) (ci := 2) (v := .ref (ga 3)) (C := RX2) (T := TX2) (N := 10) hx hb hts hiX2 hown hK hP (0) rfl rfl 2 (by decide) hf14 (fun _ h9 => h9) rfl dX2_item_30 ?_
      refine zf_v (wc := cw_ cy ga ad σ) (wr := [(q, .inr (0, [.int (zz_i 0), .int (zz_i 0), .int (zz_i 0), .int (zz_i 0), .int (zz_i 0), .int (zz_i 0), .int (zz_i 0), .int (zz_i 0), .int (zz_i 0), .int (zz_i 0), .int (zz_i 0), .int (zz_i 0)]))]) (As := []) (rest := [.ref q, .ref q]) (S := Unit) (pc := 33) ⟨hx, hb, hml, hown, hts⟩ (c_size_it l D cy ga ad σ _) (cwV 0 hts gX2_item_X1_size rfl rfl rfl (by decide +kernel) ⟨(Nat.le_of_ble_eq_true rfl), (Nat.le_of_ble_eq_true rfl)⟩) hK hP hD hS hA hE (va_recv hK hP (ci := 1) (q0 := 3) rfl rfl) rfl hl.1 rfl (Nat.le_of_ble_eq_true rfl) dX2_item_33 ⟨(Nat.le_of_ble_eq_true rfl), (Nat.le_of_ble_eq_true rfl)⟩ (fun _ H locs k3 hP hD hS => ?_)
      refine W.eq (g2 := F0 m 36 ls [.int (zz_i (σ 4 0)), .ref q, .ref q]) rfl ?_
      refine lv_iconst (v := zz_i (1)) hx hb dX2_item_36 rfl ?_
      refine zz_iadd hx hb dX2_item_37 ?_
      refine lv_iload_n hx hb dX2_item_38 rfl (lv_at hl 1 rfl) ?_
      have hP := fr_Pc (a := cw_ cy ga ad σ) (b := [(q, .inr (0, [.int (zz_i 0), .int (zz_i 0), .int (zz_i 0), .int (zz_i 0), .int (zz_i 0), .int (zz_i 0), .int (zz_i 0), .int (zz_i 0), .int (zz_i 0), .int (zz_i 0), .int (zz_i 0), .int (zz_i 0)]))]) hP
      have hD := fr_Dc (a := cw_ cy ga ad σ) (b := [(q, .inr (0, [.int (zz_i 0), .int (zz_i 0), .int (zz_i 0), .int (zz_i 0), .int (zz_i 0), .int (zz_i 0), .int (zz_i 0), .int (zz_i 0), .int (zz_i 0), .int (zz_i 0), .int (zz_i 0), .int (zz_i 0)]))]) hD
      refine zf_i (wc := [(q, .inr (0, [.int (zz_i 0), .int (zz_i 0), .int (zz_i 0), .int (zz_i 0), .int (zz_i 0), .int (zz_i 0), .int (zz_i 0), .int (zz_i 0), .int (zz_i 0), .int (zz_i 0), .int (zz_i 0), .int (zz_i 0)]))]) (wr := cw_ cy ga ad σ) (As := [.int (zz_i (σ 4 0 + 1)), .int (zz_i x)]) (rest := [.ref q]) (S := Unit) (pc := 39) ⟨hx, hb, hml, hown, hts⟩ (c_X0_init l D cy q _ (σ 4 0 + 1) x) (cwI 2 hts gX2_item_X0_init rfl rfl rfl (hts (.initialized RX0) (by decide +kernel)) (hts (.methodLink RX2 68 yX0_init) (by decide +kernel)) (hts (.instanceMethod yX0_init) (by decide +kernel)) rfl (by decide +kernel) ⟨(Nat.le_of_ble_eq_true rfl), (Nat.le_of_ble_eq_true rfl)⟩) hK hP hD hS hA hE rfl hl.1 rfl (Nat.le_of_ble_eq_true rfl) dX2_item_39 ⟨(Nat.le_of_ble_eq_true rfl), (Nat.le_of_ble_eq_true rfl)⟩ (fun _ H locs _ hP hD hS => ?_)
      refine W.eq (g2 := F0 m 42 ls [.ref q]) rfl ?_
      have e9 := it_v0 (x := x) hI
      have hP : va_P D zz_cl ([(q, .inr (0, it_v (s_item σ x) (σ 4 0 + 1)))] ++ cw_ cy ga ad σ) H := by rw [← e9]; exact hP
      have hD : va_D A ([(q, .inr (0, it_v (s_item σ x) (σ 4 0 + 1)))] ++ cw_ cy ga ad σ) := by rw [← e9]; exact hD
      have hP := fr_Pc (a := [(q, .inr (0, it_v (s_item σ x) (σ 4 0 + 1)))]) (b := cw_ cy ga ad σ) hP
      have hD := fr_Dc (a := [(q, .inr (0, it_v (s_item σ x) (σ 4 0 + 1)))]) (b := cw_ cy ga ad σ) hD
      refine lv_astore_n (lv' := [(2, .ref q), (0, .ref (ga 0)), (1, .int (zz_i x))]) hx hb dX2_item_42 rfl hl (by decide) rfl (fun ls hl => ?_)
      refine lv_aload_n hx hb dX2_item_43 rfl (lv_at hl 1 rfl) ?_
      refine va_get (D := D) (ci := 2) (v := .ref (ga 3)) (C := RX2) (T := TX2) (N := 10) hx hb hts hiX2 hown hK hP (0) rfl rfl 2 (by decide) hf14 (fun _ h9 => h9) rfl dX2_item_44 ?_
      refine lv_aload_n hx hb dX2_item_47 rfl (lv_at hl 0 rfl) ?_
      refine zc_v (As := [.ref q]) (rest := []) (S := Unit) (pc := 48) ⟨hx, hb, hml, hown, hts⟩ (c_add_it l D cy ga ad σ _ hI x q (by omega)) (cwV 1 hts gX2_item_X1_add rfl rfl rfl (by decide +kernel) ⟨(Nat.le_of_ble_eq_true rfl), (Nat.le_of_ble_eq_true rfl)⟩) hK hP hD hS hA hE (va_recv hK hP (ci := 1) (q0 := 3) rfl rfl) rfl hl.1 rfl (Nat.le_of_ble_eq_true rfl) dX2_item_48 ⟨(Nat.le_of_ble_eq_true rfl), (Nat.le_of_ble_eq_true rfl)⟩ (fun _ H locs k4 hP hD hS => ?_)
      refine W.eq (g2 := F0 m 51 ls []) rfl ?_
      refine lv_aload_n hx hb dX2_item_51 rfl (lv_at hl 0 rfl) ?_
      have h5 : 1 ≤ σ 4 0 + 1 ∧ σ 4 0 + 1 ≤ s_item σ x 4 0 := ⟨by omega, Int.le_refl _⟩
      have h6 := cw_it (cy := cy) (ga := ga) (ad := ad_n ad (σ 4 0 + 1) q) h5
      rw [ad_s] at h6
      refine va_get (D := D) (ci := 0) (v := .int (zz_i (σ 4 0 + 1))) (C := RX0) (T := TX0) (N := 12) hx hb hts hiX0 hown hK hP _ h6 rfl 0 (by decide) hf75 (fun _ h9 => h9) rfl dX2_item_52 ?_
      subst hAe
      refine vx_ret ?_
      refine W.widen (k := 2) (n := 18) (Nat.le_of_ble_eq_true rfl) (Nat.le_of_ble_eq_true rfl) ?_
      exact W.iret (v := zz_i (σ 4 0 + 1)) hx hb hr (fun t ht hW => ⟨rfl, ⟨q, hk9, by rw [ht]; exact hP, va_K.moved hW.alike hK, hD⟩, hS.F ht⟩) hS.2.2 dX2_item_55
    · have hk9 : k_item σ x = 2 := by unfold k_item; rw [if_neg (by omega), if_pos (by omega)]
      rw [show ex_u (k_item σ x) = "java/lang/UnsupportedOperationException" from by rw [hk9]; rfl]
      exact th_row (own := RX2) (cls := "java/lang/UnsupportedOperationException") hx hb hl9 hown (by decide +kernel) (by decide +kernel) (hts (.classLink RX2 57 "java/lang/UnsupportedOperationException") (by decide +kernel)) (hts (.initialized "java/lang/UnsupportedOperationException") (by decide +kernel)) (hE.2.2.2.1 (59, "there are sixty items") (by decide +kernel)) haUOE go_UOE hAe hE hK hP hD hS (hl.1.trans hml.symm) dX2_item_15 dX2_item_18 dX2_item_19 dX2_item_21 dX2_item_24 htb (Nat.le_of_ble_eq_true rfl) (Nat.le_of_ble_eq_true rfl) (Nat.le_of_ble_eq_true rfl) (Nat.le_of_ble_eq_true rfl) hlocks (by rw [hk9]; decide) (Nat.le_of_ble_eq_true rfl) (Nat.le_of_ble_eq_true rfl)
end IT
