/-! the helpers of the law -/
def aio_x : List Cond := (vx_atS RX2 207 "java/lang/ArrayIndexOutOfBoundsException" ["java/lang/IndexOutOfBoundsException", "java/lang/RuntimeException", "java/lang/Exception"]).filter goodWord
def aio_y : List Cond := aio_x ++ [.classLink RL 59 "java/lang/ArrayIndexOutOfBoundsException"]
def wsL_trayB : List Cond := wsL_tray ++ aio_y
theorem gL_trayB_X2_tray : GoodIn wsL_trayB (wsV RL 56 RX2 yX2_tray wsX2_trayB) := by
  intro w h
  have h2 : w ∈ wsV RL 56 RX2 yX2_tray wsX2_tray ∨ w ∈ (vx_atS RX2 207 "java/lang/ArrayIndexOutOfBoundsException" ["java/lang/IndexOutOfBoundsException", "java/lang/RuntimeException", "java/lang/Exception"]).filter goodWord := by
    unfold wsV at h ⊢
    rcases List.mem_append.mp h with h | h
    · exact Or.inl (List.mem_append_left _ h)
    · rcases List.mem_append.mp h with h | h
      · exact Or.inl (List.mem_append_right _ h)
      · exact Or.inr h
  rcases h2 with h | h
  · exact ⟨List.mem_append_left _ (gL_tray_X2_tray w h).1, (gL_tray_X2_tray w h).2⟩
  · exact ⟨List.mem_append_right _ (List.mem_append_left _ h), good_of_word (List.mem_filter.mp h).2⟩
set_option maxHeartbeats 4000000 in
set_option maxRecDepth 100000 in
theorem h_item (l : Launch) (hl9 : l.stackTraces = false) (D : va_G) (cy ga : Nat → Nat) (ad : Int → Nat) (σ : zz_S) (sz : Nat) (hI : iv_ σ) (o : Nat) (g : Nat → Int64) (x : Int) (q_x : -2147483648 ≤ x ∧ x < 2147483648) : Met l yL_item wsL_item ({ frames := 8, cells := 2, slots := 18, locals := 166 }) (ct_P D cy [.ref (ga 0), .int (zz_i (x)), .ref (o)] (cw_ cy ga ad σ ++ ow_ cy o g) sz) (ct_Q D cy (cw_ cy ga ad σ ++ ow_ cy o g) sz (some (.int (zz_i (k_item σ x)))) (fun u : (Int → Nat) × (Nat → Int64) => k_item σ x = 0 → u.2 0 = lo_ (σ 4 0 + 1)) (fun u => cw_ cy ga u.1 (nx_ (k_item σ x) σ (s_item σ x)) ++ ow_ cy o u.2)) 2 18 (va_A (cw_ cy ga ad σ ++ ow_ cy o g) sz) := by
  refine me_ofWH (cc := cL_item) (maxL := 4) (ret := (some .int)) (by decide) rfl ?_
  intro p e s m args below meth c s₁ B hml hv
  obtain ⟨rfl, rfl, hP, hK, hD0, hE⟩ := hv
  have hx := B.exec
  have hb := B.bytes
  have hr := B.returns
  have hts := atoms_spec (ws := wsL_item) B.pre
  have hown : s.vm.findClass RL = some m.cls := findClass_of_methodNamed B.named
  have htab := vx_table (x := yL_item) B (hts (.codeWith yL_item cL_item 4 (some .int) [(0, 9, 12, 13), (0, 9, 15, 15)]) List.mem_cons_self)
  have hD := hD0.self (sz := s.heap.size)
  obtain ⟨A, hAe⟩ : ∃ A, A = va_A (cw_ cy ga ad σ ++ ow_ cy o g) s.heap.size := ⟨_, rfl⟩
  rw [← hAe] at hD hE
  have hA : ∀ q : Nat, s.heap.size ≤ q → A q := fun q h => by rw [hAe]; exact Or.inr h
  have hS : va_S A s.heap s.heap [] := va_S.rf
  have hP : va_P D zz_cl (cw_ cy ga ad σ ++ ow_ cy o g) s.heap := hP
  have hl := lv_entry ([.ref (ga 0), .int (zz_i (x)), .ref (o)]) (n := 4) (Nat.le_of_ble_eq_true rfl)
  rw [lg_entry_eq]
  generalize (lg_sl ([.ref (ga 0), .int (zz_i (x)), .ref (o)]) ++ List.replicate (4 - (lg_sl ([.ref (ga 0), .int (zz_i (x)), .ref (o)])).length) Slot.unset).toArray = ls at hl ⊢
  have hl : lv_has ls 4 [(0, .ref (ga 0)), (1, .int (zz_i (x))), (2, .ref (o))] := hl
  have hkr := kr_item σ x
  refine lv_aload_n hx hb dL_item_0 rfl (lv_at hl 2 rfl) ?_
  refine lv_iconst (v := zz_i (0)) hx hb dL_item_1 rfl ?_
  refine lv_aload_n hx hb dL_item_2 rfl (lv_at hl 0 rfl) ?_
  refine lv_iload_n hx hb dL_item_3 rfl (lv_at hl 1 rfl) ?_
  refine zf_x (wc := cw_ cy ga ad σ) (wr := ow_ cy o g) (As := [.int (zz_i (x))]) (rest := [.int (zz_i (0)), .ref (o)]) (S := Nat) (pc := 4) ⟨hx, hb, hml, hown, hts⟩ (c_item l hl9 D cy ga ad σ _ hI x q_x) (cwV 1 hts gL_item_X2_item rfl rfl rfl (by decide +kernel) ⟨(Nat.le_of_ble_eq_true rfl), (Nat.le_of_ble_eq_true rfl)⟩) hK hP hD hS hA hE (va_recv hK hP (ci := 2) (q0 := 0) rfl rfl) rfl hl.1 rfl (Nat.le_of_ble_eq_true rfl) dL_item_4 ⟨(Nat.le_of_ble_eq_true rfl), (Nat.le_of_ble_eq_true rfl)⟩ (fun kb ce q9 H locs hP hD hS hce hcv hcl => ?_) (fun u9 H locs kb hP hD hS => ?_)
  · have hn9 : nx_ (k_item σ x) σ (s_item σ x) = σ := nx_n kb
    rcases (show k_item σ x = 1 ∨ k_item σ x = 2 by omega) with hk9 | hk9
    · rw [show ex_u (k_item σ x) = "java/lang/IllegalArgumentException" from by rw [hk9]; rfl] at hcl
      refine vx_catch (own := RL) (name := "java/lang/IllegalArgumentException") (E := "java/lang/IllegalArgumentException") hown [] ⟨0, 9, 12, 13⟩ [⟨0, 9, 15, 15⟩] (htab.trans rfl) (fun z hz => by simp at hz) (by decide) (by decide) (hts (.classLink RL 13 "java/lang/IllegalArgumentException") (by decide +kernel)) (va_Nw.use (ev_ot _ (by decide +kernel)) (hE.2.2.1 (.castable "java/lang/IllegalArgumentException" "java/lang/IllegalArgumentException") (by decide +kernel))) hce hcv hcl ?_
      refine W.eq (g2 := F0 m 12 ls [.ref q9]) rfl ?_
      refine lv_astore_n (lv' := [(3, .ref (q9)), (0, .ref (ga 0)), (1, .int (zz_i (x))), (2, .ref (o))]) hx hb dL_item_12 rfl hl (by decide) rfl (fun ls hl => ?_)
      refine lv_iconst (v := zz_i (1)) hx hb dL_item_13 rfl ?_
      subst hAe
      refine W.widen (k := 2) (n := 18) (by omega) (by omega) ?_
      exact W.iret (v := zz_i (1)) hx hb hr (fun t ht hW => ⟨congrArg (fun z => Outcome.returned (some (Value.int (zz_i z)))) hk9.symm, ⟨(ad, g), fun h9 => absurd h9 (by omega), by rw [ht, hn9]; exact hP, va_K.moved hW.alike hK, by rw [hn9]; exact hD⟩, hS.F ht⟩) hS.2.2 dL_item_14
    · rw [show ex_u (k_item σ x) = "java/lang/UnsupportedOperationException" from by rw [hk9]; rfl] at hcl
      refine vx_catch (own := RL) (name := "java/lang/UnsupportedOperationException") (E := "java/lang/UnsupportedOperationException") hown [⟨0, 9, 12, 13⟩] ⟨0, 9, 15, 15⟩ [] (htab.trans rfl) (fun z hz => by rw [List.mem_singleton] at hz; subst hz; exact Or.inr ⟨by decide, "java/lang/IllegalArgumentException", hts (.classLink RL 13 "java/lang/IllegalArgumentException") (by decide +kernel), hE.2.2.2.2.2.1⟩) (by decide) (by decide) (hts (.classLink RL 15 "java/lang/UnsupportedOperationException") (by decide +kernel)) (va_Nw.use (ev_ot _ (by decide +kernel)) (hE.2.2.1 (.castable "java/lang/UnsupportedOperationException" "java/lang/UnsupportedOperationException") (by decide +kernel))) hce hcv hcl ?_
      refine W.eq (g2 := F0 m 15 ls [.ref q9]) rfl ?_
      refine lv_astore_n (lv' := [(3, .ref (q9)), (0, .ref (ga 0)), (1, .int (zz_i (x))), (2, .ref (o))]) hx hb dL_item_15 rfl hl (by decide) rfl (fun ls hl => ?_)
      refine lv_iconst (v := zz_i (2)) hx hb dL_item_16 rfl ?_
      subst hAe
      refine W.widen (k := 2) (n := 18) (by omega) (by omega) ?_
      exact W.iret (v := zz_i (2)) hx hb hr (fun t ht hW => ⟨congrArg (fun z => Outcome.returned (some (Value.int (zz_i z)))) hk9.symm, ⟨(ad, g), fun h9 => absurd h9 (by omega), by rw [ht, hn9]; exact hP, va_K.moved hW.alike hK, by rw [hn9]; exact hD⟩, hS.F ht⟩) hS.2.2 dL_item_17
  · have hk9 : k_item σ x = 0 := kb
    have hn9 : nx_ (k_item σ x) σ (s_item σ x) = s_item σ x := nx_0 hk9
    have hP : va_P D zz_cl (cw_ cy ga (ad_n ad (σ 4 0 + 1) u9) (s_item σ x) ++ ow_ cy o g) H := hP
    have hD : va_D A (cw_ cy ga (ad_n ad (σ 4 0 + 1) u9) (s_item σ x) ++ ow_ cy o g) := hD
    refine W.eq (g2 := F0 m 7 ls [.int (zz_i (σ 4 0 + 1)), .int (zz_i (0)), .ref (o)]) rfl ?_
    refine lv_i2l (v := lo_ (σ 4 0 + 1)) hx hb dL_item_7 rfl ?_
    refine zz_last hx hb hK hP hD hS dL_item_8 (fun g9 H locs hg9 hP hD hS => ?_)
    refine lv_goto (tgt := 18) hx hb dL_item_9 (by decide) ?_
    refine lv_iconst (v := zz_i (0)) hx hb dL_item_18 rfl ?_
    subst hAe
    refine W.widen (k := 2) (n := 18) (by omega) (by omega) ?_
    exact W.iret (v := zz_i (0)) hx hb hr (fun t ht hW => ⟨congrArg (fun z => Outcome.returned (some (Value.int (zz_i z)))) hk9.symm, ⟨(ad_n ad (σ 4 0 + 1) u9, g9), fun _ => hg9, by rw [ht, hn9]; exact hP, va_K.moved hW.alike hK, by rw [hn9]; exact hD⟩, hS.F ht⟩) hS.2.2 dL_item_19
set_option maxHeartbeats 4000000 in
set_option maxRecDepth 100000 in
theorem h_induct (l : Launch) (hl9 : l.stackTraces = false) (D : va_G) (cy ga : Nat → Nat) (ad : Int → Nat) (σ : zz_S) (sz : Nat) (hI : iv_ σ) (o : Nat) (g : Nat → Int64) (x a y : Int) (q_x : -2147483648 ≤ x ∧ x < 2147483648) (q_a : -2147483648 ≤ a ∧ a < 2147483648) (q_y : -2147483648 ≤ y ∧ y < 2147483648) : Met l yL_induct wsL_induct ({ frames := 8, cells := 5, slots := 30, locals := 132 }) (ct_P D cy [.ref (ga 0), .int (zz_i (x)), .int (zz_i (a)), .int (zz_i (y)), .ref (o)] (cw_ cy ga ad σ ++ ow_ cy o g) sz) (ct_Q D cy (cw_ cy ga ad σ ++ ow_ cy o g) sz (some (.int (zz_i (k_ind σ x a y)))) (fun u : (Int → Nat) × (Nat → Int64) => k_ind σ x a y = 0 → u.2 0 = lo_ (sp_tr σ a)) (fun u => cw_ cy ga u.1 (nx_ (k_ind σ x a y) σ (s_ind σ x a y)) ++ ow_ cy o u.2)) 5 30 (va_A (cw_ cy ga ad σ ++ ow_ cy o g) sz) := by
  refine me_ofWH (cc := cL_induct) (maxL := 6) (ret := (some .int)) (by decide) rfl ?_
  intro p e s m args below meth c s₁ B hml hv
  obtain ⟨rfl, rfl, hP, hK, hD0, hE⟩ := hv
  have hx := B.exec
  have hb := B.bytes
  have hr := B.returns
  have hts := atoms_spec (ws := wsL_induct) B.pre
  have hown : s.vm.findClass RL = some m.cls := findClass_of_methodNamed B.named
  have htab := vx_table (x := yL_induct) B (hts (.codeWith yL_induct cL_induct 6 (some .int) [(0, 12, 15, 13), (0, 12, 19, 21)]) List.mem_cons_self)
  have hD := hD0.self (sz := s.heap.size)
  obtain ⟨A, hAe⟩ : ∃ A, A = va_A (cw_ cy ga ad σ ++ ow_ cy o g) s.heap.size := ⟨_, rfl⟩
  rw [← hAe] at hD hE
  have hA : ∀ q : Nat, s.heap.size ≤ q → A q := fun q h => by rw [hAe]; exact Or.inr h
  have hS : va_S A s.heap s.heap [] := va_S.rf
  have hP : va_P D zz_cl (cw_ cy ga ad σ ++ ow_ cy o g) s.heap := hP
  have hl := lv_entry ([.ref (ga 0), .int (zz_i (x)), .int (zz_i (a)), .int (zz_i (y)), .ref (o)]) (n := 6) (Nat.le_of_ble_eq_true rfl)
  rw [lg_entry_eq]
  generalize (lg_sl ([.ref (ga 0), .int (zz_i (x)), .int (zz_i (a)), .int (zz_i (y)), .ref (o)]) ++ List.replicate (6 - (lg_sl ([.ref (ga 0), .int (zz_i (x)), .int (zz_i (a)), .int (zz_i (y)), .ref (o)])).length) Slot.unset).toArray = ls at hl ⊢
  have hl : lv_has ls 6 [(0, .ref (ga 0)), (1, .int (zz_i (x))), (2, .int (zz_i (a))), (3, .int (zz_i (y))), (4, .ref (o))] := hl
  have hkr := kr_ind σ x a y
  refine lv_aload hx hb dL_induct_0 (lv_at hl 4 rfl) ?_
  refine lv_iconst (v := zz_i (0)) hx hb dL_induct_2 rfl ?_
  refine lv_aload_n hx hb dL_induct_3 rfl (lv_at hl 0 rfl) ?_
  refine lv_iload_n hx hb dL_induct_4 rfl (lv_at hl 1 rfl) ?_
  refine lv_iload_n hx hb dL_induct_5 rfl (lv_at hl 2 rfl) ?_
  refine lv_iload_n hx hb dL_induct_6 rfl (lv_at hl 3 rfl) ?_
  refine zf_x (wc := cw_ cy ga ad σ) (wr := ow_ cy o g) (As := [.int (zz_i (x)), .int (zz_i (a)), .int (zz_i (y))]) (rest := [.int (zz_i (0)), .ref (o)]) (S := Unit) (pc := 7) ⟨hx, hb, hml, hown, hts⟩ (c_induct l hl9 D cy ga ad σ _ hI x a y q_x q_a q_y) (cwV 3 hts gL_induct_X2_induct rfl rfl rfl (by decide +kernel) ⟨(Nat.le_of_ble_eq_true rfl), (Nat.le_of_ble_eq_true rfl)⟩) hK hP hD hS hA hE (va_recv hK hP (ci := 2) (q0 := 0) rfl rfl) rfl hl.1 rfl (Nat.le_of_ble_eq_true rfl) dL_induct_7 ⟨(Nat.le_of_ble_eq_true rfl), (Nat.le_of_ble_eq_true rfl)⟩ (fun kb ce q9 H locs hP hD hS hce hcv hcl => ?_) (fun u9 H locs kb hP hD hS => ?_)
  · have hn9 : nx_ (k_ind σ x a y) σ (s_ind σ x a y) = σ := nx_n kb
    rcases (show k_ind σ x a y = 1 ∨ k_ind σ x a y = 2 by omega) with hk9 | hk9
    · rw [show ex_s (k_ind σ x a y) = "java/lang/IllegalArgumentException" from by rw [hk9]; rfl] at hcl
      refine vx_catch (own := RL) (name := "java/lang/IllegalArgumentException") (E := "java/lang/IllegalArgumentException") hown [] ⟨0, 12, 15, 13⟩ [⟨0, 12, 19, 21⟩] (htab.trans rfl) (fun z hz => by simp at hz) (by decide) (by decide) (hts (.classLink RL 13 "java/lang/IllegalArgumentException") (by decide +kernel)) (va_Nw.use (ev_ot _ (by decide +kernel)) (hE.2.2.1 (.castable "java/lang/IllegalArgumentException" "java/lang/IllegalArgumentException") (by decide +kernel))) hce hcv hcl ?_
      refine W.eq (g2 := F0 m 15 ls [.ref q9]) rfl ?_
      refine lv_astore (lv' := [(5, .ref (q9)), (0, .ref (ga 0)), (1, .int (zz_i (x))), (2, .int (zz_i (a))), (3, .int (zz_i (y))), (4, .ref (o))]) hx hb dL_induct_15 hl (by decide) rfl (fun ls hl => ?_)
      refine lv_iconst (v := zz_i (1)) hx hb dL_induct_17 rfl ?_
      subst hAe
      refine W.widen (k := 5) (n := 30) (by omega) (by omega) ?_
      exact W.iret (v := zz_i (1)) hx hb hr (fun t ht hW => ⟨congrArg (fun z => Outcome.returned (some (Value.int (zz_i z)))) hk9.symm, ⟨(ad, g), fun h9 => absurd h9 (by omega), by rw [ht, hn9]; exact hP, va_K.moved hW.alike hK, by rw [hn9]; exact hD⟩, hS.F ht⟩) hS.2.2 dL_induct_18
    · rw [show ex_s (k_ind σ x a y) = "java/lang/IllegalStateException" from by rw [hk9]; rfl] at hcl
      refine vx_catch (own := RL) (name := "java/lang/IllegalStateException") (E := "java/lang/IllegalStateException") hown [⟨0, 12, 15, 13⟩] ⟨0, 12, 19, 21⟩ [] (htab.trans rfl) (fun z hz => by rw [List.mem_singleton] at hz; subst hz; exact Or.inr ⟨by decide, "java/lang/IllegalArgumentException", hts (.classLink RL 13 "java/lang/IllegalArgumentException") (by decide +kernel), hE.2.2.2.2.1⟩) (by decide) (by decide) (hts (.classLink RL 21 "java/lang/IllegalStateException") (by decide +kernel)) (va_Nw.use (ev_ot _ (by decide +kernel)) (hE.2.2.1 (.castable "java/lang/IllegalStateException" "java/lang/IllegalStateException") (by decide +kernel))) hce hcv hcl ?_
      refine W.eq (g2 := F0 m 19 ls [.ref q9]) rfl ?_
      refine lv_astore (lv' := [(5, .ref (q9)), (0, .ref (ga 0)), (1, .int (zz_i (x))), (2, .int (zz_i (a))), (3, .int (zz_i (y))), (4, .ref (o))]) hx hb dL_induct_19 hl (by decide) rfl (fun ls hl => ?_)
      refine lv_iconst (v := zz_i (2)) hx hb dL_induct_21 rfl ?_
      subst hAe
      refine W.widen (k := 5) (n := 30) (by omega) (by omega) ?_
      exact W.iret (v := zz_i (2)) hx hb hr (fun t ht hW => ⟨congrArg (fun z => Outcome.returned (some (Value.int (zz_i z)))) hk9.symm, ⟨(ad, g), fun h9 => absurd h9 (by omega), by rw [ht, hn9]; exact hP, va_K.moved hW.alike hK, by rw [hn9]; exact hD⟩, hS.F ht⟩) hS.2.2 dL_induct_22
  · have hk9 : k_ind σ x a y = 0 := kb
    have hn9 : nx_ (k_ind σ x a y) σ (s_ind σ x a y) = s_ind σ x a y := nx_0 hk9
    have hP : va_P D zz_cl (cw_ cy ga ad (s_ind σ x a y) ++ ow_ cy o g) H := hP
    have hD : va_D A (cw_ cy ga ad (s_ind σ x a y) ++ ow_ cy o g) := hD
    refine W.eq (g2 := F0 m 10 ls [.int (zz_i (sp_tr σ a)), .int (zz_i (0)), .ref (o)]) rfl ?_
    refine lv_i2l (v := lo_ (sp_tr σ a)) hx hb dL_induct_10 rfl ?_
    refine zz_last hx hb hK hP hD hS dL_induct_11 (fun g9 H locs hg9 hP hD hS => ?_)
    refine lv_goto (tgt := 23) hx hb dL_induct_12 (by decide) ?_
    refine lv_iconst (v := zz_i (0)) hx hb dL_induct_23 rfl ?_
    subst hAe
    refine W.widen (k := 5) (n := 30) (by omega) (by omega) ?_
    exact W.iret (v := zz_i (0)) hx hb hr (fun t ht hW => ⟨congrArg (fun z => Outcome.returned (some (Value.int (zz_i z)))) hk9.symm, ⟨(ad, g9), fun _ => hg9, by rw [ht, hn9]; exact hP, va_K.moved hW.alike hK, by rw [hn9]; exact hD⟩, hS.F ht⟩) hS.2.2 dL_induct_24
set_option maxHeartbeats 4000000 in
set_option maxRecDepth 100000 in
theorem h_length (l : Launch) (hl9 : l.stackTraces = false) (D : va_G) (cy ga : Nat → Nat) (ad : Int → Nat) (σ : zz_S) (sz : Nat) (hI : iv_ σ) (o : Nat) (g : Nat → Int64) (x : Int) (q_x : -2147483648 ≤ x ∧ x < 2147483648) : Met l yL_length wsL_length ({ frames := 8, cells := 1, slots := 6, locals := 133 }) (ct_P D cy [.ref (ga 0), .int (zz_i (x)), .ref (o)] (cw_ cy ga ad σ ++ ow_ cy o g) sz) (ct_Q D cy (cw_ cy ga ad σ ++ ow_ cy o g) sz (some (.int (zz_i (k_len σ x)))) (fun u : (Int → Nat) × (Nat → Int64) => k_len σ x = 0 → u.2 0 = lo_ (v_len σ x)) (fun u => cw_ cy ga u.1 (nx_ (k_len σ x) σ (s_len σ x)) ++ ow_ cy o u.2)) 1 6 (va_A (cw_ cy ga ad σ ++ ow_ cy o g) sz) := by
  refine me_ofWH (cc := cL_length) (maxL := 4) (ret := (some .int)) (by decide) rfl ?_
  intro p e s m args below meth c s₁ B hml hv
  obtain ⟨rfl, rfl, hP, hK, hD0, hE⟩ := hv
  have hx := B.exec
  have hb := B.bytes
  have hr := B.returns
  have hts := atoms_spec (ws := wsL_length) B.pre
  have hown : s.vm.findClass RL = some m.cls := findClass_of_methodNamed B.named
  have htab := vx_table (x := yL_length) B (hts (.codeWith yL_length cL_length 4 (some .int) [(0, 9, 12, 13)]) List.mem_cons_self)
  have hD := hD0.self (sz := s.heap.size)
  obtain ⟨A, hAe⟩ : ∃ A, A = va_A (cw_ cy ga ad σ ++ ow_ cy o g) s.heap.size := ⟨_, rfl⟩
  rw [← hAe] at hD hE
  have hA : ∀ q : Nat, s.heap.size ≤ q → A q := fun q h => by rw [hAe]; exact Or.inr h
  have hS : va_S A s.heap s.heap [] := va_S.rf
  have hP : va_P D zz_cl (cw_ cy ga ad σ ++ ow_ cy o g) s.heap := hP
  have hl := lv_entry ([.ref (ga 0), .int (zz_i (x)), .ref (o)]) (n := 4) (Nat.le_of_ble_eq_true rfl)
  rw [lg_entry_eq]
  generalize (lg_sl ([.ref (ga 0), .int (zz_i (x)), .ref (o)]) ++ List.replicate (4 - (lg_sl ([.ref (ga 0), .int (zz_i (x)), .ref (o)])).length) Slot.unset).toArray = ls at hl ⊢
  have hl : lv_has ls 4 [(0, .ref (ga 0)), (1, .int (zz_i (x))), (2, .ref (o))] := hl
  have hkr := kr_len σ x
  refine lv_aload_n hx hb dL_length_0 rfl (lv_at hl 2 rfl) ?_
  refine lv_iconst (v := zz_i (0)) hx hb dL_length_1 rfl ?_
  refine lv_aload_n hx hb dL_length_2 rfl (lv_at hl 0 rfl) ?_
  refine lv_iload_n hx hb dL_length_3 rfl (lv_at hl 1 rfl) ?_
  refine zf_x (wc := cw_ cy ga ad σ) (wr := ow_ cy o g) (As := [.int (zz_i (x))]) (rest := [.int (zz_i (0)), .ref (o)]) (S := Unit) (pc := 4) ⟨hx, hb, hml, hown, hts⟩ (c_length l hl9 D cy ga ad σ _ hI x q_x) (cwV 1 hts gL_length_X2_length rfl rfl rfl (by decide +kernel) ⟨(Nat.le_of_ble_eq_true rfl), (Nat.le_of_ble_eq_true rfl)⟩) hK hP hD hS hA hE (va_recv hK hP (ci := 2) (q0 := 0) rfl rfl) rfl hl.1 rfl (Nat.le_of_ble_eq_true rfl) dL_length_4 ⟨(Nat.le_of_ble_eq_true rfl), (Nat.le_of_ble_eq_true rfl)⟩ (fun kb ce q9 H locs hP hD hS hce hcv hcl => ?_) (fun u9 H locs kb hP hD hS => ?_)
  · have hn9 : nx_ (k_len σ x) σ (s_len σ x) = σ := nx_n kb
    have hk9 : k_len σ x = 1 := by omega
    refine vx_catch (own := RL) (name := "java/lang/IllegalArgumentException") (E := "java/lang/IllegalArgumentException") hown [] ⟨0, 9, 12, 13⟩ [] (htab.trans rfl) (fun z hz => by simp at hz) (by decide) (by decide) (hts (.classLink RL 13 "java/lang/IllegalArgumentException") (by decide +kernel)) (va_Nw.use (ev_ot _ (by decide +kernel)) (hE.2.2.1 (.castable "java/lang/IllegalArgumentException" "java/lang/IllegalArgumentException") (by decide +kernel))) hce hcv hcl ?_
    refine W.eq (g2 := F0 m 12 ls [.ref q9]) rfl ?_
    refine lv_astore_n (lv' := [(3, .ref (q9)), (0, .ref (ga 0)), (1, .int (zz_i (x))), (2, .ref (o))]) hx hb dL_length_12 rfl hl (by decide) rfl (fun ls hl => ?_)
    refine lv_iconst (v := zz_i (1)) hx hb dL_length_13 rfl ?_
    subst hAe
    refine W.widen (k := 1) (n := 6) (by omega) (by omega) ?_
    exact W.iret (v := zz_i (1)) hx hb hr (fun t ht hW => ⟨congrArg (fun z => Outcome.returned (some (Value.int (zz_i z)))) hk9.symm, ⟨(ad, g), fun h9 => absurd h9 (by omega), by rw [ht, hn9]; exact hP, va_K.moved hW.alike hK, by rw [hn9]; exact hD⟩, hS.F ht⟩) hS.2.2 dL_length_14
  · have hk9 : k_len σ x = 0 := kb
    have hn9 : nx_ (k_len σ x) σ (s_len σ x) = s_len σ x := nx_0 hk9
    have hP : va_P D zz_cl (cw_ cy ga ad (s_len σ x) ++ ow_ cy o g) H := hP
    have hD : va_D A (cw_ cy ga ad (s_len σ x) ++ ow_ cy o g) := hD
    refine W.eq (g2 := F0 m 7 ls [.int (zz_i (v_len σ x)), .int (zz_i (0)), .ref (o)]) rfl ?_
    refine lv_i2l (v := lo_ (v_len σ x)) hx hb dL_length_7 rfl ?_
    refine zz_last hx hb hK hP hD hS dL_length_8 (fun g9 H locs hg9 hP hD hS => ?_)
    refine lv_goto (tgt := 15) hx hb dL_length_9 (by decide) ?_
    refine lv_iconst (v := zz_i (0)) hx hb dL_length_15 rfl ?_
    subst hAe
    refine W.widen (k := 1) (n := 6) (by omega) (by omega) ?_
    exact W.iret (v := zz_i (0)) hx hb hr (fun t ht hW => ⟨congrArg (fun z => Outcome.returned (some (Value.int (zz_i z)))) hk9.symm, ⟨(ad, g9), fun _ => hg9, by rw [ht, hn9]; exact hP, va_K.moved hW.alike hK, by rw [hn9]; exact hD⟩, hS.F ht⟩) hS.2.2 dL_length_16
set_option maxHeartbeats 4000000 in
set_option maxRecDepth 100000 in
theorem h_retry (l : Launch) (hl9 : l.stackTraces = false) (D : va_G) (cy ga : Nat → Nat) (ad : Int → Nat) (σ : zz_S) (sz : Nat) (hI : iv_ σ) (o : Nat) (g : Nat → Int64) (x a y : Int) (q_x : -2147483648 ≤ x ∧ x < 2147483648) (q_a : -2147483648 ≤ a ∧ a < 2147483648) (q_y : -2147483648 ≤ y ∧ y < 2147483648) : Met l yL_retry wsL_retry ({ frames := 8, cells := 3, slots := 18, locals := 132 }) (ct_P D cy [.ref (ga 0), .int (zz_i (x)), .int (zz_i (a)), .int (zz_i (y))] (cw_ cy ga ad σ ++ ow_ cy o g) sz) (ct_Q D cy (cw_ cy ga ad σ ++ ow_ cy o g) sz (some (.int (zz_i (k_ret σ x a y)))) (fun u : (Int → Nat) × (Nat → Int64) => True) (fun u => cw_ cy ga u.1 (nx_ (k_ret σ x a y) σ (s_ret σ x a y)) ++ ow_ cy o u.2)) 3 18 (va_A (cw_ cy ga ad σ ++ ow_ cy o g) sz) := by
  refine me_ofWH (cc := cL_retry) (maxL := 5) (ret := (some .int)) (by decide) rfl ?_
  intro p e s m args below meth c s₁ B hml hv
  obtain ⟨rfl, rfl, hP, hK, hD0, hE⟩ := hv
  have hx := B.exec
  have hb := B.bytes
  have hr := B.returns
  have hts := atoms_spec (ws := wsL_retry) B.pre
  have hown : s.vm.findClass RL = some m.cls := findClass_of_methodNamed B.named
  have htab := vx_table (x := yL_retry) B (hts (.codeWith yL_retry cL_retry 5 (some .int) [(0, 7, 10, 13), (0, 7, 14, 21)]) List.mem_cons_self)
  have hD := hD0.self (sz := s.heap.size)
  obtain ⟨A, hAe⟩ : ∃ A, A = va_A (cw_ cy ga ad σ ++ ow_ cy o g) s.heap.size := ⟨_, rfl⟩
  rw [← hAe] at hD hE
  have hA : ∀ q : Nat, s.heap.size ≤ q → A q := fun q h => by rw [hAe]; exact Or.inr h
  have hS : va_S A s.heap s.heap [] := va_S.rf
  have hP : va_P D zz_cl (cw_ cy ga ad σ ++ ow_ cy o g) s.heap := hP
  have hl := lv_entry ([.ref (ga 0), .int (zz_i (x)), .int (zz_i (a)), .int (zz_i (y))]) (n := 5) (Nat.le_of_ble_eq_true rfl)
  rw [lg_entry_eq]
  generalize (lg_sl ([.ref (ga 0), .int (zz_i (x)), .int (zz_i (a)), .int (zz_i (y))]) ++ List.replicate (5 - (lg_sl ([.ref (ga 0), .int (zz_i (x)), .int (zz_i (a)), .int (zz_i (y))])).length) Slot.unset).toArray = ls at hl ⊢
  have hl : lv_has ls 5 [(0, .ref (ga 0)), (1, .int (zz_i (x))), (2, .int (zz_i (a))), (3, .int (zz_i (y)))] := hl
  have hkr := kr_ret σ x a y
  refine lv_aload_n hx hb dL_retry_0 rfl (lv_at hl 0 rfl) ?_
  refine lv_iload_n hx hb dL_retry_1 rfl (lv_at hl 1 rfl) ?_
  refine lv_iload_n hx hb dL_retry_2 rfl (lv_at hl 2 rfl) ?_
  refine lv_iload_n hx hb dL_retry_3 rfl (lv_at hl 3 rfl) ?_
  refine zf_x (wc := cw_ cy ga ad σ) (wr := ow_ cy o g) (As := [.int (zz_i (x)), .int (zz_i (a)), .int (zz_i (y))]) (rest := []) (S := Unit) (pc := 4) ⟨hx, hb, hml, hown, hts⟩ (c_retry l hl9 D cy ga ad σ _ hI x a y q_x q_a q_y) (cwV 3 hts gL_retry_X2_retry rfl rfl rfl (by decide +kernel) ⟨(Nat.le_of_ble_eq_true rfl), (Nat.le_of_ble_eq_true rfl)⟩) hK hP hD hS hA hE (va_recv hK hP (ci := 2) (q0 := 0) rfl rfl) rfl hl.1 rfl (Nat.le_of_ble_eq_true rfl) dL_retry_4 ⟨(Nat.le_of_ble_eq_true rfl), (Nat.le_of_ble_eq_true rfl)⟩ (fun kb ce q9 H locs hP hD hS hce hcv hcl => ?_) (fun u9 H locs kb hP hD hS => ?_)
  · have hn9 : nx_ (k_ret σ x a y) σ (s_ret σ x a y) = σ := nx_n kb
    rcases (show k_ret σ x a y = 1 ∨ k_ret σ x a y = 2 by omega) with hk9 | hk9
    · rw [show ex_s (k_ret σ x a y) = "java/lang/IllegalArgumentException" from by rw [hk9]; rfl] at hcl
      refine vx_catch (own := RL) (name := "java/lang/IllegalArgumentException") (E := "java/lang/IllegalArgumentException") hown [] ⟨0, 7, 10, 13⟩ [⟨0, 7, 14, 21⟩] (htab.trans rfl) (fun z hz => by simp at hz) (by decide) (by decide) (hts (.classLink RL 13 "java/lang/IllegalArgumentException") (by decide +kernel)) (va_Nw.use (ev_ot _ (by decide +kernel)) (hE.2.2.1 (.castable "java/lang/IllegalArgumentException" "java/lang/IllegalArgumentException") (by decide +kernel))) hce hcv hcl ?_
      refine W.eq (g2 := F0 m 10 ls [.ref q9]) rfl ?_
      refine lv_astore (lv' := [(4, .ref (q9)), (0, .ref (ga 0)), (1, .int (zz_i (x))), (2, .int (zz_i (a))), (3, .int (zz_i (y)))]) hx hb dL_retry_10 hl (by decide) rfl (fun ls hl => ?_)
      refine lv_iconst (v := zz_i (1)) hx hb dL_retry_12 rfl ?_
      subst hAe
      refine W.widen (k := 3) (n := 18) (by omega) (by omega) ?_
      exact W.iret (v := zz_i (1)) hx hb hr (fun t ht hW => ⟨congrArg (fun z => Outcome.returned (some (Value.int (zz_i z)))) hk9.symm, ⟨(ad, g), trivial, by rw [ht, hn9]; exact hP, va_K.moved hW.alike hK, by rw [hn9]; exact hD⟩, hS.F ht⟩) hS.2.2 dL_retry_13
    · rw [show ex_s (k_ret σ x a y) = "java/lang/IllegalStateException" from by rw [hk9]; rfl] at hcl
      refine vx_catch (own := RL) (name := "java/lang/IllegalStateException") (E := "java/lang/IllegalStateException") hown [⟨0, 7, 10, 13⟩] ⟨0, 7, 14, 21⟩ [] (htab.trans rfl) (fun z hz => by rw [List.mem_singleton] at hz; subst hz; exact Or.inr ⟨by decide, "java/lang/IllegalArgumentException", hts (.classLink RL 13 "java/lang/IllegalArgumentException") (by decide +kernel), hE.2.2.2.2.1⟩) (by decide) (by decide) (hts (.classLink RL 21 "java/lang/IllegalStateException") (by decide +kernel)) (va_Nw.use (ev_ot _ (by decide +kernel)) (hE.2.2.1 (.castable "java/lang/IllegalStateException" "java/lang/IllegalStateException") (by decide +kernel))) hce hcv hcl ?_
      refine W.eq (g2 := F0 m 14 ls [.ref q9]) rfl ?_
      refine lv_astore (lv' := [(4, .ref (q9)), (0, .ref (ga 0)), (1, .int (zz_i (x))), (2, .int (zz_i (a))), (3, .int (zz_i (y)))]) hx hb dL_retry_14 hl (by decide) rfl (fun ls hl => ?_)
      refine lv_iconst (v := zz_i (2)) hx hb dL_retry_16 rfl ?_
      subst hAe
      refine W.widen (k := 3) (n := 18) (by omega) (by omega) ?_
      exact W.iret (v := zz_i (2)) hx hb hr (fun t ht hW => ⟨congrArg (fun z => Outcome.returned (some (Value.int (zz_i z)))) hk9.symm, ⟨(ad, g), trivial, by rw [ht, hn9]; exact hP, va_K.moved hW.alike hK, by rw [hn9]; exact hD⟩, hS.F ht⟩) hS.2.2 dL_retry_17
  · have hk9 : k_ret σ x a y = 0 := kb
    have hn9 : nx_ (k_ret σ x a y) σ (s_ret σ x a y) = s_ret σ x a y := nx_0 hk9
    have hP : va_P D zz_cl (cw_ cy ga ad (s_ret σ x a y) ++ ow_ cy o g) H := hP
    have hD : va_D A (cw_ cy ga ad (s_ret σ x a y) ++ ow_ cy o g) := hD
    refine W.eq (g2 := F0 m 7 ls []) rfl ?_
    refine lv_goto (tgt := 18) hx hb dL_retry_7 (by decide) ?_
    refine lv_iconst (v := zz_i (0)) hx hb dL_retry_18 rfl ?_
    subst hAe
    refine W.widen (k := 3) (n := 18) (by omega) (by omega) ?_
    exact W.iret (v := zz_i (0)) hx hb hr (fun t ht hW => ⟨congrArg (fun z => Outcome.returned (some (Value.int (zz_i z)))) hk9.symm, ⟨(ad, g), trivial, by rw [ht, hn9]; exact hP, va_K.moved hW.alike hK, by rw [hn9]; exact hD⟩, hS.F ht⟩) hS.2.2 dL_retry_19
set_option maxHeartbeats 4000000 in
set_option maxRecDepth 100000 in
theorem h_step (l : Launch) (hl9 : l.stackTraces = false) (D : va_G) (cy ga : Nat → Nat) (ad : Int → Nat) (σ : zz_S) (sz : Nat) (hI : iv_ σ) (o : Nat) (g : Nat → Int64) (x : Int) (q_x : -2147483648 ≤ x ∧ x < 2147483648) (hs : σ 2 0 ≤ 99999900) : Met l yL_step wsL_step ({ frames := 8, cells := 1, slots := 6, locals := 134 }) (ct_P D cy [.ref (ga 0), .int (zz_i (x)), .ref (o)] (cw_ cy ga ad σ ++ ow_ cy o g) sz) (ct_Q D cy (cw_ cy ga ad σ ++ ow_ cy o g) sz (some (.int (zz_i (k_stp σ x)))) (fun u : (Int → Nat) × (Nat → Int64) => k_stp σ x = 0 → u.2 0 = lo_ (s_stp σ x 5 0 - σ 5 0)) (fun u => cw_ cy ga u.1 (nx_ (k_stp σ x) σ (s_stp σ x)) ++ ow_ cy o u.2)) 1 6 (va_A (cw_ cy ga ad σ ++ ow_ cy o g) sz) := by
  refine me_ofWH (cc := cL_step) (maxL := 4) (ret := (some .int)) (by decide) rfl ?_
  intro p e s m args below meth c s₁ B hml hv
  obtain ⟨rfl, rfl, hP, hK, hD0, hE⟩ := hv
  have hx := B.exec
  have hb := B.bytes
  have hr := B.returns
  have hts := atoms_spec (ws := wsL_step) B.pre
  have hown : s.vm.findClass RL = some m.cls := findClass_of_methodNamed B.named
  have htab := vx_table (x := yL_step) B (hts (.codeWith yL_step cL_step 4 (some .int) [(0, 9, 12, 13), (0, 9, 15, 21)]) List.mem_cons_self)
  have hD := hD0.self (sz := s.heap.size)
  obtain ⟨A, hAe⟩ : ∃ A, A = va_A (cw_ cy ga ad σ ++ ow_ cy o g) s.heap.size := ⟨_, rfl⟩
  rw [← hAe] at hD hE
  have hA : ∀ q : Nat, s.heap.size ≤ q → A q := fun q h => by rw [hAe]; exact Or.inr h
  have hS : va_S A s.heap s.heap [] := va_S.rf
  have hP : va_P D zz_cl (cw_ cy ga ad σ ++ ow_ cy o g) s.heap := hP
  have hl := lv_entry ([.ref (ga 0), .int (zz_i (x)), .ref (o)]) (n := 4) (Nat.le_of_ble_eq_true rfl)
  rw [lg_entry_eq]
  generalize (lg_sl ([.ref (ga 0), .int (zz_i (x)), .ref (o)]) ++ List.replicate (4 - (lg_sl ([.ref (ga 0), .int (zz_i (x)), .ref (o)])).length) Slot.unset).toArray = ls at hl ⊢
  have hl : lv_has ls 4 [(0, .ref (ga 0)), (1, .int (zz_i (x))), (2, .ref (o))] := hl
  have hkr := kr_stp σ x
  refine lv_aload_n hx hb dL_step_0 rfl (lv_at hl 2 rfl) ?_
  refine lv_iconst (v := zz_i (0)) hx hb dL_step_1 rfl ?_
  refine lv_aload_n hx hb dL_step_2 rfl (lv_at hl 0 rfl) ?_
  refine lv_iload_n hx hb dL_step_3 rfl (lv_at hl 1 rfl) ?_
  refine zf_x (wc := cw_ cy ga ad σ) (wr := ow_ cy o g) (As := [.int (zz_i (x))]) (rest := [.int (zz_i (0)), .ref (o)]) (S := Unit) (pc := 4) ⟨hx, hb, hml, hown, hts⟩ (c_step l hl9 D cy ga ad σ _ hI x q_x hs) (cwV 1 hts gL_step_X2_step rfl rfl rfl (by decide +kernel) ⟨(Nat.le_of_ble_eq_true rfl), (Nat.le_of_ble_eq_true rfl)⟩) hK hP hD hS hA hE (va_recv hK hP (ci := 2) (q0 := 0) rfl rfl) rfl hl.1 rfl (Nat.le_of_ble_eq_true rfl) dL_step_4 ⟨(Nat.le_of_ble_eq_true rfl), (Nat.le_of_ble_eq_true rfl)⟩ (fun kb ce q9 H locs hP hD hS hce hcv hcl => ?_) (fun u9 H locs kb hP hD hS => ?_)
  · have hn9 : nx_ (k_stp σ x) σ (s_stp σ x) = σ := nx_n kb
    rcases (show k_stp σ x = 1 ∨ k_stp σ x = 2 by omega) with hk9 | hk9
    · rw [show ex_s (k_stp σ x) = "java/lang/IllegalArgumentException" from by rw [hk9]; rfl] at hcl
      refine vx_catch (own := RL) (name := "java/lang/IllegalArgumentException") (E := "java/lang/IllegalArgumentException") hown [] ⟨0, 9, 12, 13⟩ [⟨0, 9, 15, 21⟩] (htab.trans rfl) (fun z hz => by simp at hz) (by decide) (by decide) (hts (.classLink RL 13 "java/lang/IllegalArgumentException") (by decide +kernel)) (va_Nw.use (ev_ot _ (by decide +kernel)) (hE.2.2.1 (.castable "java/lang/IllegalArgumentException" "java/lang/IllegalArgumentException") (by decide +kernel))) hce hcv hcl ?_
      refine W.eq (g2 := F0 m 12 ls [.ref q9]) rfl ?_
      refine lv_astore_n (lv' := [(3, .ref (q9)), (0, .ref (ga 0)), (1, .int (zz_i (x))), (2, .ref (o))]) hx hb dL_step_12 rfl hl (by decide) rfl (fun ls hl => ?_)
      refine lv_iconst (v := zz_i (1)) hx hb dL_step_13 rfl ?_
      subst hAe
      refine W.widen (k := 1) (n := 6) (by omega) (by omega) ?_
      exact W.iret (v := zz_i (1)) hx hb hr (fun t ht hW => ⟨congrArg (fun z => Outcome.returned (some (Value.int (zz_i z)))) hk9.symm, ⟨(ad, g), fun h9 => absurd h9 (by omega), by rw [ht, hn9]; exact hP, va_K.moved hW.alike hK, by rw [hn9]; exact hD⟩, hS.F ht⟩) hS.2.2 dL_step_14
    · rw [show ex_s (k_stp σ x) = "java/lang/IllegalStateException" from by rw [hk9]; rfl] at hcl
      refine vx_catch (own := RL) (name := "java/lang/IllegalStateException") (E := "java/lang/IllegalStateException") hown [⟨0, 9, 12, 13⟩] ⟨0, 9, 15, 21⟩ [] (htab.trans rfl) (fun z hz => by rw [List.mem_singleton] at hz; subst hz; exact Or.inr ⟨by decide, "java/lang/IllegalArgumentException", hts (.classLink RL 13 "java/lang/IllegalArgumentException") (by decide +kernel), hE.2.2.2.2.1⟩) (by decide) (by decide) (hts (.classLink RL 21 "java/lang/IllegalStateException") (by decide +kernel)) (va_Nw.use (ev_ot _ (by decide +kernel)) (hE.2.2.1 (.castable "java/lang/IllegalStateException" "java/lang/IllegalStateException") (by decide +kernel))) hce hcv hcl ?_
      refine W.eq (g2 := F0 m 15 ls [.ref q9]) rfl ?_
      refine lv_astore_n (lv' := [(3, .ref (q9)), (0, .ref (ga 0)), (1, .int (zz_i (x))), (2, .ref (o))]) hx hb dL_step_15 rfl hl (by decide) rfl (fun ls hl => ?_)
      refine lv_iconst (v := zz_i (2)) hx hb dL_step_16 rfl ?_
      subst hAe
      refine W.widen (k := 1) (n := 6) (by omega) (by omega) ?_
      exact W.iret (v := zz_i (2)) hx hb hr (fun t ht hW => ⟨congrArg (fun z => Outcome.returned (some (Value.int (zz_i z)))) hk9.symm, ⟨(ad, g), fun h9 => absurd h9 (by omega), by rw [ht, hn9]; exact hP, va_K.moved hW.alike hK, by rw [hn9]; exact hD⟩, hS.F ht⟩) hS.2.2 dL_step_17
  · have hk9 : k_stp σ x = 0 := kb
    have hn9 : nx_ (k_stp σ x) σ (s_stp σ x) = s_stp σ x := nx_0 hk9
    have hP : va_P D zz_cl (cw_ cy ga ad (s_stp σ x) ++ ow_ cy o g) H := hP
    have hD : va_D A (cw_ cy ga ad (s_stp σ x) ++ ow_ cy o g) := hD
    refine W.eq (g2 := F0 m 7 ls [.int (zz_i (s_stp σ x 5 0 - σ 5 0)), .int (zz_i (0)), .ref (o)]) rfl ?_
    refine lv_i2l (v := lo_ (s_stp σ x 5 0 - σ 5 0)) hx hb dL_step_7 rfl ?_
    refine zz_last hx hb hK hP hD hS dL_step_8 (fun g9 H locs hg9 hP hD hS => ?_)
    refine lv_goto (tgt := 18) hx hb dL_step_9 (by decide) ?_
    refine lv_iconst (v := zz_i (0)) hx hb dL_step_18 rfl ?_
    subst hAe
    refine W.widen (k := 1) (n := 6) (by omega) (by omega) ?_
    exact W.iret (v := zz_i (0)) hx hb hr (fun t ht hW => ⟨congrArg (fun z => Outcome.returned (some (Value.int (zz_i z)))) hk9.symm, ⟨(ad, g9), fun _ => hg9, by rw [ht, hn9]; exact hP, va_K.moved hW.alike hK, by rw [hn9]; exact hD⟩, hS.F ht⟩) hS.2.2 dL_step_19
set_option maxHeartbeats 4000000 in
set_option maxRecDepth 100000 in
theorem h_out (l : Launch) (hl9 : l.stackTraces = false) (D : va_G) (cy ga : Nat → Nat) (ad : Int → Nat) (σ : zz_S) (sz : Nat) (hI : iv_ σ) (o : Nat) (g : Nat → Int64) (x y : Int) (q_x : -2147483648 ≤ x ∧ x < 2147483648) (q_y : -2147483648 ≤ y ∧ y < 2147483648) : Met l yL_out wsL_out ({ frames := 7, cells := 1, slots := 6, locals := 109 }) (ct_P D cy [.ref (ga 0), .int (zz_i (x)), .int (zz_i (y)), .ref (o)] (cw_ cy ga ad σ ++ ow_ cy o g) sz) (ct_Q D cy (cw_ cy ga ad σ ++ ow_ cy o g) sz (some (.int (zz_i (k_out σ x y)))) (fun u : (Int → Nat) × (Nat → Int64) => k_out σ x y = 0 → u.2 0 = lo_ (v_out σ x y)) (fun u => cw_ cy ga u.1 (nx_ (k_out σ x y) σ (σ)) ++ ow_ cy o u.2)) 1 6 (va_A (cw_ cy ga ad σ ++ ow_ cy o g) sz) := by
  refine me_ofWH (cc := cL_out) (maxL := 5) (ret := (some .int)) (by decide) rfl ?_
  intro p e s m args below meth c s₁ B hml hv
  obtain ⟨rfl, rfl, hP, hK, hD0, hE⟩ := hv
  have hx := B.exec
  have hb := B.bytes
  have hr := B.returns
  have hts := atoms_spec (ws := wsL_out) B.pre
  have hown : s.vm.findClass RL = some m.cls := findClass_of_methodNamed B.named
  have htab := vx_table (x := yL_out) B (hts (.codeWith yL_out cL_out 5 (some .int) [(0, 10, 13, 13)]) List.mem_cons_self)
  have hD := hD0.self (sz := s.heap.size)
  obtain ⟨A, hAe⟩ : ∃ A, A = va_A (cw_ cy ga ad σ ++ ow_ cy o g) s.heap.size := ⟨_, rfl⟩
  rw [← hAe] at hD hE
  have hA : ∀ q : Nat, s.heap.size ≤ q → A q := fun q h => by rw [hAe]; exact Or.inr h
  have hS : va_S A s.heap s.heap [] := va_S.rf
  have hP : va_P D zz_cl (cw_ cy ga ad σ ++ ow_ cy o g) s.heap := hP
  have hl := lv_entry ([.ref (ga 0), .int (zz_i (x)), .int (zz_i (y)), .ref (o)]) (n := 5) (Nat.le_of_ble_eq_true rfl)
  rw [lg_entry_eq]
  generalize (lg_sl ([.ref (ga 0), .int (zz_i (x)), .int (zz_i (y)), .ref (o)]) ++ List.replicate (5 - (lg_sl ([.ref (ga 0), .int (zz_i (x)), .int (zz_i (y)), .ref (o)])).length) Slot.unset).toArray = ls at hl ⊢
  have hl : lv_has ls 5 [(0, .ref (ga 0)), (1, .int (zz_i (x))), (2, .int (zz_i (y))), (3, .ref (o))] := hl
  have hkr := kr_out σ x y
  refine lv_aload_n hx hb dL_out_0 rfl (lv_at hl 3 rfl) ?_
  refine lv_iconst (v := zz_i (0)) hx hb dL_out_1 rfl ?_
  refine lv_aload_n hx hb dL_out_2 rfl (lv_at hl 0 rfl) ?_
  refine lv_iload_n hx hb dL_out_3 rfl (lv_at hl 1 rfl) ?_
  refine lv_iload_n hx hb dL_out_4 rfl (lv_at hl 2 rfl) ?_
  refine zf_x (wc := cw_ cy ga ad σ) (wr := ow_ cy o g) (As := [.int (zz_i (x)), .int (zz_i (y))]) (rest := [.int (zz_i (0)), .ref (o)]) (S := Unit) (pc := 5) ⟨hx, hb, hml, hown, hts⟩ (c_out l hl9 D cy ga ad σ _ hI x y q_x q_y) (cwV 2 hts gL_out_X2_out rfl rfl rfl (by decide +kernel) ⟨(Nat.le_of_ble_eq_true rfl), (Nat.le_of_ble_eq_true rfl)⟩) hK hP hD hS hA hE (va_recv hK hP (ci := 2) (q0 := 0) rfl rfl) rfl hl.1 rfl (Nat.le_of_ble_eq_true rfl) dL_out_5 ⟨(Nat.le_of_ble_eq_true rfl), (Nat.le_of_ble_eq_true rfl)⟩ (fun kb ce q9 H locs hP hD hS hce hcv hcl => ?_) (fun u9 H locs kb hP hD hS => ?_)
  · have hn9 : nx_ (k_out σ x y) σ (σ) = σ := nx_n kb
    have hk9 : k_out σ x y = 1 := by omega
    refine vx_catch (own := RL) (name := "java/lang/IllegalArgumentException") (E := "java/lang/IllegalArgumentException") hown [] ⟨0, 10, 13, 13⟩ [] (htab.trans rfl) (fun z hz => by simp at hz) (by decide) (by decide) (hts (.classLink RL 13 "java/lang/IllegalArgumentException") (by decide +kernel)) (va_Nw.use (ev_ot _ (by decide +kernel)) (hE.2.2.1 (.castable "java/lang/IllegalArgumentException" "java/lang/IllegalArgumentException") (by decide +kernel))) hce hcv hcl ?_
    refine W.eq (g2 := F0 m 13 ls [.ref q9]) rfl ?_
    refine lv_astore (lv' := [(4, .ref (q9)), (0, .ref (ga 0)), (1, .int (zz_i (x))), (2, .int (zz_i (y))), (3, .ref (o))]) hx hb dL_out_13 hl (by decide) rfl (fun ls hl => ?_)
    refine lv_iconst (v := zz_i (1)) hx hb dL_out_15 rfl ?_
    subst hAe
    refine W.widen (k := 1) (n := 6) (by omega) (by omega) ?_
    exact W.iret (v := zz_i (1)) hx hb hr (fun t ht hW => ⟨congrArg (fun z => Outcome.returned (some (Value.int (zz_i z)))) hk9.symm, ⟨(ad, g), fun h9 => absurd h9 (by omega), by rw [ht, hn9]; exact hP, va_K.moved hW.alike hK, by rw [hn9]; exact hD⟩, hS.F ht⟩) hS.2.2 dL_out_16
  · have hk9 : k_out σ x y = 0 := kb
    have hn9 : nx_ (k_out σ x y) σ (σ) = σ := nx_0 hk9
    have hP : va_P D zz_cl (cw_ cy ga ad σ ++ ow_ cy o g) H := hP
    have hD : va_D A (cw_ cy ga ad σ ++ ow_ cy o g) := hD
    refine W.eq (g2 := F0 m 8 ls [.int (zz_i (v_out σ x y)), .int (zz_i (0)), .ref (o)]) rfl ?_
    refine lv_i2l (v := lo_ (v_out σ x y)) hx hb dL_out_8 rfl ?_
    refine zz_last hx hb hK hP hD hS dL_out_9 (fun g9 H locs hg9 hP hD hS => ?_)
    refine lv_goto (tgt := 17) hx hb dL_out_10 (by decide) ?_
    refine lv_iconst (v := zz_i (0)) hx hb dL_out_17 rfl ?_
    subst hAe
    refine W.widen (k := 1) (n := 6) (by omega) (by omega) ?_
    exact W.iret (v := zz_i (0)) hx hb hr (fun t ht hW => ⟨congrArg (fun z => Outcome.returned (some (Value.int (zz_i z)))) hk9.symm, ⟨(ad, g9), fun _ => hg9, by rw [ht, hn9]; exact hP, va_K.moved hW.alike hK, by rw [hn9]; exact hD⟩, hS.F ht⟩) hS.2.2 dL_out_18
set_option maxHeartbeats 4000000 in
set_option maxRecDepth 100000 in
theorem h_chute (l : Launch) (hl9 : l.stackTraces = false) (D : va_G) (cy ga : Nat → Nat) (ad : Int → Nat) (σ : zz_S) (sz : Nat) (hI : iv_ σ) (o : Nat) (g : Nat → Int64) (x f : Int) (q_x : -2147483648 ≤ x ∧ x < 2147483648) (q_f : f = 0 ∨ f = 1) : Met l yL_chute wsL_chute ({ frames := 8, cells := 1, slots := 6, locals := 130 }) (ct_P D cy [.ref (ga 0), .int (zz_i (x)), .int (zz_i (f)), .ref (o)] (cw_ cy ga ad σ ++ ow_ cy o g) sz) (ct_Q D cy (cw_ cy ga ad σ ++ ow_ cy o g) sz (some (.int (zz_i (k_chu σ x)))) (fun u : (Int → Nat) × (Nat → Int64) => k_chu σ x = 0 → u.2 0 = lo_ (σ 11 x)) (fun u => cw_ cy ga u.1 (nx_ (k_chu σ x) σ (up_a σ 11 x f)) ++ ow_ cy o u.2)) 1 6 (va_A (cw_ cy ga ad σ ++ ow_ cy o g) sz) := by
  refine me_ofWH (cc := cL_chute) (maxL := 5) (ret := (some .int)) (by decide) rfl ?_
  intro p e s m args below meth c s₁ B hml hv
  obtain ⟨rfl, rfl, hP, hK, hD0, hE⟩ := hv
  have hx := B.exec
  have hb := B.bytes
  have hr := B.returns
  have hts := atoms_spec (ws := wsL_chute) B.pre
  have hown : s.vm.findClass RL = some m.cls := findClass_of_methodNamed B.named
  have htab := vx_table (x := yL_chute) B (hts (.codeWith yL_chute cL_chute 5 (some .int) [(0, 17, 20, 13)]) List.mem_cons_self)
  have hD := hD0.self (sz := s.heap.size)
  obtain ⟨A, hAe⟩ : ∃ A, A = va_A (cw_ cy ga ad σ ++ ow_ cy o g) s.heap.size := ⟨_, rfl⟩
  rw [← hAe] at hD hE
  have hA : ∀ q : Nat, s.heap.size ≤ q → A q := fun q h => by rw [hAe]; exact Or.inr h
  have hS : va_S A s.heap s.heap [] := va_S.rf
  have hP : va_P D zz_cl (cw_ cy ga ad σ ++ ow_ cy o g) s.heap := hP
  have hl := lv_entry ([.ref (ga 0), .int (zz_i (x)), .int (zz_i (f)), .ref (o)]) (n := 5) (Nat.le_of_ble_eq_true rfl)
  rw [lg_entry_eq]
  generalize (lg_sl ([.ref (ga 0), .int (zz_i (x)), .int (zz_i (f)), .ref (o)]) ++ List.replicate (5 - (lg_sl ([.ref (ga 0), .int (zz_i (x)), .int (zz_i (f)), .ref (o)])).length) Slot.unset).toArray = ls at hl ⊢
  have hl : lv_has ls 5 [(0, .ref (ga 0)), (1, .int (zz_i (x))), (2, .int (zz_i (f))), (3, .ref (o))] := hl
  have hkr := kr_chu σ x
  have hbv : σ 11 x = 0 ∨ σ 11 x = 1 := hI.2.2.1 x
  refine lv_aload_n hx hb dL_chute_0 rfl (lv_at hl 3 rfl) ?_
  refine lv_iconst (v := zz_i (0)) hx hb dL_chute_1 rfl ?_
  refine lv_aload_n hx hb dL_chute_2 rfl (lv_at hl 0 rfl) ?_
  refine lv_iload_n hx hb dL_chute_3 rfl (lv_at hl 1 rfl) ?_
  refine lv_iload_n hx hb dL_chute_4 rfl (lv_at hl 2 rfl) ?_
  refine zf_x (wc := cw_ cy ga ad σ) (wr := ow_ cy o g) (As := [.int (zz_i (x)), .int (zz_i (f))]) (rest := [.int (zz_i (0)), .ref (o)]) (S := Unit) (pc := 5) ⟨hx, hb, hml, hown, hts⟩ (c_chute l hl9 D cy ga ad σ _ hI x f q_x q_f) (cwV 2 hts gL_chute_X2_chute rfl rfl rfl (by decide +kernel) ⟨(Nat.le_of_ble_eq_true rfl), (Nat.le_of_ble_eq_true rfl)⟩) hK hP hD hS hA hE (va_recv hK hP (ci := 2) (q0 := 0) rfl rfl) rfl hl.1 rfl (Nat.le_of_ble_eq_true rfl) dL_chute_5 ⟨(Nat.le_of_ble_eq_true rfl), (Nat.le_of_ble_eq_true rfl)⟩ (fun kb ce q9 H locs hP hD hS hce hcv hcl => ?_) (fun u9 H locs kb hP hD hS => ?_)
  · have hn9 : nx_ (k_chu σ x) σ (up_a σ 11 x f) = σ := nx_n kb
    have hk9 : k_chu σ x = 1 := by omega
    refine vx_catch (own := RL) (name := "java/lang/IllegalArgumentException") (E := "java/lang/IllegalArgumentException") hown [] ⟨0, 17, 20, 13⟩ [] (htab.trans rfl) (fun z hz => by simp at hz) (by decide) (by decide) (hts (.classLink RL 13 "java/lang/IllegalArgumentException") (by decide +kernel)) (va_Nw.use (ev_ot _ (by decide +kernel)) (hE.2.2.1 (.castable "java/lang/IllegalArgumentException" "java/lang/IllegalArgumentException") (by decide +kernel))) hce hcv hcl ?_
    refine W.eq (g2 := F0 m 20 ls [.ref q9]) rfl ?_
    refine lv_astore (lv' := [(4, .ref (q9)), (0, .ref (ga 0)), (1, .int (zz_i (x))), (2, .int (zz_i (f))), (3, .ref (o))]) hx hb dL_chute_20 hl (by decide) rfl (fun ls hl => ?_)
    refine lv_iconst (v := zz_i (1)) hx hb dL_chute_22 rfl ?_
    subst hAe
    refine W.widen (k := 1) (n := 6) (by omega) (by omega) ?_
    exact W.iret (v := zz_i (1)) hx hb hr (fun t ht hW => ⟨congrArg (fun z => Outcome.returned (some (Value.int (zz_i z)))) hk9.symm, ⟨(ad, g), fun h9 => absurd h9 (by omega), by rw [ht, hn9]; exact hP, va_K.moved hW.alike hK, by rw [hn9]; exact hD⟩, hS.F ht⟩) hS.2.2 dL_chute_23
  · have hk9 : k_chu σ x = 0 := kb
    have hn9 : nx_ (k_chu σ x) σ (up_a σ 11 x f) = up_a σ 11 x f := nx_0 hk9
    have hP : va_P D zz_cl (cw_ cy ga ad (up_a σ 11 x f) ++ ow_ cy o g) H := hP
    have hD : va_D A (cw_ cy ga ad (up_a σ 11 x f) ++ ow_ cy o g) := hD
    refine W.eq (g2 := F0 m 8 ls [.int (zz_i (σ 11 x)), .int (zz_i (0)), .ref (o)]) rfl ?_
    refine zz_if_eq (tgt := 15) hx hb dL_chute_8 (by decide) (by omega) (fun c8 => ?_) (fun c8 => ?_)
    · have hv8 : σ 11 x = 0 := by omega
      refine lv_lconst (v := lo_ 0) hx hb dL_chute_15 (by decide) ?_
      refine zz_last hx hb hK hP hD hS dL_chute_16 (fun g9 H locs hg9 hP hD hS => ?_)
      have hg9 : g9 0 = lo_ (σ 11 x) := by rw [hg9, hv8]
      refine lv_goto (tgt := 24) hx hb dL_chute_17 (by decide) ?_
      refine lv_iconst (v := zz_i (0)) hx hb dL_chute_24 rfl ?_
      subst hAe
      refine W.widen (k := 1) (n := 6) (by omega) (by omega) ?_
      exact W.iret (v := zz_i (0)) hx hb hr (fun t ht hW => ⟨congrArg (fun z => Outcome.returned (some (Value.int (zz_i z)))) hk9.symm, ⟨(ad, g9), fun _ => hg9, by rw [ht, hn9]; exact hP, va_K.moved hW.alike hK, by rw [hn9]; exact hD⟩, hS.F ht⟩) hS.2.2 dL_chute_25
    · have hv8 : σ 11 x = 1 := by omega
      refine lv_lconst (v := lo_ 1) hx hb dL_chute_11 (by decide) ?_
      refine lv_goto (tgt := 16) hx hb dL_chute_12 (by decide) ?_
      refine zz_last hx hb hK hP hD hS dL_chute_16 (fun g9 H locs hg9 hP hD hS => ?_)
      have hg9 : g9 0 = lo_ (σ 11 x) := by rw [hg9, hv8]
      refine lv_goto (tgt := 24) hx hb dL_chute_17 (by decide) ?_
      refine lv_iconst (v := zz_i (0)) hx hb dL_chute_24 rfl ?_
      subst hAe
      refine W.widen (k := 1) (n := 6) (by omega) (by omega) ?_
      exact W.iret (v := zz_i (0)) hx hb hr (fun t ht hW => ⟨congrArg (fun z => Outcome.returned (some (Value.int (zz_i z)))) hk9.symm, ⟨(ad, g9), fun _ => hg9, by rw [ht, hn9]; exact hP, va_K.moved hW.alike hK, by rw [hn9]; exact hD⟩, hS.F ht⟩) hS.2.2 dL_chute_25
set_option maxHeartbeats 4000000 in
set_option maxRecDepth 100000 in
theorem h_jam (l : Launch) (hl9 : l.stackTraces = false) (D : va_G) (cy ga : Nat → Nat) (ad : Int → Nat) (σ : zz_S) (sz : Nat) (hI : iv_ σ) (o : Nat) (g : Nat → Int64) (x y : Int) (q_x : -2147483648 ≤ x ∧ x < 2147483648) (q_y : -2147483648 ≤ y ∧ y < 2147483648) : Met l yL_jam wsL_jam ({ frames := 8, cells := 1, slots := 6, locals := 130 }) (ct_P D cy [.ref (ga 0), .int (zz_i (x)), .int (zz_i (y)), .ref (o)] (cw_ cy ga ad σ ++ ow_ cy o g) sz) (ct_Q D cy (cw_ cy ga ad σ ++ ow_ cy o g) sz (some (.int (zz_i (k_jam σ x y)))) (fun u : (Int → Nat) × (Nat → Int64) => k_jam σ x y = 0 → u.2 0 = lo_ (s_jam σ x y 7 0)) (fun u => cw_ cy ga u.1 (nx_ (k_jam σ x y) σ (s_jam σ x y)) ++ ow_ cy o u.2)) 1 6 (va_A (cw_ cy ga ad σ ++ ow_ cy o g) sz) := by
  refine me_ofWH (cc := cL_jam) (maxL := 5) (ret := (some .int)) (by decide) rfl ?_
  intro p e s m args below meth c s₁ B hml hv
  obtain ⟨rfl, rfl, hP, hK, hD0, hE⟩ := hv
  have hx := B.exec
  have hb := B.bytes
  have hr := B.returns
  have hts := atoms_spec (ws := wsL_jam) B.pre
  have hown : s.vm.findClass RL = some m.cls := findClass_of_methodNamed B.named
  have htab := vx_table (x := yL_jam) B (hts (.codeWith yL_jam cL_jam 5 (some .int) [(0, 10, 13, 13), (0, 10, 17, 21)]) List.mem_cons_self)
  have hD := hD0.self (sz := s.heap.size)
  obtain ⟨A, hAe⟩ : ∃ A, A = va_A (cw_ cy ga ad σ ++ ow_ cy o g) s.heap.size := ⟨_, rfl⟩
  rw [← hAe] at hD hE
  have hA : ∀ q : Nat, s.heap.size ≤ q → A q := fun q h => by rw [hAe]; exact Or.inr h
  have hS : va_S A s.heap s.heap [] := va_S.rf
  have hP : va_P D zz_cl (cw_ cy ga ad σ ++ ow_ cy o g) s.heap := hP
  have hl := lv_entry ([.ref (ga 0), .int (zz_i (x)), .int (zz_i (y)), .ref (o)]) (n := 5) (Nat.le_of_ble_eq_true rfl)
  rw [lg_entry_eq]
  generalize (lg_sl ([.ref (ga 0), .int (zz_i (x)), .int (zz_i (y)), .ref (o)]) ++ List.replicate (5 - (lg_sl ([.ref (ga 0), .int (zz_i (x)), .int (zz_i (y)), .ref (o)])).length) Slot.unset).toArray = ls at hl ⊢
  have hl : lv_has ls 5 [(0, .ref (ga 0)), (1, .int (zz_i (x))), (2, .int (zz_i (y))), (3, .ref (o))] := hl
  have hkr := kr_jam σ x y
  refine lv_aload_n hx hb dL_jam_0 rfl (lv_at hl 3 rfl) ?_
  refine lv_iconst (v := zz_i (0)) hx hb dL_jam_1 rfl ?_
  refine lv_aload_n hx hb dL_jam_2 rfl (lv_at hl 0 rfl) ?_
  refine lv_iload_n hx hb dL_jam_3 rfl (lv_at hl 1 rfl) ?_
  refine lv_iload_n hx hb dL_jam_4 rfl (lv_at hl 2 rfl) ?_
  refine zf_x (wc := cw_ cy ga ad σ) (wr := ow_ cy o g) (As := [.int (zz_i (x)), .int (zz_i (y))]) (rest := [.int (zz_i (0)), .ref (o)]) (S := Unit) (pc := 5) ⟨hx, hb, hml, hown, hts⟩ (c_jam l hl9 D cy ga ad σ _ hI x y q_x q_y) (cwV 2 hts gL_jam_X2_jam rfl rfl rfl (by decide +kernel) ⟨(Nat.le_of_ble_eq_true rfl), (Nat.le_of_ble_eq_true rfl)⟩) hK hP hD hS hA hE (va_recv hK hP (ci := 2) (q0 := 0) rfl rfl) rfl hl.1 rfl (Nat.le_of_ble_eq_true rfl) dL_jam_5 ⟨(Nat.le_of_ble_eq_true rfl), (Nat.le_of_ble_eq_true rfl)⟩ (fun kb ce q9 H locs hP hD hS hce hcv hcl => ?_) (fun u9 H locs kb hP hD hS => ?_)
  · have hn9 : nx_ (k_jam σ x y) σ (s_jam σ x y) = σ := nx_n kb
    rcases (show k_jam σ x y = 1 ∨ k_jam σ x y = 2 by omega) with hk9 | hk9
    · rw [show ex_s (k_jam σ x y) = "java/lang/IllegalArgumentException" from by rw [hk9]; rfl] at hcl
      refine vx_catch (own := RL) (name := "java/lang/IllegalArgumentException") (E := "java/lang/IllegalArgumentException") hown [] ⟨0, 10, 13, 13⟩ [⟨0, 10, 17, 21⟩] (htab.trans rfl) (fun z hz => by simp at hz) (by decide) (by decide) (hts (.classLink RL 13 "java/lang/IllegalArgumentException") (by decide +kernel)) (va_Nw.use (ev_ot _ (by decide +kernel)) (hE.2.2.1 (.castable "java/lang/IllegalArgumentException" "java/lang/IllegalArgumentException") (by decide +kernel))) hce hcv hcl ?_
      refine W.eq (g2 := F0 m 13 ls [.ref q9]) rfl ?_
      refine lv_astore (lv' := [(4, .ref (q9)), (0, .ref (ga 0)), (1, .int (zz_i (x))), (2, .int (zz_i (y))), (3, .ref (o))]) hx hb dL_jam_13 hl (by decide) rfl (fun ls hl => ?_)
      refine lv_iconst (v := zz_i (1)) hx hb dL_jam_15 rfl ?_
      subst hAe
      refine W.widen (k := 1) (n := 6) (by omega) (by omega) ?_
      exact W.iret (v := zz_i (1)) hx hb hr (fun t ht hW => ⟨congrArg (fun z => Outcome.returned (some (Value.int (zz_i z)))) hk9.symm, ⟨(ad, g), fun h9 => absurd h9 (by omega), by rw [ht, hn9]; exact hP, va_K.moved hW.alike hK, by rw [hn9]; exact hD⟩, hS.F ht⟩) hS.2.2 dL_jam_16
    · rw [show ex_s (k_jam σ x y) = "java/lang/IllegalStateException" from by rw [hk9]; rfl] at hcl
      refine vx_catch (own := RL) (name := "java/lang/IllegalStateException") (E := "java/lang/IllegalStateException") hown [⟨0, 10, 13, 13⟩] ⟨0, 10, 17, 21⟩ [] (htab.trans rfl) (fun z hz => by rw [List.mem_singleton] at hz; subst hz; exact Or.inr ⟨by decide, "java/lang/IllegalArgumentException", hts (.classLink RL 13 "java/lang/IllegalArgumentException") (by decide +kernel), hE.2.2.2.2.1⟩) (by decide) (by decide) (hts (.classLink RL 21 "java/lang/IllegalStateException") (by decide +kernel)) (va_Nw.use (ev_ot _ (by decide +kernel)) (hE.2.2.1 (.castable "java/lang/IllegalStateException" "java/lang/IllegalStateException") (by decide +kernel))) hce hcv hcl ?_
      refine W.eq (g2 := F0 m 17 ls [.ref q9]) rfl ?_
      refine lv_astore (lv' := [(4, .ref (q9)), (0, .ref (ga 0)), (1, .int (zz_i (x))), (2, .int (zz_i (y))), (3, .ref (o))]) hx hb dL_jam_17 hl (by decide) rfl (fun ls hl => ?_)
      refine lv_iconst (v := zz_i (2)) hx hb dL_jam_19 rfl ?_
      subst hAe
      refine W.widen (k := 1) (n := 6) (by omega) (by omega) ?_
      exact W.iret (v := zz_i (2)) hx hb hr (fun t ht hW => ⟨congrArg (fun z => Outcome.returned (some (Value.int (zz_i z)))) hk9.symm, ⟨(ad, g), fun h9 => absurd h9 (by omega), by rw [ht, hn9]; exact hP, va_K.moved hW.alike hK, by rw [hn9]; exact hD⟩, hS.F ht⟩) hS.2.2 dL_jam_20
  · have hk9 : k_jam σ x y = 0 := kb
    have hn9 : nx_ (k_jam σ x y) σ (s_jam σ x y) = s_jam σ x y := nx_0 hk9
    have hP : va_P D zz_cl (cw_ cy ga ad (s_jam σ x y) ++ ow_ cy o g) H := hP
    have hD : va_D A (cw_ cy ga ad (s_jam σ x y) ++ ow_ cy o g) := hD
    refine W.eq (g2 := F0 m 8 ls [.int (zz_i (s_jam σ x y 7 0)), .int (zz_i (0)), .ref (o)]) rfl ?_
    refine lv_i2l (v := lo_ (s_jam σ x y 7 0)) hx hb dL_jam_8 rfl ?_
    refine zz_last hx hb hK hP hD hS dL_jam_9 (fun g9 H locs hg9 hP hD hS => ?_)
    refine lv_goto (tgt := 21) hx hb dL_jam_10 (by decide) ?_
    refine lv_iconst (v := zz_i (0)) hx hb dL_jam_21 rfl ?_
    subst hAe
    refine W.widen (k := 1) (n := 6) (by omega) (by omega) ?_
    exact W.iret (v := zz_i (0)) hx hb hr (fun t ht hW => ⟨congrArg (fun z => Outcome.returned (some (Value.int (zz_i z)))) hk9.symm, ⟨(ad, g9), fun _ => hg9, by rw [ht, hn9]; exact hP, va_K.moved hW.alike hK, by rw [hn9]; exact hD⟩, hS.F ht⟩) hS.2.2 dL_jam_22
set_option maxHeartbeats 4000000 in
set_option maxRecDepth 100000 in
theorem h_found (l : Launch) (hl9 : l.stackTraces = false) (D : va_G) (cy ga : Nat → Nat) (ad : Int → Nat) (σ : zz_S) (sz : Nat) (hI : iv_ σ) (o : Nat) (g : Nat → Int64) (x f : Int) (q_x : -2147483648 ≤ x ∧ x < 2147483648) (q_f : f = 0 ∨ f = 1) : Met l yL_found wsL_found ({ frames := 8, cells := 2, slots := 12, locals := 131 }) (ct_P D cy [.ref (ga 0), .int (zz_i (x)), .int (zz_i (f)), .ref (o)] (cw_ cy ga ad σ ++ ow_ cy o g) sz) (ct_Q D cy (cw_ cy ga ad σ ++ ow_ cy o g) sz (some (.int (zz_i (k_fou σ x)))) (fun u : (Int → Nat) × (Nat → Int64) => k_fou σ x = 0 → u.2 0 = lo_ (v_fou σ x f)) (fun u => cw_ cy ga u.1 (nx_ (k_fou σ x) σ (up_a σ 20 x f)) ++ ow_ cy o u.2)) 2 12 (va_A (cw_ cy ga ad σ ++ ow_ cy o g) sz) := by
  refine me_ofWH (cc := cL_found) (maxL := 5) (ret := (some .int)) (by decide) rfl ?_
  intro p e s m args below meth c s₁ B hml hv
  obtain ⟨rfl, rfl, hP, hK, hD0, hE⟩ := hv
  have hx := B.exec
  have hb := B.bytes
  have hr := B.returns
  have hts := atoms_spec (ws := wsL_found) B.pre
  have hown : s.vm.findClass RL = some m.cls := findClass_of_methodNamed B.named
  have htab := vx_table (x := yL_found) B (hts (.codeWith yL_found cL_found 5 (some .int) [(0, 10, 13, 13), (0, 10, 17, 21)]) List.mem_cons_self)
  have hD := hD0.self (sz := s.heap.size)
  obtain ⟨A, hAe⟩ : ∃ A, A = va_A (cw_ cy ga ad σ ++ ow_ cy o g) s.heap.size := ⟨_, rfl⟩
  rw [← hAe] at hD hE
  have hA : ∀ q : Nat, s.heap.size ≤ q → A q := fun q h => by rw [hAe]; exact Or.inr h
  have hS : va_S A s.heap s.heap [] := va_S.rf
  have hP : va_P D zz_cl (cw_ cy ga ad σ ++ ow_ cy o g) s.heap := hP
  have hl := lv_entry ([.ref (ga 0), .int (zz_i (x)), .int (zz_i (f)), .ref (o)]) (n := 5) (Nat.le_of_ble_eq_true rfl)
  rw [lg_entry_eq]
  generalize (lg_sl ([.ref (ga 0), .int (zz_i (x)), .int (zz_i (f)), .ref (o)]) ++ List.replicate (5 - (lg_sl ([.ref (ga 0), .int (zz_i (x)), .int (zz_i (f)), .ref (o)])).length) Slot.unset).toArray = ls at hl ⊢
  have hl : lv_has ls 5 [(0, .ref (ga 0)), (1, .int (zz_i (x))), (2, .int (zz_i (f))), (3, .ref (o))] := hl
  have hkr := kr_fou σ x
  refine lv_aload_n hx hb dL_found_0 rfl (lv_at hl 3 rfl) ?_
  refine lv_iconst (v := zz_i (0)) hx hb dL_found_1 rfl ?_
  refine lv_aload_n hx hb dL_found_2 rfl (lv_at hl 0 rfl) ?_
  refine lv_iload_n hx hb dL_found_3 rfl (lv_at hl 1 rfl) ?_
  refine lv_iload_n hx hb dL_found_4 rfl (lv_at hl 2 rfl) ?_
  refine zf_x (wc := cw_ cy ga ad σ) (wr := ow_ cy o g) (As := [.int (zz_i (x)), .int (zz_i (f))]) (rest := [.int (zz_i (0)), .ref (o)]) (S := Unit) (pc := 5) ⟨hx, hb, hml, hown, hts⟩ (c_found l hl9 D cy ga ad σ _ hI x f q_x q_f) (cwV 2 hts gL_found_X2_found rfl rfl rfl (by decide +kernel) ⟨(Nat.le_of_ble_eq_true rfl), (Nat.le_of_ble_eq_true rfl)⟩) hK hP hD hS hA hE (va_recv hK hP (ci := 2) (q0 := 0) rfl rfl) rfl hl.1 rfl (Nat.le_of_ble_eq_true rfl) dL_found_5 ⟨(Nat.le_of_ble_eq_true rfl), (Nat.le_of_ble_eq_true rfl)⟩ (fun kb ce q9 H locs hP hD hS hce hcv hcl => ?_) (fun u9 H locs kb hP hD hS => ?_)
  · have hn9 : nx_ (k_fou σ x) σ (up_a σ 20 x f) = σ := nx_n kb
    rcases (show k_fou σ x = 1 ∨ k_fou σ x = 2 by omega) with hk9 | hk9
    · rw [show ex_s (k_fou σ x) = "java/lang/IllegalArgumentException" from by rw [hk9]; rfl] at hcl
      refine vx_catch (own := RL) (name := "java/lang/IllegalArgumentException") (E := "java/lang/IllegalArgumentException") hown [] ⟨0, 10, 13, 13⟩ [⟨0, 10, 17, 21⟩] (htab.trans rfl) (fun z hz => by simp at hz) (by decide) (by decide) (hts (.classLink RL 13 "java/lang/IllegalArgumentException") (by decide +kernel)) (va_Nw.use (ev_ot _ (by decide +kernel)) (hE.2.2.1 (.castable "java/lang/IllegalArgumentException" "java/lang/IllegalArgumentException") (by decide +kernel))) hce hcv hcl ?_
      refine W.eq (g2 := F0 m 13 ls [.ref q9]) rfl ?_
      refine lv_astore (lv' := [(4, .ref (q9)), (0, .ref (ga 0)), (1, .int (zz_i (x))), (2, .int (zz_i (f))), (3, .ref (o))]) hx hb dL_found_13 hl (by decide) rfl (fun ls hl => ?_)
      refine lv_iconst (v := zz_i (1)) hx hb dL_found_15 rfl ?_
      subst hAe
      refine W.widen (k := 2) (n := 12) (by omega) (by omega) ?_
      exact W.iret (v := zz_i (1)) hx hb hr (fun t ht hW => ⟨congrArg (fun z => Outcome.returned (some (Value.int (zz_i z)))) hk9.symm, ⟨(ad, g), fun h9 => absurd h9 (by omega), by rw [ht, hn9]; exact hP, va_K.moved hW.alike hK, by rw [hn9]; exact hD⟩, hS.F ht⟩) hS.2.2 dL_found_16
    · rw [show ex_s (k_fou σ x) = "java/lang/IllegalStateException" from by rw [hk9]; rfl] at hcl
      refine vx_catch (own := RL) (name := "java/lang/IllegalStateException") (E := "java/lang/IllegalStateException") hown [⟨0, 10, 13, 13⟩] ⟨0, 10, 17, 21⟩ [] (htab.trans rfl) (fun z hz => by rw [List.mem_singleton] at hz; subst hz; exact Or.inr ⟨by decide, "java/lang/IllegalArgumentException", hts (.classLink RL 13 "java/lang/IllegalArgumentException") (by decide +kernel), hE.2.2.2.2.1⟩) (by decide) (by decide) (hts (.classLink RL 21 "java/lang/IllegalStateException") (by decide +kernel)) (va_Nw.use (ev_ot _ (by decide +kernel)) (hE.2.2.1 (.castable "java/lang/IllegalStateException" "java/lang/IllegalStateException") (by decide +kernel))) hce hcv hcl ?_
      refine W.eq (g2 := F0 m 17 ls [.ref q9]) rfl ?_
      refine lv_astore (lv' := [(4, .ref (q9)), (0, .ref (ga 0)), (1, .int (zz_i (x))), (2, .int (zz_i (f))), (3, .ref (o))]) hx hb dL_found_17 hl (by decide) rfl (fun ls hl => ?_)
      refine lv_iconst (v := zz_i (2)) hx hb dL_found_19 rfl ?_
      subst hAe
      refine W.widen (k := 2) (n := 12) (by omega) (by omega) ?_
      exact W.iret (v := zz_i (2)) hx hb hr (fun t ht hW => ⟨congrArg (fun z => Outcome.returned (some (Value.int (zz_i z)))) hk9.symm, ⟨(ad, g), fun h9 => absurd h9 (by omega), by rw [ht, hn9]; exact hP, va_K.moved hW.alike hK, by rw [hn9]; exact hD⟩, hS.F ht⟩) hS.2.2 dL_found_20
  · have hk9 : k_fou σ x = 0 := kb
    have hn9 : nx_ (k_fou σ x) σ (up_a σ 20 x f) = up_a σ 20 x f := nx_0 hk9
    have hP : va_P D zz_cl (cw_ cy ga ad (up_a σ 20 x f) ++ ow_ cy o g) H := hP
    have hD : va_D A (cw_ cy ga ad (up_a σ 20 x f) ++ ow_ cy o g) := hD
    refine W.eq (g2 := F0 m 8 ls [.int (zz_i (v_fou σ x f)), .int (zz_i (0)), .ref (o)]) rfl ?_
    refine lv_i2l (v := lo_ (v_fou σ x f)) hx hb dL_found_8 rfl ?_
    refine zz_last hx hb hK hP hD hS dL_found_9 (fun g9 H locs hg9 hP hD hS => ?_)
    refine lv_goto (tgt := 21) hx hb dL_found_10 (by decide) ?_
    refine lv_iconst (v := zz_i (0)) hx hb dL_found_21 rfl ?_
    subst hAe
    refine W.widen (k := 2) (n := 12) (by omega) (by omega) ?_
    exact W.iret (v := zz_i (0)) hx hb hr (fun t ht hW => ⟨congrArg (fun z => Outcome.returned (some (Value.int (zz_i z)))) hk9.symm, ⟨(ad, g9), fun _ => hg9, by rw [ht, hn9]; exact hP, va_K.moved hW.alike hK, by rw [hn9]; exact hD⟩, hS.F ht⟩) hS.2.2 dL_found_22
set_option maxHeartbeats 4000000 in
set_option maxRecDepth 100000 in
theorem h_retrack (l : Launch) (hl9 : l.stackTraces = false) (D : va_G) (cy ga : Nat → Nat) (ad : Int → Nat) (σ : zz_S) (sz : Nat) (hI : iv_ σ) (o : Nat) (g : Nat → Int64) : Met l yL_retrack wsL_retrack ({ frames := 7, cells := 1, slots := 6, locals := 111 }) (ct_P D cy [.ref (ga 0), .ref (o)] (cw_ cy ga ad σ ++ ow_ cy o g) sz) (ct_Q D cy (cw_ cy ga ad σ ++ ow_ cy o g) sz (some (.int (zz_i (k_rtk σ)))) (fun u : (Int → Nat) × (Nat → Int64) => k_rtk σ = 0 → u.2 0 = lo_ (s_rtk σ 5 0 - σ 5 0)) (fun u => cw_ cy ga u.1 (nx_ (k_rtk σ) σ (s_rtk σ)) ++ ow_ cy o u.2)) 1 6 (va_A (cw_ cy ga ad σ ++ ow_ cy o g) sz) := by
  refine me_ofWH (cc := cL_retrack) (maxL := 3) (ret := (some .int)) (by decide) rfl ?_
  intro p e s m args below meth c s₁ B hml hv
  obtain ⟨rfl, rfl, hP, hK, hD0, hE⟩ := hv
  have hx := B.exec
  have hb := B.bytes
  have hr := B.returns
  have hts := atoms_spec (ws := wsL_retrack) B.pre
  have hown : s.vm.findClass RL = some m.cls := findClass_of_methodNamed B.named
  have htab := vx_table (x := yL_retrack) B (hts (.codeWith yL_retrack cL_retrack 3 (some .int) [(0, 8, 11, 21)]) List.mem_cons_self)
  have hD := hD0.self (sz := s.heap.size)
  obtain ⟨A, hAe⟩ : ∃ A, A = va_A (cw_ cy ga ad σ ++ ow_ cy o g) s.heap.size := ⟨_, rfl⟩
  rw [← hAe] at hD hE
  have hA : ∀ q : Nat, s.heap.size ≤ q → A q := fun q h => by rw [hAe]; exact Or.inr h
  have hS : va_S A s.heap s.heap [] := va_S.rf
  have hP : va_P D zz_cl (cw_ cy ga ad σ ++ ow_ cy o g) s.heap := hP
  have hl := lv_entry ([.ref (ga 0), .ref (o)]) (n := 3) (Nat.le_of_ble_eq_true rfl)
  rw [lg_entry_eq]
  generalize (lg_sl ([.ref (ga 0), .ref (o)]) ++ List.replicate (3 - (lg_sl ([.ref (ga 0), .ref (o)])).length) Slot.unset).toArray = ls at hl ⊢
  have hl : lv_has ls 3 [(0, .ref (ga 0)), (1, .ref (o))] := hl
  have hkr := kr_rtk σ
  refine lv_aload_n hx hb dL_retrack_0 rfl (lv_at hl 1 rfl) ?_
  refine lv_iconst (v := zz_i (0)) hx hb dL_retrack_1 rfl ?_
  refine lv_aload_n hx hb dL_retrack_2 rfl (lv_at hl 0 rfl) ?_
  refine zf_x (wc := cw_ cy ga ad σ) (wr := ow_ cy o g) (As := []) (rest := [.int (zz_i (0)), .ref (o)]) (S := Unit) (pc := 3) ⟨hx, hb, hml, hown, hts⟩ (c_retrack l hl9 D cy ga ad σ _ hI  ) (cwV 0 hts gL_retrack_X2_retrack rfl rfl rfl (by decide +kernel) ⟨(Nat.le_of_ble_eq_true rfl), (Nat.le_of_ble_eq_true rfl)⟩) hK hP hD hS hA hE (va_recv hK hP (ci := 2) (q0 := 0) rfl rfl) rfl hl.1 rfl (Nat.le_of_ble_eq_true rfl) dL_retrack_3 ⟨(Nat.le_of_ble_eq_true rfl), (Nat.le_of_ble_eq_true rfl)⟩ (fun kb ce q9 H locs hP hD hS hce hcv hcl => ?_) (fun u9 H locs kb hP hD hS => ?_)
  · have hn9 : nx_ (k_rtk σ) σ (s_rtk σ) = σ := nx_n kb
    have hk9 : k_rtk σ = 1 := by omega
    refine vx_catch (own := RL) (name := "java/lang/IllegalStateException") (E := "java/lang/IllegalStateException") hown [] ⟨0, 8, 11, 21⟩ [] (htab.trans rfl) (fun z hz => by simp at hz) (by decide) (by decide) (hts (.classLink RL 21 "java/lang/IllegalStateException") (by decide +kernel)) (va_Nw.use (ev_ot _ (by decide +kernel)) (hE.2.2.1 (.castable "java/lang/IllegalStateException" "java/lang/IllegalStateException") (by decide +kernel))) hce hcv hcl ?_
    refine W.eq (g2 := F0 m 11 ls [.ref q9]) rfl ?_
    refine lv_astore_n (lv' := [(2, .ref (q9)), (0, .ref (ga 0)), (1, .ref (o))]) hx hb dL_retrack_11 rfl hl (by decide) rfl (fun ls hl => ?_)
    refine lv_iconst (v := zz_i (1)) hx hb dL_retrack_12 rfl ?_
    subst hAe
    refine W.widen (k := 1) (n := 6) (by omega) (by omega) ?_
    exact W.iret (v := zz_i (1)) hx hb hr (fun t ht hW => ⟨congrArg (fun z => Outcome.returned (some (Value.int (zz_i z)))) hk9.symm, ⟨(ad, g), fun h9 => absurd h9 (by omega), by rw [ht, hn9]; exact hP, va_K.moved hW.alike hK, by rw [hn9]; exact hD⟩, hS.F ht⟩) hS.2.2 dL_retrack_13
  · have hk9 : k_rtk σ = 0 := kb
    have hn9 : nx_ (k_rtk σ) σ (s_rtk σ) = s_rtk σ := nx_0 hk9
    have hP : va_P D zz_cl (cw_ cy ga ad (s_rtk σ) ++ ow_ cy o g) H := hP
    have hD : va_D A (cw_ cy ga ad (s_rtk σ) ++ ow_ cy o g) := hD
    refine W.eq (g2 := F0 m 6 ls [.int (zz_i (s_rtk σ 5 0 - σ 5 0)), .int (zz_i (0)), .ref (o)]) rfl ?_
    refine lv_i2l (v := lo_ (s_rtk σ 5 0 - σ 5 0)) hx hb dL_retrack_6 rfl ?_
    refine zz_last hx hb hK hP hD hS dL_retrack_7 (fun g9 H locs hg9 hP hD hS => ?_)
    refine lv_goto (tgt := 14) hx hb dL_retrack_8 (by decide) ?_
    refine lv_iconst (v := zz_i (0)) hx hb dL_retrack_14 rfl ?_
    subst hAe
    refine W.widen (k := 1) (n := 6) (by omega) (by omega) ?_
    exact W.iret (v := zz_i (0)) hx hb hr (fun t ht hW => ⟨congrArg (fun z => Outcome.returned (some (Value.int (zz_i z)))) hk9.symm, ⟨(ad, g9), fun _ => hg9, by rw [ht, hn9]; exact hP, va_K.moved hW.alike hK, by rw [hn9]; exact hD⟩, hS.F ht⟩) hS.2.2 dL_retrack_15
set_option maxHeartbeats 4000000 in
set_option maxRecDepth 100000 in
theorem h_manual (l : Launch) (hl9 : l.stackTraces = false) (D : va_G) (cy ga : Nat → Nat) (ad : Int → Nat) (σ : zz_S) (sz : Nat) (hI : iv_ σ) (o : Nat) (g : Nat → Int64) (x y : Int) (q_x : -2147483648 ≤ x ∧ x < 2147483648) (q_y : -2147483648 ≤ y ∧ y < 2147483648) : Met l yL_manual wsL_manual ({ frames := 8, cells := 3, slots := 18, locals := 131 }) (ct_P D cy [.ref (ga 0), .int (zz_i (x)), .int (zz_i (y)), .ref (o)] (cw_ cy ga ad σ ++ ow_ cy o g) sz) (ct_Q D cy (cw_ cy ga ad σ ++ ow_ cy o g) sz (some (.int (zz_i (k_man σ x y)))) (fun u : (Int → Nat) × (Nat → Int64) => k_man σ x y = 0 → u.2 0 = lo_ (v_man σ y)) (fun u => cw_ cy ga u.1 (nx_ (k_man σ x y) σ (s_man σ x y)) ++ ow_ cy o u.2)) 3 18 (va_A (cw_ cy ga ad σ ++ ow_ cy o g) sz) := by
  refine me_ofWH (cc := cL_manual) (maxL := 5) (ret := (some .int)) (by decide) rfl ?_
  intro p e s m args below meth c s₁ B hml hv
  obtain ⟨rfl, rfl, hP, hK, hD0, hE⟩ := hv
  have hx := B.exec
  have hb := B.bytes
  have hr := B.returns
  have hts := atoms_spec (ws := wsL_manual) B.pre
  have hown : s.vm.findClass RL = some m.cls := findClass_of_methodNamed B.named
  have htab := vx_table (x := yL_manual) B (hts (.codeWith yL_manual cL_manual 5 (some .int) [(0, 17, 20, 13), (0, 17, 24, 21)]) List.mem_cons_self)
  have hD := hD0.self (sz := s.heap.size)
  obtain ⟨A, hAe⟩ : ∃ A, A = va_A (cw_ cy ga ad σ ++ ow_ cy o g) s.heap.size := ⟨_, rfl⟩
  rw [← hAe] at hD hE
  have hA : ∀ q : Nat, s.heap.size ≤ q → A q := fun q h => by rw [hAe]; exact Or.inr h
  have hS : va_S A s.heap s.heap [] := va_S.rf
  have hP : va_P D zz_cl (cw_ cy ga ad σ ++ ow_ cy o g) s.heap := hP
  have hl := lv_entry ([.ref (ga 0), .int (zz_i (x)), .int (zz_i (y)), .ref (o)]) (n := 5) (Nat.le_of_ble_eq_true rfl)
  rw [lg_entry_eq]
  generalize (lg_sl ([.ref (ga 0), .int (zz_i (x)), .int (zz_i (y)), .ref (o)]) ++ List.replicate (5 - (lg_sl ([.ref (ga 0), .int (zz_i (x)), .int (zz_i (y)), .ref (o)])).length) Slot.unset).toArray = ls at hl ⊢
  have hl : lv_has ls 5 [(0, .ref (ga 0)), (1, .int (zz_i (x))), (2, .int (zz_i (y))), (3, .ref (o))] := hl
  have hkr := kr_man σ x y
  have hbv : v_man σ y = 0 ∨ v_man σ y = 1 := v_man_b σ y
  refine lv_aload_n hx hb dL_manual_0 rfl (lv_at hl 3 rfl) ?_
  refine lv_iconst (v := zz_i (0)) hx hb dL_manual_1 rfl ?_
  refine lv_aload_n hx hb dL_manual_2 rfl (lv_at hl 0 rfl) ?_
  refine lv_iload_n hx hb dL_manual_3 rfl (lv_at hl 1 rfl) ?_
  refine lv_iload_n hx hb dL_manual_4 rfl (lv_at hl 2 rfl) ?_
  refine zf_x (wc := cw_ cy ga ad σ) (wr := ow_ cy o g) (As := [.int (zz_i (x)), .int (zz_i (y))]) (rest := [.int (zz_i (0)), .ref (o)]) (S := Unit) (pc := 5) ⟨hx, hb, hml, hown, hts⟩ (c_manual l hl9 D cy ga ad σ _ hI x y q_x q_y) (cwV 2 hts gL_manual_X2_manual rfl rfl rfl (by decide +kernel) ⟨(Nat.le_of_ble_eq_true rfl), (Nat.le_of_ble_eq_true rfl)⟩) hK hP hD hS hA hE (va_recv hK hP (ci := 2) (q0 := 0) rfl rfl) rfl hl.1 rfl (Nat.le_of_ble_eq_true rfl) dL_manual_5 ⟨(Nat.le_of_ble_eq_true rfl), (Nat.le_of_ble_eq_true rfl)⟩ (fun kb ce q9 H locs hP hD hS hce hcv hcl => ?_) (fun u9 H locs kb hP hD hS => ?_)
  · have hn9 : nx_ (k_man σ x y) σ (s_man σ x y) = σ := nx_n kb
    rcases (show k_man σ x y = 1 ∨ k_man σ x y = 2 by omega) with hk9 | hk9
    · rw [show ex_s (k_man σ x y) = "java/lang/IllegalArgumentException" from by rw [hk9]; rfl] at hcl
      refine vx_catch (own := RL) (name := "java/lang/IllegalArgumentException") (E := "java/lang/IllegalArgumentException") hown [] ⟨0, 17, 20, 13⟩ [⟨0, 17, 24, 21⟩] (htab.trans rfl) (fun z hz => by simp at hz) (by decide) (by decide) (hts (.classLink RL 13 "java/lang/IllegalArgumentException") (by decide +kernel)) (va_Nw.use (ev_ot _ (by decide +kernel)) (hE.2.2.1 (.castable "java/lang/IllegalArgumentException" "java/lang/IllegalArgumentException") (by decide +kernel))) hce hcv hcl ?_
      refine W.eq (g2 := F0 m 20 ls [.ref q9]) rfl ?_
      refine lv_astore (lv' := [(4, .ref (q9)), (0, .ref (ga 0)), (1, .int (zz_i (x))), (2, .int (zz_i (y))), (3, .ref (o))]) hx hb dL_manual_20 hl (by decide) rfl (fun ls hl => ?_)
      refine lv_iconst (v := zz_i (1)) hx hb dL_manual_22 rfl ?_
      subst hAe
      refine W.widen (k := 3) (n := 18) (by omega) (by omega) ?_
      exact W.iret (v := zz_i (1)) hx hb hr (fun t ht hW => ⟨congrArg (fun z => Outcome.returned (some (Value.int (zz_i z)))) hk9.symm, ⟨(ad, g), fun h9 => absurd h9 (by omega), by rw [ht, hn9]; exact hP, va_K.moved hW.alike hK, by rw [hn9]; exact hD⟩, hS.F ht⟩) hS.2.2 dL_manual_23
    · rw [show ex_s (k_man σ x y) = "java/lang/IllegalStateException" from by rw [hk9]; rfl] at hcl
      refine vx_catch (own := RL) (name := "java/lang/IllegalStateException") (E := "java/lang/IllegalStateException") hown [⟨0, 17, 20, 13⟩] ⟨0, 17, 24, 21⟩ [] (htab.trans rfl) (fun z hz => by rw [List.mem_singleton] at hz; subst hz; exact Or.inr ⟨by decide, "java/lang/IllegalArgumentException", hts (.classLink RL 13 "java/lang/IllegalArgumentException") (by decide +kernel), hE.2.2.2.2.1⟩) (by decide) (by decide) (hts (.classLink RL 21 "java/lang/IllegalStateException") (by decide +kernel)) (va_Nw.use (ev_ot _ (by decide +kernel)) (hE.2.2.1 (.castable "java/lang/IllegalStateException" "java/lang/IllegalStateException") (by decide +kernel))) hce hcv hcl ?_
      refine W.eq (g2 := F0 m 24 ls [.ref q9]) rfl ?_
      refine lv_astore (lv' := [(4, .ref (q9)), (0, .ref (ga 0)), (1, .int (zz_i (x))), (2, .int (zz_i (y))), (3, .ref (o))]) hx hb dL_manual_24 hl (by decide) rfl (fun ls hl => ?_)
      refine lv_iconst (v := zz_i (2)) hx hb dL_manual_26 rfl ?_
      subst hAe
      refine W.widen (k := 3) (n := 18) (by omega) (by omega) ?_
      exact W.iret (v := zz_i (2)) hx hb hr (fun t ht hW => ⟨congrArg (fun z => Outcome.returned (some (Value.int (zz_i z)))) hk9.symm, ⟨(ad, g), fun h9 => absurd h9 (by omega), by rw [ht, hn9]; exact hP, va_K.moved hW.alike hK, by rw [hn9]; exact hD⟩, hS.F ht⟩) hS.2.2 dL_manual_27
  · have hk9 : k_man σ x y = 0 := kb
    have hn9 : nx_ (k_man σ x y) σ (s_man σ x y) = s_man σ x y := nx_0 hk9
    have hP : va_P D zz_cl (cw_ cy ga ad (s_man σ x y) ++ ow_ cy o g) H := hP
    have hD : va_D A (cw_ cy ga ad (s_man σ x y) ++ ow_ cy o g) := hD
    refine W.eq (g2 := F0 m 8 ls [.int (zz_i (v_man σ y)), .int (zz_i (0)), .ref (o)]) rfl ?_
    refine zz_if_eq (tgt := 15) hx hb dL_manual_8 (by decide) (by omega) (fun c8 => ?_) (fun c8 => ?_)
    · have hv8 : v_man σ y = 0 := by omega
      refine lv_lconst (v := lo_ 0) hx hb dL_manual_15 (by decide) ?_
      refine zz_last hx hb hK hP hD hS dL_manual_16 (fun g9 H locs hg9 hP hD hS => ?_)
      have hg9 : g9 0 = lo_ (v_man σ y) := by rw [hg9, hv8]
      refine lv_goto (tgt := 28) hx hb dL_manual_17 (by decide) ?_
      refine lv_iconst (v := zz_i (0)) hx hb dL_manual_28 rfl ?_
      subst hAe
      refine W.widen (k := 3) (n := 18) (by omega) (by omega) ?_
      exact W.iret (v := zz_i (0)) hx hb hr (fun t ht hW => ⟨congrArg (fun z => Outcome.returned (some (Value.int (zz_i z)))) hk9.symm, ⟨(ad, g9), fun _ => hg9, by rw [ht, hn9]; exact hP, va_K.moved hW.alike hK, by rw [hn9]; exact hD⟩, hS.F ht⟩) hS.2.2 dL_manual_29
    · have hv8 : v_man σ y = 1 := by omega
      refine lv_lconst (v := lo_ 1) hx hb dL_manual_11 (by decide) ?_
      refine lv_goto (tgt := 16) hx hb dL_manual_12 (by decide) ?_
      refine zz_last hx hb hK hP hD hS dL_manual_16 (fun g9 H locs hg9 hP hD hS => ?_)
      have hg9 : g9 0 = lo_ (v_man σ y) := by rw [hg9, hv8]
      refine lv_goto (tgt := 28) hx hb dL_manual_17 (by decide) ?_
      refine lv_iconst (v := zz_i (0)) hx hb dL_manual_28 rfl ?_
      subst hAe
      refine W.widen (k := 3) (n := 18) (by omega) (by omega) ?_
      exact W.iret (v := zz_i (0)) hx hb hr (fun t ht hW => ⟨congrArg (fun z => Outcome.returned (some (Value.int (zz_i z)))) hk9.symm, ⟨(ad, g9), fun _ => hg9, by rw [ht, hn9]; exact hP, va_K.moved hW.alike hK, by rw [hn9]; exact hD⟩, hS.F ht⟩) hS.2.2 dL_manual_29
set_option maxHeartbeats 4000000 in
set_option maxRecDepth 100000 in
theorem h_tray (l : Launch) (hl9 : l.stackTraces = false) (D : va_G) (cy ga : Nat → Nat) (ad : Int → Nat) (σ : zz_S) (sz : Nat) (hI : iv_ σ) (o : Nat) (g : Nat → Int64) (x : Int) (q_x : -2147483648 ≤ x ∧ x < 2147483648) : Met l yL_tray wsL_trayB ({ frames := 8, cells := 1, slots := 6, locals := 121 }) (ct_P D cy [.ref (ga 0), .int (zz_i (x)), .ref (o)] (cw_ cy ga ad σ ++ ow_ cy o g) sz) (ct_Q D cy (cw_ cy ga ad σ ++ ow_ cy o g) sz (some (.int (zz_i (k_tra σ x)))) (fun u : (Int → Nat) × (Nat → Int64) => k_tra σ x = 0 → u.2 0 = lo_ (σ 10 x)) (fun u => cw_ cy ga u.1 (nx_ (k_tra σ x) σ (σ)) ++ ow_ cy o u.2)) 1 6 (va_A (cw_ cy ga ad σ ++ ow_ cy o g) sz) := by
  refine me_ofWH (cc := cL_tray) (maxL := 4) (ret := (some .int)) (by decide) rfl ?_
  intro p e s m args below meth c s₁ B hml hv
  obtain ⟨rfl, rfl, hP, hK, hD0, hE⟩ := hv
  have hx := B.exec
  have hb := B.bytes
  have hr := B.returns
  have hts := atoms_spec (ws := wsL_trayB) B.pre
  have hown : s.vm.findClass RL = some m.cls := findClass_of_methodNamed B.named
  have htab := vx_table (x := yL_tray) B (hts (.codeWith yL_tray cL_tray 4 (some .int) [(0, 9, 12, 59)]) List.mem_cons_self)
  have hD := hD0.self (sz := s.heap.size)
  obtain ⟨A, hAe⟩ : ∃ A, A = va_A (cw_ cy ga ad σ ++ ow_ cy o g) s.heap.size := ⟨_, rfl⟩
  rw [← hAe] at hD hE
  have hA : ∀ q : Nat, s.heap.size ≤ q → A q := fun q h => by rw [hAe]; exact Or.inr h
  have hS : va_S A s.heap s.heap [] := va_S.rf
  have hP : va_P D zz_cl (cw_ cy ga ad σ ++ ow_ cy o g) s.heap := hP
  have hl := lv_entry ([.ref (ga 0), .int (zz_i (x)), .ref (o)]) (n := 4) (Nat.le_of_ble_eq_true rfl)
  rw [lg_entry_eq]
  generalize (lg_sl ([.ref (ga 0), .int (zz_i (x)), .ref (o)]) ++ List.replicate (4 - (lg_sl ([.ref (ga 0), .int (zz_i (x)), .ref (o)])).length) Slot.unset).toArray = ls at hl ⊢
  have hl : lv_has ls 4 [(0, .ref (ga 0)), (1, .int (zz_i (x))), (2, .ref (o))] := hl
  have hkr := kr_tra σ x
  refine lv_aload_n hx hb dL_tray_0 rfl (lv_at hl 2 rfl) ?_
  refine lv_iconst (v := zz_i (0)) hx hb dL_tray_1 rfl ?_
  refine lv_aload_n hx hb dL_tray_2 rfl (lv_at hl 0 rfl) ?_
  refine lv_iload_n hx hb dL_tray_3 rfl (lv_at hl 1 rfl) ?_
  refine zf_x (wc := cw_ cy ga ad σ) (wr := ow_ cy o g) (As := [.int (zz_i (x))]) (rest := [.int (zz_i (0)), .ref (o)]) (S := Unit) (pc := 4) ⟨hx, hb, hml, hown, hts⟩ (c_tray l hl9 D cy ga ad σ _ hI x q_x) (cwV 1 hts gL_trayB_X2_tray rfl rfl rfl (by decide +kernel) ⟨(Nat.le_of_ble_eq_true rfl), (Nat.le_of_ble_eq_true rfl)⟩) hK hP hD hS hA hE (va_recv hK hP (ci := 2) (q0 := 0) rfl rfl) rfl hl.1 rfl (Nat.le_of_ble_eq_true rfl) dL_tray_4 ⟨(Nat.le_of_ble_eq_true rfl), (Nat.le_of_ble_eq_true rfl)⟩ (fun kb ce q9 H locs hP hD hS hce hcv hcl => ?_) (fun u9 H locs kb hP hD hS => ?_)
  · have hn9 : nx_ (k_tra σ x) σ (σ) = σ := nx_n kb
    have hk9 : k_tra σ x = 1 := by omega
    refine vx_catch (own := RL) (name := "java/lang/ArrayIndexOutOfBoundsException") (E := "java/lang/ArrayIndexOutOfBoundsException") hown [] ⟨0, 9, 12, 59⟩ [] (htab.trans rfl) (fun z hz => by simp at hz) (by decide) (by decide) (hts (.classLink RL 59 "java/lang/ArrayIndexOutOfBoundsException") (by decide +kernel)) (va_Nw.use (ev_ot _ (by decide +kernel)) (hE.2.2.1 (.castable "java/lang/ArrayIndexOutOfBoundsException" "java/lang/ArrayIndexOutOfBoundsException") (by decide +kernel))) hce hcv hcl ?_
    refine W.eq (g2 := F0 m 12 ls [.ref q9]) rfl ?_
    refine lv_astore_n (lv' := [(3, .ref (q9)), (0, .ref (ga 0)), (1, .int (zz_i (x))), (2, .ref (o))]) hx hb dL_tray_12 rfl hl (by decide) rfl (fun ls hl => ?_)
    refine lv_iconst (v := zz_i (1)) hx hb dL_tray_13 rfl ?_
    subst hAe
    refine W.widen (k := 1) (n := 6) (by omega) (by omega) ?_
    exact W.iret (v := zz_i (1)) hx hb hr (fun t ht hW => ⟨congrArg (fun z => Outcome.returned (some (Value.int (zz_i z)))) hk9.symm, ⟨(ad, g), fun h9 => absurd h9 (by omega), by rw [ht, hn9]; exact hP, va_K.moved hW.alike hK, by rw [hn9]; exact hD⟩, hS.F ht⟩) hS.2.2 dL_tray_14
  · have hk9 : k_tra σ x = 0 := kb
    have hn9 : nx_ (k_tra σ x) σ (σ) = σ := nx_0 hk9
    have hP : va_P D zz_cl (cw_ cy ga ad σ ++ ow_ cy o g) H := hP
    have hD : va_D A (cw_ cy ga ad σ ++ ow_ cy o g) := hD
    refine W.eq (g2 := F0 m 7 ls [.int (zz_i (σ 10 x)), .int (zz_i (0)), .ref (o)]) rfl ?_
    refine lv_i2l (v := lo_ (σ 10 x)) hx hb dL_tray_7 rfl ?_
    refine zz_last hx hb hK hP hD hS dL_tray_8 (fun g9 H locs hg9 hP hD hS => ?_)
    refine lv_goto (tgt := 15) hx hb dL_tray_9 (by decide) ?_
    refine lv_iconst (v := zz_i (0)) hx hb dL_tray_15 rfl ?_
    subst hAe
    refine W.widen (k := 1) (n := 6) (by omega) (by omega) ?_
    exact W.iret (v := zz_i (0)) hx hb hr (fun t ht hW => ⟨congrArg (fun z => Outcome.returned (some (Value.int (zz_i z)))) hk9.symm, ⟨(ad, g9), fun _ => hg9, by rw [ht, hn9]; exact hP, va_K.moved hW.alike hK, by rw [hn9]; exact hD⟩, hS.F ht⟩) hS.2.2 dL_tray_16
set_option maxHeartbeats 4000000 in
set_option maxRecDepth 100000 in
theorem h_told (l : Launch) (hl9 : l.stackTraces = false) (D : va_G) (cy ga : Nat → Nat) (ad : Int → Nat) (σ : zz_S) (sz : Nat) (hI : iv_ σ) (o : Nat) (g : Nat → Int64) (x y : Int) (q_x : -2147483648 ≤ x ∧ x < 2147483648) (q_y : -2147483648 ≤ y ∧ y < 2147483648) : Met l yL_told wsL_told ({ frames := 8, cells := 2, slots := 12, locals := 131 }) (ct_P D cy [.ref (ga 0), .int (zz_i (x)), .int (zz_i (y)), .ref (o)] (cw_ cy ga ad σ ++ ow_ cy o g) sz) (ct_Q D cy (cw_ cy ga ad σ ++ ow_ cy o g) sz (some (.int (zz_i (k_tol σ x y)))) (fun u : (Int → Nat) × (Nat → Int64) => k_tol σ x y = 0 → u.2 0 = lo_ (v_tol σ x y)) (fun u => cw_ cy ga u.1 (nx_ (k_tol σ x y) σ (σ)) ++ ow_ cy o u.2)) 2 12 (va_A (cw_ cy ga ad σ ++ ow_ cy o g) sz) := by
  refine me_ofWH (cc := cL_told) (maxL := 5) (ret := (some .int)) (by decide) rfl ?_
  intro p e s m args below meth c s₁ B hml hv
  obtain ⟨rfl, rfl, hP, hK, hD0, hE⟩ := hv
  have hx := B.exec
  have hb := B.bytes
  have hr := B.returns
  have hts := atoms_spec (ws := wsL_told) B.pre
  have hown : s.vm.findClass RL = some m.cls := findClass_of_methodNamed B.named
  have htab := vx_table (x := yL_told) B (hts (.codeWith yL_told cL_told 5 (some .int) [(0, 10, 13, 13)]) List.mem_cons_self)
  have hD := hD0.self (sz := s.heap.size)
  obtain ⟨A, hAe⟩ : ∃ A, A = va_A (cw_ cy ga ad σ ++ ow_ cy o g) s.heap.size := ⟨_, rfl⟩
  rw [← hAe] at hD hE
  have hA : ∀ q : Nat, s.heap.size ≤ q → A q := fun q h => by rw [hAe]; exact Or.inr h
  have hS : va_S A s.heap s.heap [] := va_S.rf
  have hP : va_P D zz_cl (cw_ cy ga ad σ ++ ow_ cy o g) s.heap := hP
  have hl := lv_entry ([.ref (ga 0), .int (zz_i (x)), .int (zz_i (y)), .ref (o)]) (n := 5) (Nat.le_of_ble_eq_true rfl)
  rw [lg_entry_eq]
  generalize (lg_sl ([.ref (ga 0), .int (zz_i (x)), .int (zz_i (y)), .ref (o)]) ++ List.replicate (5 - (lg_sl ([.ref (ga 0), .int (zz_i (x)), .int (zz_i (y)), .ref (o)])).length) Slot.unset).toArray = ls at hl ⊢
  have hl : lv_has ls 5 [(0, .ref (ga 0)), (1, .int (zz_i (x))), (2, .int (zz_i (y))), (3, .ref (o))] := hl
  have hkr := kr_tol σ x y
  refine lv_aload_n hx hb dL_told_0 rfl (lv_at hl 3 rfl) ?_
  refine lv_iconst (v := zz_i (0)) hx hb dL_told_1 rfl ?_
  refine lv_aload_n hx hb dL_told_2 rfl (lv_at hl 0 rfl) ?_
  refine lv_iload_n hx hb dL_told_3 rfl (lv_at hl 1 rfl) ?_
  refine lv_iload_n hx hb dL_told_4 rfl (lv_at hl 2 rfl) ?_
  refine zf_x (wc := cw_ cy ga ad σ) (wr := ow_ cy o g) (As := [.int (zz_i (x)), .int (zz_i (y))]) (rest := [.int (zz_i (0)), .ref (o)]) (S := Unit) (pc := 5) ⟨hx, hb, hml, hown, hts⟩ (c_told l hl9 D cy ga ad σ _ hI x y q_x q_y) (cwV 2 hts gL_told_X2_told rfl rfl rfl (by decide +kernel) ⟨(Nat.le_of_ble_eq_true rfl), (Nat.le_of_ble_eq_true rfl)⟩) hK hP hD hS hA hE (va_recv hK hP (ci := 2) (q0 := 0) rfl rfl) rfl hl.1 rfl (Nat.le_of_ble_eq_true rfl) dL_told_5 ⟨(Nat.le_of_ble_eq_true rfl), (Nat.le_of_ble_eq_true rfl)⟩ (fun kb ce q9 H locs hP hD hS hce hcv hcl => ?_) (fun u9 H locs kb hP hD hS => ?_)
  · have hn9 : nx_ (k_tol σ x y) σ (σ) = σ := nx_n kb
    have hk9 : k_tol σ x y = 1 := by omega
    refine vx_catch (own := RL) (name := "java/lang/IllegalArgumentException") (E := "java/lang/IllegalArgumentException") hown [] ⟨0, 10, 13, 13⟩ [] (htab.trans rfl) (fun z hz => by simp at hz) (by decide) (by decide) (hts (.classLink RL 13 "java/lang/IllegalArgumentException") (by decide +kernel)) (va_Nw.use (ev_ot _ (by decide +kernel)) (hE.2.2.1 (.castable "java/lang/IllegalArgumentException" "java/lang/IllegalArgumentException") (by decide +kernel))) hce hcv hcl ?_
    refine W.eq (g2 := F0 m 13 ls [.ref q9]) rfl ?_
    refine lv_astore (lv' := [(4, .ref (q9)), (0, .ref (ga 0)), (1, .int (zz_i (x))), (2, .int (zz_i (y))), (3, .ref (o))]) hx hb dL_told_13 hl (by decide) rfl (fun ls hl => ?_)
    refine lv_iconst (v := zz_i (1)) hx hb dL_told_15 rfl ?_
    subst hAe
    refine W.widen (k := 2) (n := 12) (by omega) (by omega) ?_
    exact W.iret (v := zz_i (1)) hx hb hr (fun t ht hW => ⟨congrArg (fun z => Outcome.returned (some (Value.int (zz_i z)))) hk9.symm, ⟨(ad, g), fun h9 => absurd h9 (by omega), by rw [ht, hn9]; exact hP, va_K.moved hW.alike hK, by rw [hn9]; exact hD⟩, hS.F ht⟩) hS.2.2 dL_told_16
  · have hk9 : k_tol σ x y = 0 := kb
    have hn9 : nx_ (k_tol σ x y) σ (σ) = σ := nx_0 hk9
    have hP : va_P D zz_cl (cw_ cy ga ad σ ++ ow_ cy o g) H := hP
    have hD : va_D A (cw_ cy ga ad σ ++ ow_ cy o g) := hD
    refine W.eq (g2 := F0 m 8 ls [.int (zz_i (v_tol σ x y)), .int (zz_i (0)), .ref (o)]) rfl ?_
    refine lv_i2l (v := lo_ (v_tol σ x y)) hx hb dL_told_8 rfl ?_
    refine zz_last hx hb hK hP hD hS dL_told_9 (fun g9 H locs hg9 hP hD hS => ?_)
    refine lv_goto (tgt := 17) hx hb dL_told_10 (by decide) ?_
    refine lv_iconst (v := zz_i (0)) hx hb dL_told_17 rfl ?_
    subst hAe
    refine W.widen (k := 2) (n := 12) (by omega) (by omega) ?_
    exact W.iret (v := zz_i (0)) hx hb hr (fun t ht hW => ⟨congrArg (fun z => Outcome.returned (some (Value.int (zz_i z)))) hk9.symm, ⟨(ad, g9), fun _ => hg9, by rw [ht, hn9]; exact hP, va_K.moved hW.alike hK, by rw [hn9]; exact hD⟩, hS.F ht⟩) hS.2.2 dL_told_18
