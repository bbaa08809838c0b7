/-! the cases of the law -/
theorem aio_in : ∀ w ∈ aio_y, w ∈ lw_tbl := by decide +kernel
theorem aio_gd : ∀ w ∈ aio_y, goodWord w = true := by decide +kernel
theorem gL_law_L_trayB : GoodIn lw_tbl (va_wsS RL 122 yL_tray wsL_trayB) := by
  intro w h
  unfold va_wsS wsL_trayB at h
  rcases List.mem_append.mp h with h | h
  · have h9 := gL_law_L_tray w (List.mem_append_left _ h)
    exact ⟨wsL_law_in w h9.1, h9.2⟩
  · rcases List.mem_append.mp h with h | h
    · have h9 := gL_law_L_tray w (List.mem_append_right _ h)
      exact ⟨wsL_law_in w h9.1, h9.2⟩
    · exact ⟨aio_in w h, good_of_word (aio_gd w h)⟩
set_option maxHeartbeats 4000000 in
set_option maxRecDepth 100000 in
theorem w_0 {p : Program} {e : Env} {s : State} {m : MethodId} {below : List Frame} {meth : Method} {c : Code} {l : Launch} (hl9 : l.stackTraces = false) {b L : Nat} {xs : Nat → Int32} (hL : L ≤ 2050) (C0 : lw_At p s m meth c b L xs) {D : va_G} {cy ga gr : Nat → Nat} {o : Nat} (hK : va_K D zz_cl (zz_ty cy) s) (hE : ev_ok (fun q : Nat => s.heap.size ≤ q) s) {ad : Int → Nat} {g : Nat → Int64} {σ : zz_S} {kc i : Int} {cells slots : Nat} {H : Heap} {locs : List Loc} {ls : Array Slot} (hi : 2 ≤ i ∧ i + 4 ≤ L) (hI : iv_ σ) (hs : σ 2 0 ≤ 99999900) (hP : va_P D zz_cl ((cw_ cy ga ad σ ++ ow_ cy o g) ++ rk_ cy gr kc σ) H) (hD : va_D (fun q : Nat => s.heap.size ≤ q) ((cw_ cy ga ad σ ++ ow_ cy o g) ++ rk_ cy gr kc σ)) (hS : va_S (fun q : Nat => s.heap.size ≤ q) s.heap H locs) (hl : lv_has ls 7 [(0, .ref (b)), (1, .ref (ga 0)), (2, .ref (gr 0)), (3, .ref (o)), (4, .int (zz_i (i)))]) (hf : cells + 20 ≤ 601024 ∧ slots + 200 ≤ 7293000)
    (kk : ∀ (σ' : zz_S) (k' : Int) (ad' : Int → Nat) (g' : Nat → Int64) (H' : Heap) (locs' : List Loc) (ls' : Array Slot), iv_ σ' → σ' 2 0 ≤ σ 2 0 + 100 → va_P D zz_cl ((cw_ cy ga ad' σ' ++ ow_ cy o g') ++ rk_ cy gr k' σ') H' → va_D (fun q : Nat => s.heap.size ≤ q) ((cw_ cy ga ad' σ' ++ ow_ cy o g') ++ rk_ cy gr k' σ') → va_S (fun q : Nat => s.heap.size ≤ q) s.heap H' locs' → lv_has ls' 7 [(0, .ref (b)), (1, .ref (ga 0)), (2, .ref (gr 0)), (3, .ref (o)), (4, .int (zz_i (i)))] → W p l e room_1 s m #[Value.ref b] below meth c H' locs' (cells + 20) (slots + 200) (lw_Z below #[Value.ref b] s) (F0 m 1044 ls' [])) :
    W p l e room_1 s m #[Value.ref b] below meth c H locs cells slots (lw_Z below #[Value.ref b] s) (F0 m 132 ls []) := by
  obtain ⟨hx, hb, hr, hml, hown, hts, hX, hbl, hlocks, hgv⟩ := id C0
  have htt := hts
  have hts : ∀ w ∈ wsL_law, w.before #[Value.ref b] s = true := fun w h => hts w (wsL_law_in w h)
  have hA : ∀ q : Nat, s.heap.size ≤ q → (fun q : Nat => s.heap.size ≤ q) q := fun _ h => h
  have hbA : ¬ (fun q : Nat => s.heap.size ≤ q) b := Nat.not_le.mpr hbl
  obtain ⟨x, e_x, q_x⟩ : ∃ z : Int, (xs (i + 1).toNat).toInt = z ∧ (-2147483648 ≤ z ∧ z < 2147483648) := ⟨_, rfl, zz_bd _⟩
  refine lv_aload_n hx hb dL_law_132 rfl (lv_at hl 1 rfl) ?_
  refine lv_aload_n hx hb dL_law_133 rfl (lv_at hl 0 rfl) ?_
  refine lv_iload hx hb dL_law_134 (lv_at hl 4 rfl) ?_
  refine lv_iconst (v := zz_i (1)) hx hb dL_law_136 rfl ?_
  refine zz_iadd hx hb dL_law_137 ?_
  refine zz_sld hx hb hX hbl hbA hS (show 0 ≤ i + 1 ∧ i + 1 < (L : Int) by omega) (by omega) dL_law_138 ?_
  rw [e_x]
  refine lv_aload_n hx hb dL_law_139 rfl (lv_at hl 3 rfl) ?_
  have hkr := kr_item σ x
  have hnv := nv_item hI x
  refine zf_w (wc := cw_ cy ga ad σ ++ ow_ cy o g) (wr := rk_ cy gr kc σ) (As := [.ref (ga 0), .int (zz_i (x)), .ref (o)]) (rest := []) (S := (Int → Nat) × (Nat → Int64)) (pc := 140) ⟨hx, hb, hml, hown, hts⟩ (h_item l hl9 D cy ga ad σ _ hI o g x q_x) (vx_cwSW 3 hts gL_law_L_item rfl rfl rfl (by decide +kernel) ⟨(Nat.le_of_ble_eq_true rfl), (Nat.le_of_ble_eq_true rfl)⟩) hK hP hD hS hA hE rfl hl.1 rfl (Nat.le_of_ble_eq_true rfl) dL_law_140 ⟨show cells + 2 ≤ 601024 by omega, show slots + 18 ≤ 7293000 by omega⟩ (fun u H locs hu hP hD hS => ?_)
  obtain ⟨ad2, g2⟩ := u
  have hu : k_item σ x = 0 → g2 0 = lo_ (σ 4 0 + 1) := hu
  have hP := fr_Pc (a := cw_ cy ga ad2 (nx_ (k_item σ x) σ (s_item σ x)) ++ ow_ cy o g2) (b := rk_ cy gr kc σ) hP
  have hD := fr_Dc (a := cw_ cy ga ad2 (nx_ (k_item σ x) σ (s_item σ x)) ++ ow_ cy o g2) (b := rk_ cy gr kc σ) hD
  refine W.eq (g2 := F0 m 143 ls [.int (zz_i (k_item σ x))]) rfl ?_
  refine lv_istore (lv' := [(5, .int (zz_i (k_item σ x))), (0, .ref (b)), (1, .ref (ga 0)), (2, .ref (gr 0)), (3, .ref (o)), (4, .int (zz_i (i)))]) hx hb dL_law_143 hl (by decide) rfl (fun ls hl => ?_)
  refine lv_aload_n hx hb dL_law_145 rfl (lv_at hl 3 rfl) ?_
  refine lv_aload_n hx hb dL_law_146 rfl (lv_at hl 1 rfl) ?_
  refine lv_iload hx hb dL_law_147 (lv_at hl 5 rfl) ?_
  refine lv_iconst (v := zz_i (1)) hx hb dL_law_149 rfl ?_
  refine zz_iadd hx hb dL_law_150 ?_
  refine zz_sld hx hb hX hbl hbA hS (show 0 ≤ i + 1 ∧ i + 1 < (L : Int) by omega) (by omega) dL_law_151 ?_
  rw [e_x]
  refine zf_v (wc := rk_ cy gr kc σ) (wr := cw_ cy ga ad2 (nx_ (k_item σ x) σ (s_item σ x)) ++ ow_ cy o g2) (As := [.int (zz_i (x))]) (rest := []) (S := Unit) (pc := 152) ⟨hx, hb, hml, hown, hts⟩ (r_item l D cy gr kc σ _ hI x q_x) (cwV 1 hts gL_law_X3_item rfl rfl rfl (by decide +kernel) ⟨(Nat.le_of_ble_eq_true rfl), (Nat.le_of_ble_eq_true rfl)⟩) hK hP hD hS hA hE (va_recv hK hP (ci := 3) (q0 := 0) rfl rfl) rfl hl.1 rfl (Nat.le_of_ble_eq_true rfl) dL_law_152 ⟨show cells + 2 + 0 ≤ 601024 by omega, show slots + 18 + 0 ≤ 7293000 by omega⟩ (fun _ H locs _ hP hD hS => ?_)
  refine W.eq (g2 := F0 m 155 ls [.int (zz_i (an_ (k_item σ x) (σ 4 0 + 1)))]) rfl ?_
  refine lv_istore (lv' := [(6, .int (zz_i (an_ (k_item σ x) (σ 4 0 + 1)))), (5, .int (zz_i (k_item σ x))), (0, .ref (b)), (1, .ref (ga 0)), (2, .ref (gr 0)), (3, .ref (o)), (4, .int (zz_i (i)))]) hx hb dL_law_155 hl (by decide) rfl (fun ls hl => ?_)
  refine lv_aload_n hx hb dL_law_157 rfl (lv_at hl 4 rfl) ?_
  refine zf_v (wc := rk_ cy gr (k_item σ x) (nx_ (k_item σ x) σ (s_item σ x))) (wr := cw_ cy ga ad2 (nx_ (k_item σ x) σ (s_item σ x)) ++ ow_ cy o g2) (As := []) (rest := []) (S := Unit) (pc := 158) ⟨hx, hb, hml, hown, hts⟩ (r_thrown l D cy gr (k_item σ x) (nx_ (k_item σ x) σ (s_item σ x)) _) (cwV 0 hts gL_law_X3_thrown rfl rfl rfl (by decide +kernel) ⟨(Nat.le_of_ble_eq_true rfl), (Nat.le_of_ble_eq_true rfl)⟩) hK hP hD hS hA hE (va_recv hK hP (ci := 3) (q0 := 0) rfl rfl) rfl hl.1 rfl (Nat.le_of_ble_eq_true rfl) dL_law_158 ⟨show cells + 2 + 0 + 0 ≤ 601024 by omega, show slots + 18 + 0 + 0 ≤ 7293000 by omega⟩ (fun _ H locs _ hP hD hS => ?_)
  have hP := fr_Pc (a := rk_ cy gr (k_item σ x) (nx_ (k_item σ x) σ (s_item σ x))) (b := cw_ cy ga ad2 (nx_ (k_item σ x) σ (s_item σ x)) ++ ow_ cy o g2) hP
  have hD := fr_Dc (a := rk_ cy gr (k_item σ x) (nx_ (k_item σ x) σ (s_item σ x))) (b := cw_ cy ga ad2 (nx_ (k_item σ x) σ (s_item σ x)) ++ ow_ cy o g2) hD
  refine W.eq (g2 := F0 m 161 ls [.int (zz_i (k_item σ x))]) rfl ?_
  refine lv_iload hx hb dL_law_161 (lv_at hl 1 rfl) ?_
  refine lv_icmp_eq (tgt := 168) hx hb dL_law_163 (by decide) (fun _ => ?_) (fun c9 => absurd rfl c9)
  refine lv_iload hx hb dL_law_168 (lv_at hl 1 rfl) ?_
  refine zz_if_ne (tgt := 185) hx hb dL_law_170 (by decide) (by omega) (fun c9 => ?_) (fun c9 => ?_)
  · skip
    refine lv_goto (tgt := 1044) hx hb dL_law_185 (by decide) ?_
    refine W.widen (k := cells + 20) (n := slots + 200) (by omega) (by omega) ?_
    exact kk _ _ _ _ H locs ls hnv.1 hnv.2 hP hD hS (lv_sub hl [2, 3, 4, 5, 6] rfl)
  · have hg9 := hu c9
    refine lv_aload_n hx hb dL_law_173 rfl (lv_at hl 5 rfl) ?_
    refine lv_iconst (v := zz_i (0)) hx hb dL_law_174 rfl ?_
    refine zz_lald hx hb _ (fr_l (ow_at _ cy o g2)) hK hP dL_law_175 ?_
    refine lv_iload hx hb dL_law_176 (lv_at hl 0 rfl) ?_
    refine lv_i2l (v := lo_ (an_ (k_item σ x) (σ 4 0 + 1))) hx hb dL_law_178 rfl ?_
    refine lv_lcmpE hx hb (show g2 0 = lo_ (an_ (k_item σ x) (σ 4 0 + 1)) from by rw [hg9, an_0 c9]) dL_law_179 ?_
    refine zz_if_eq (tgt := 185) hx hb dL_law_180 (by decide) (by omega) (fun _ => ?_) (fun c9 => absurd rfl c9)
    refine lv_goto (tgt := 1044) hx hb dL_law_185 (by decide) ?_
    refine W.widen (k := cells + 20) (n := slots + 200) (by omega) (by omega) ?_
    exact kk _ _ _ _ H locs ls hnv.1 hnv.2 hP hD hS (lv_sub hl [2, 3, 4, 5, 6] rfl)
set_option maxHeartbeats 4000000 in
set_option maxRecDepth 100000 in
theorem w_1 {p : Program} {e : Env} {s : State} {m : MethodId} {below : List Frame} {meth : Method} {c : Code} {l : Launch} (hl9 : l.stackTraces = false) {b L : Nat} {xs : Nat → Int32} (hL : L ≤ 2050) (C0 : lw_At p s m meth c b L xs) {D : va_G} {cy ga gr : Nat → Nat} {o : Nat} (hK : va_K D zz_cl (zz_ty cy) s) (hE : ev_ok (fun q : Nat => s.heap.size ≤ q) s) {ad : Int → Nat} {g : Nat → Int64} {σ : zz_S} {kc i : Int} {cells slots : Nat} {H : Heap} {locs : List Loc} {ls : Array Slot} (hi : 2 ≤ i ∧ i + 4 ≤ L) (hI : iv_ σ) (hs : σ 2 0 ≤ 99999900) (hP : va_P D zz_cl ((cw_ cy ga ad σ ++ ow_ cy o g) ++ rk_ cy gr kc σ) H) (hD : va_D (fun q : Nat => s.heap.size ≤ q) ((cw_ cy ga ad σ ++ ow_ cy o g) ++ rk_ cy gr kc σ)) (hS : va_S (fun q : Nat => s.heap.size ≤ q) s.heap H locs) (hl : lv_has ls 7 [(0, .ref (b)), (1, .ref (ga 0)), (2, .ref (gr 0)), (3, .ref (o)), (4, .int (zz_i (i)))]) (hf : cells + 20 ≤ 601024 ∧ slots + 200 ≤ 7293000)
    (kk : ∀ (σ' : zz_S) (k' : Int) (ad' : Int → Nat) (g' : Nat → Int64) (H' : Heap) (locs' : List Loc) (ls' : Array Slot), iv_ σ' → σ' 2 0 ≤ σ 2 0 + 100 → va_P D zz_cl ((cw_ cy ga ad' σ' ++ ow_ cy o g') ++ rk_ cy gr k' σ') H' → va_D (fun q : Nat => s.heap.size ≤ q) ((cw_ cy ga ad' σ' ++ ow_ cy o g') ++ rk_ cy gr k' σ') → va_S (fun q : Nat => s.heap.size ≤ q) s.heap H' locs' → lv_has ls' 7 [(0, .ref (b)), (1, .ref (ga 0)), (2, .ref (gr 0)), (3, .ref (o)), (4, .int (zz_i (i)))] → W p l e room_1 s m #[Value.ref b] below meth c H' locs' (cells + 20) (slots + 200) (lw_Z below #[Value.ref b] s) (F0 m 1044 ls' [])) :
    W p l e room_1 s m #[Value.ref b] below meth c H locs cells slots (lw_Z below #[Value.ref b] s) (F0 m 188 ls []) := by
  obtain ⟨hx, hb, hr, hml, hown, hts, hX, hbl, hlocks, hgv⟩ := id C0
  have htt := hts
  have hts : ∀ w ∈ wsL_law, w.before #[Value.ref b] s = true := fun w h => hts w (wsL_law_in w h)
  have hA : ∀ q : Nat, s.heap.size ≤ q → (fun q : Nat => s.heap.size ≤ q) q := fun _ h => h
  have hbA : ¬ (fun q : Nat => s.heap.size ≤ q) b := Nat.not_le.mpr hbl
  obtain ⟨x, e_x, q_x⟩ : ∃ z : Int, (xs (i + 1).toNat).toInt = z ∧ (-2147483648 ≤ z ∧ z < 2147483648) := ⟨_, rfl, zz_bd _⟩
  obtain ⟨a, e_a, q_a⟩ : ∃ z : Int, (xs (i + 2).toNat).toInt = z ∧ (-2147483648 ≤ z ∧ z < 2147483648) := ⟨_, rfl, zz_bd _⟩
  obtain ⟨y, e_y, q_y⟩ : ∃ z : Int, (xs (i + 3).toNat).toInt = z ∧ (-2147483648 ≤ z ∧ z < 2147483648) := ⟨_, rfl, zz_bd _⟩
  refine lv_aload_n hx hb dL_law_188 rfl (lv_at hl 1 rfl) ?_
  refine lv_aload_n hx hb dL_law_189 rfl (lv_at hl 0 rfl) ?_
  refine lv_iload hx hb dL_law_190 (lv_at hl 4 rfl) ?_
  refine lv_iconst (v := zz_i (1)) hx hb dL_law_192 rfl ?_
  refine zz_iadd hx hb dL_law_193 ?_
  refine zz_sld hx hb hX hbl hbA hS (show 0 ≤ i + 1 ∧ i + 1 < (L : Int) by omega) (by omega) dL_law_194 ?_
  rw [e_x]
  refine lv_aload_n hx hb dL_law_195 rfl (lv_at hl 0 rfl) ?_
  refine lv_iload hx hb dL_law_196 (lv_at hl 4 rfl) ?_
  refine lv_iconst (v := zz_i (2)) hx hb dL_law_198 rfl ?_
  refine zz_iadd hx hb dL_law_199 ?_
  refine zz_sld hx hb hX hbl hbA hS (show 0 ≤ i + 2 ∧ i + 2 < (L : Int) by omega) (by omega) dL_law_200 ?_
  rw [e_a]
  refine lv_aload_n hx hb dL_law_201 rfl (lv_at hl 0 rfl) ?_
  refine lv_iload hx hb dL_law_202 (lv_at hl 4 rfl) ?_
  refine lv_iconst (v := zz_i (3)) hx hb dL_law_204 rfl ?_
  refine zz_iadd hx hb dL_law_205 ?_
  refine zz_sld hx hb hX hbl hbA hS (show 0 ≤ i + 3 ∧ i + 3 < (L : Int) by omega) (by omega) dL_law_206 ?_
  rw [e_y]
  refine lv_aload_n hx hb dL_law_207 rfl (lv_at hl 3 rfl) ?_
  have hkr := kr_ind σ x a y
  have hnv := nv_ind hI x a y
  refine zf_w (wc := cw_ cy ga ad σ ++ ow_ cy o g) (wr := rk_ cy gr kc σ) (As := [.ref (ga 0), .int (zz_i (x)), .int (zz_i (a)), .int (zz_i (y)), .ref (o)]) (rest := []) (S := (Int → Nat) × (Nat → Int64)) (pc := 208) ⟨hx, hb, hml, hown, hts⟩ (h_induct l hl9 D cy ga ad σ _ hI o g x a y q_x q_a q_y) (vx_cwSW 5 hts gL_law_L_induct rfl rfl rfl (by decide +kernel) ⟨(Nat.le_of_ble_eq_true rfl), (Nat.le_of_ble_eq_true rfl)⟩) hK hP hD hS hA hE rfl hl.1 rfl (Nat.le_of_ble_eq_true rfl) dL_law_208 ⟨show cells + 5 ≤ 601024 by omega, show slots + 30 ≤ 7293000 by omega⟩ (fun u H locs hu hP hD hS => ?_)
  obtain ⟨ad2, g2⟩ := u
  have hu : k_ind σ x a y = 0 → g2 0 = lo_ (sp_tr σ a) := hu
  have hP := fr_Pc (a := cw_ cy ga ad2 (nx_ (k_ind σ x a y) σ (s_ind σ x a y)) ++ ow_ cy o g2) (b := rk_ cy gr kc σ) hP
  have hD := fr_Dc (a := cw_ cy ga ad2 (nx_ (k_ind σ x a y) σ (s_ind σ x a y)) ++ ow_ cy o g2) (b := rk_ cy gr kc σ) hD
  refine W.eq (g2 := F0 m 211 ls [.int (zz_i (k_ind σ x a y))]) rfl ?_
  refine lv_istore (lv' := [(5, .int (zz_i (k_ind σ x a y))), (0, .ref (b)), (1, .ref (ga 0)), (2, .ref (gr 0)), (3, .ref (o)), (4, .int (zz_i (i)))]) hx hb dL_law_211 hl (by decide) rfl (fun ls hl => ?_)
  refine lv_aload_n hx hb dL_law_213 rfl (lv_at hl 3 rfl) ?_
  refine lv_aload_n hx hb dL_law_214 rfl (lv_at hl 1 rfl) ?_
  refine lv_iload hx hb dL_law_215 (lv_at hl 5 rfl) ?_
  refine lv_iconst (v := zz_i (1)) hx hb dL_law_217 rfl ?_
  refine zz_iadd hx hb dL_law_218 ?_
  refine zz_sld hx hb hX hbl hbA hS (show 0 ≤ i + 1 ∧ i + 1 < (L : Int) by omega) (by omega) dL_law_219 ?_
  rw [e_x]
  refine lv_aload_n hx hb dL_law_220 rfl (lv_at hl 1 rfl) ?_
  refine lv_iload hx hb dL_law_221 (lv_at hl 5 rfl) ?_
  refine lv_iconst (v := zz_i (2)) hx hb dL_law_223 rfl ?_
  refine zz_iadd hx hb dL_law_224 ?_
  refine zz_sld hx hb hX hbl hbA hS (show 0 ≤ i + 2 ∧ i + 2 < (L : Int) by omega) (by omega) dL_law_225 ?_
  rw [e_a]
  refine lv_aload_n hx hb dL_law_226 rfl (lv_at hl 1 rfl) ?_
  refine lv_iload hx hb dL_law_227 (lv_at hl 5 rfl) ?_
  refine lv_iconst (v := zz_i (3)) hx hb dL_law_229 rfl ?_
  refine zz_iadd hx hb dL_law_230 ?_
  refine zz_sld hx hb hX hbl hbA hS (show 0 ≤ i + 3 ∧ i + 3 < (L : Int) by omega) (by omega) dL_law_231 ?_
  rw [e_y]
  refine zf_v (wc := rk_ cy gr kc σ) (wr := cw_ cy ga ad2 (nx_ (k_ind σ x a y) σ (s_ind σ x a y)) ++ ow_ cy o g2) (As := [.int (zz_i (x)), .int (zz_i (a)), .int (zz_i (y))]) (rest := []) (S := Unit) (pc := 232) ⟨hx, hb, hml, hown, hts⟩ (r_induct l D cy gr kc σ _ hI x a y q_x q_a q_y) (cwV 3 hts gL_law_X3_induct rfl rfl rfl (by decide +kernel) ⟨(Nat.le_of_ble_eq_true rfl), (Nat.le_of_ble_eq_true rfl)⟩) hK hP hD hS hA hE (va_recv hK hP (ci := 3) (q0 := 0) rfl rfl) rfl hl.1 rfl (Nat.le_of_ble_eq_true rfl) dL_law_232 ⟨show cells + 5 + 0 ≤ 601024 by omega, show slots + 30 + 0 ≤ 7293000 by omega⟩ (fun _ H locs _ hP hD hS => ?_)
  refine W.eq (g2 := F0 m 235 ls [.int (zz_i (an_ (k_ind σ x a y) (sp_tr σ a)))]) rfl ?_
  refine lv_istore (lv' := [(6, .int (zz_i (an_ (k_ind σ x a y) (sp_tr σ a)))), (5, .int (zz_i (k_ind σ x a y))), (0, .ref (b)), (1, .ref (ga 0)), (2, .ref (gr 0)), (3, .ref (o)), (4, .int (zz_i (i)))]) hx hb dL_law_235 hl (by decide) rfl (fun ls hl => ?_)
  refine lv_aload_n hx hb dL_law_237 rfl (lv_at hl 4 rfl) ?_
  refine zf_v (wc := rk_ cy gr (k_ind σ x a y) (nx_ (k_ind σ x a y) σ (s_ind σ x a y))) (wr := cw_ cy ga ad2 (nx_ (k_ind σ x a y) σ (s_ind σ x a y)) ++ ow_ cy o g2) (As := []) (rest := []) (S := Unit) (pc := 238) ⟨hx, hb, hml, hown, hts⟩ (r_thrown l D cy gr (k_ind σ x a y) (nx_ (k_ind σ x a y) σ (s_ind σ x a y)) _) (cwV 0 hts gL_law_X3_thrown rfl rfl rfl (by decide +kernel) ⟨(Nat.le_of_ble_eq_true rfl), (Nat.le_of_ble_eq_true rfl)⟩) hK hP hD hS hA hE (va_recv hK hP (ci := 3) (q0 := 0) rfl rfl) rfl hl.1 rfl (Nat.le_of_ble_eq_true rfl) dL_law_238 ⟨show cells + 5 + 0 + 0 ≤ 601024 by omega, show slots + 30 + 0 + 0 ≤ 7293000 by omega⟩ (fun _ H locs _ hP hD hS => ?_)
  have hP := fr_Pc (a := rk_ cy gr (k_ind σ x a y) (nx_ (k_ind σ x a y) σ (s_ind σ x a y))) (b := cw_ cy ga ad2 (nx_ (k_ind σ x a y) σ (s_ind σ x a y)) ++ ow_ cy o g2) hP
  have hD := fr_Dc (a := rk_ cy gr (k_ind σ x a y) (nx_ (k_ind σ x a y) σ (s_ind σ x a y))) (b := cw_ cy ga ad2 (nx_ (k_ind σ x a y) σ (s_ind σ x a y)) ++ ow_ cy o g2) hD
  refine W.eq (g2 := F0 m 241 ls [.int (zz_i (k_ind σ x a y))]) rfl ?_
  refine lv_iload hx hb dL_law_241 (lv_at hl 1 rfl) ?_
  refine lv_icmp_eq (tgt := 248) hx hb dL_law_243 (by decide) (fun _ => ?_) (fun c9 => absurd rfl c9)
  refine lv_iload hx hb dL_law_248 (lv_at hl 1 rfl) ?_
  refine zz_if_ne (tgt := 265) hx hb dL_law_250 (by decide) (by omega) (fun c9 => ?_) (fun c9 => ?_)
  · skip
    refine lv_goto (tgt := 1044) hx hb dL_law_265 (by decide) ?_
    refine W.widen (k := cells + 20) (n := slots + 200) (by omega) (by omega) ?_
    exact kk _ _ _ _ H locs ls hnv.1 hnv.2 hP hD hS (lv_sub hl [2, 3, 4, 5, 6] rfl)
  · have hg9 := hu c9
    refine lv_aload_n hx hb dL_law_253 rfl (lv_at hl 5 rfl) ?_
    refine lv_iconst (v := zz_i (0)) hx hb dL_law_254 rfl ?_
    refine zz_lald hx hb _ (fr_l (ow_at _ cy o g2)) hK hP dL_law_255 ?_
    refine lv_iload hx hb dL_law_256 (lv_at hl 0 rfl) ?_
    refine lv_i2l (v := lo_ (an_ (k_ind σ x a y) (sp_tr σ a))) hx hb dL_law_258 rfl ?_
    refine lv_lcmpE hx hb (show g2 0 = lo_ (an_ (k_ind σ x a y) (sp_tr σ a)) from by rw [hg9, an_0 c9]) dL_law_259 ?_
    refine zz_if_eq (tgt := 265) hx hb dL_law_260 (by decide) (by omega) (fun _ => ?_) (fun c9 => absurd rfl c9)
    refine lv_goto (tgt := 1044) hx hb dL_law_265 (by decide) ?_
    refine W.widen (k := cells + 20) (n := slots + 200) (by omega) (by omega) ?_
    exact kk _ _ _ _ H locs ls hnv.1 hnv.2 hP hD hS (lv_sub hl [2, 3, 4, 5, 6] rfl)
set_option maxHeartbeats 4000000 in
set_option maxRecDepth 100000 in
theorem w_2 {p : Program} {e : Env} {s : State} {m : MethodId} {below : List Frame} {meth : Method} {c : Code} {l : Launch} (hl9 : l.stackTraces = false) {b L : Nat} {xs : Nat → Int32} (hL : L ≤ 2050) (C0 : lw_At p s m meth c b L xs) {D : va_G} {cy ga gr : Nat → Nat} {o : Nat} (hK : va_K D zz_cl (zz_ty cy) s) (hE : ev_ok (fun q : Nat => s.heap.size ≤ q) s) {ad : Int → Nat} {g : Nat → Int64} {σ : zz_S} {kc i : Int} {cells slots : Nat} {H : Heap} {locs : List Loc} {ls : Array Slot} (hi : 2 ≤ i ∧ i + 4 ≤ L) (hI : iv_ σ) (hs : σ 2 0 ≤ 99999900) (hP : va_P D zz_cl ((cw_ cy ga ad σ ++ ow_ cy o g) ++ rk_ cy gr kc σ) H) (hD : va_D (fun q : Nat => s.heap.size ≤ q) ((cw_ cy ga ad σ ++ ow_ cy o g) ++ rk_ cy gr kc σ)) (hS : va_S (fun q : Nat => s.heap.size ≤ q) s.heap H locs) (hl : lv_has ls 7 [(0, .ref (b)), (1, .ref (ga 0)), (2, .ref (gr 0)), (3, .ref (o)), (4, .int (zz_i (i)))]) (hf : cells + 20 ≤ 601024 ∧ slots + 200 ≤ 7293000)
    (kk : ∀ (σ' : zz_S) (k' : Int) (ad' : Int → Nat) (g' : Nat → Int64) (H' : Heap) (locs' : List Loc) (ls' : Array Slot), iv_ σ' → σ' 2 0 ≤ σ 2 0 + 100 → va_P D zz_cl ((cw_ cy ga ad' σ' ++ ow_ cy o g') ++ rk_ cy gr k' σ') H' → va_D (fun q : Nat => s.heap.size ≤ q) ((cw_ cy ga ad' σ' ++ ow_ cy o g') ++ rk_ cy gr k' σ') → va_S (fun q : Nat => s.heap.size ≤ q) s.heap H' locs' → lv_has ls' 7 [(0, .ref (b)), (1, .ref (ga 0)), (2, .ref (gr 0)), (3, .ref (o)), (4, .int (zz_i (i)))] → W p l e room_1 s m #[Value.ref b] below meth c H' locs' (cells + 20) (slots + 200) (lw_Z below #[Value.ref b] s) (F0 m 1044 ls' [])) :
    W p l e room_1 s m #[Value.ref b] below meth c H locs cells slots (lw_Z below #[Value.ref b] s) (F0 m 268 ls []) := by
  obtain ⟨hx, hb, hr, hml, hown, hts, hX, hbl, hlocks, hgv⟩ := id C0
  have htt := hts
  have hts : ∀ w ∈ wsL_law, w.before #[Value.ref b] s = true := fun w h => hts w (wsL_law_in w h)
  have hA : ∀ q : Nat, s.heap.size ≤ q → (fun q : Nat => s.heap.size ≤ q) q := fun _ h => h
  have hbA : ¬ (fun q : Nat => s.heap.size ≤ q) b := Nat.not_le.mpr hbl
  obtain ⟨x, e_x, q_x⟩ : ∃ z : Int, (xs (i + 1).toNat).toInt = z ∧ (-2147483648 ≤ z ∧ z < 2147483648) := ⟨_, rfl, zz_bd _⟩
  refine lv_aload_n hx hb dL_law_268 rfl (lv_at hl 1 rfl) ?_
  refine lv_aload_n hx hb dL_law_269 rfl (lv_at hl 0 rfl) ?_
  refine lv_iload hx hb dL_law_270 (lv_at hl 4 rfl) ?_
  refine lv_iconst (v := zz_i (1)) hx hb dL_law_272 rfl ?_
  refine zz_iadd hx hb dL_law_273 ?_
  refine zz_sld hx hb hX hbl hbA hS (show 0 ≤ i + 1 ∧ i + 1 < (L : Int) by omega) (by omega) dL_law_274 ?_
  rw [e_x]
  refine lv_aload_n hx hb dL_law_275 rfl (lv_at hl 3 rfl) ?_
  have hkr := kr_len σ x
  have hnv := nv_len hI x
  refine zf_w (wc := cw_ cy ga ad σ ++ ow_ cy o g) (wr := rk_ cy gr kc σ) (As := [.ref (ga 0), .int (zz_i (x)), .ref (o)]) (rest := []) (S := (Int → Nat) × (Nat → Int64)) (pc := 276) ⟨hx, hb, hml, hown, hts⟩ (h_length l hl9 D cy ga ad σ _ hI o g x q_x) (vx_cwSW 3 hts gL_law_L_length rfl rfl rfl (by decide +kernel) ⟨(Nat.le_of_ble_eq_true rfl), (Nat.le_of_ble_eq_true rfl)⟩) hK hP hD hS hA hE rfl hl.1 rfl (Nat.le_of_ble_eq_true rfl) dL_law_276 ⟨show cells + 1 ≤ 601024 by omega, show slots + 6 ≤ 7293000 by omega⟩ (fun u H locs hu hP hD hS => ?_)
  obtain ⟨ad2, g2⟩ := u
  have hu : k_len σ x = 0 → g2 0 = lo_ (v_len σ x) := hu
  have hP := fr_Pc (a := cw_ cy ga ad2 (nx_ (k_len σ x) σ (s_len σ x)) ++ ow_ cy o g2) (b := rk_ cy gr kc σ) hP
  have hD := fr_Dc (a := cw_ cy ga ad2 (nx_ (k_len σ x) σ (s_len σ x)) ++ ow_ cy o g2) (b := rk_ cy gr kc σ) hD
  refine W.eq (g2 := F0 m 279 ls [.int (zz_i (k_len σ x))]) rfl ?_
  refine lv_istore (lv' := [(5, .int (zz_i (k_len σ x))), (0, .ref (b)), (1, .ref (ga 0)), (2, .ref (gr 0)), (3, .ref (o)), (4, .int (zz_i (i)))]) hx hb dL_law_279 hl (by decide) rfl (fun ls hl => ?_)
  refine lv_aload_n hx hb dL_law_281 rfl (lv_at hl 3 rfl) ?_
  refine lv_aload_n hx hb dL_law_282 rfl (lv_at hl 1 rfl) ?_
  refine lv_iload hx hb dL_law_283 (lv_at hl 5 rfl) ?_
  refine lv_iconst (v := zz_i (1)) hx hb dL_law_285 rfl ?_
  refine zz_iadd hx hb dL_law_286 ?_
  refine zz_sld hx hb hX hbl hbA hS (show 0 ≤ i + 1 ∧ i + 1 < (L : Int) by omega) (by omega) dL_law_287 ?_
  rw [e_x]
  refine zf_v (wc := rk_ cy gr kc σ) (wr := cw_ cy ga ad2 (nx_ (k_len σ x) σ (s_len σ x)) ++ ow_ cy o g2) (As := [.int (zz_i (x))]) (rest := []) (S := Unit) (pc := 288) ⟨hx, hb, hml, hown, hts⟩ (r_length l D cy gr kc σ _ hI x q_x) (cwV 1 hts gL_law_X3_length rfl rfl rfl (by decide +kernel) ⟨(Nat.le_of_ble_eq_true rfl), (Nat.le_of_ble_eq_true rfl)⟩) hK hP hD hS hA hE (va_recv hK hP (ci := 3) (q0 := 0) rfl rfl) rfl hl.1 rfl (Nat.le_of_ble_eq_true rfl) dL_law_288 ⟨show cells + 1 + 0 ≤ 601024 by omega, show slots + 6 + 0 ≤ 7293000 by omega⟩ (fun _ H locs _ hP hD hS => ?_)
  refine W.eq (g2 := F0 m 291 ls [.int (zz_i (an_ (k_len σ x) (v_len σ x)))]) rfl ?_
  refine lv_istore (lv' := [(6, .int (zz_i (an_ (k_len σ x) (v_len σ x)))), (5, .int (zz_i (k_len σ x))), (0, .ref (b)), (1, .ref (ga 0)), (2, .ref (gr 0)), (3, .ref (o)), (4, .int (zz_i (i)))]) hx hb dL_law_291 hl (by decide) rfl (fun ls hl => ?_)
  refine lv_aload_n hx hb dL_law_293 rfl (lv_at hl 4 rfl) ?_
  refine zf_v (wc := rk_ cy gr (k_len σ x) (nx_ (k_len σ x) σ (s_len σ x))) (wr := cw_ cy ga ad2 (nx_ (k_len σ x) σ (s_len σ x)) ++ ow_ cy o g2) (As := []) (rest := []) (S := Unit) (pc := 294) ⟨hx, hb, hml, hown, hts⟩ (r_thrown l D cy gr (k_len σ x) (nx_ (k_len σ x) σ (s_len σ x)) _) (cwV 0 hts gL_law_X3_thrown rfl rfl rfl (by decide +kernel) ⟨(Nat.le_of_ble_eq_true rfl), (Nat.le_of_ble_eq_true rfl)⟩) hK hP hD hS hA hE (va_recv hK hP (ci := 3) (q0 := 0) rfl rfl) rfl hl.1 rfl (Nat.le_of_ble_eq_true rfl) dL_law_294 ⟨show cells + 1 + 0 + 0 ≤ 601024 by omega, show slots + 6 + 0 + 0 ≤ 7293000 by omega⟩ (fun _ H locs _ hP hD hS => ?_)
  have hP := fr_Pc (a := rk_ cy gr (k_len σ x) (nx_ (k_len σ x) σ (s_len σ x))) (b := cw_ cy ga ad2 (nx_ (k_len σ x) σ (s_len σ x)) ++ ow_ cy o g2) hP
  have hD := fr_Dc (a := rk_ cy gr (k_len σ x) (nx_ (k_len σ x) σ (s_len σ x))) (b := cw_ cy ga ad2 (nx_ (k_len σ x) σ (s_len σ x)) ++ ow_ cy o g2) hD
  refine W.eq (g2 := F0 m 297 ls [.int (zz_i (k_len σ x))]) rfl ?_
  refine lv_iload hx hb dL_law_297 (lv_at hl 1 rfl) ?_
  refine lv_icmp_eq (tgt := 304) hx hb dL_law_299 (by decide) (fun _ => ?_) (fun c9 => absurd rfl c9)
  refine lv_iload hx hb dL_law_304 (lv_at hl 1 rfl) ?_
  refine zz_if_ne (tgt := 321) hx hb dL_law_306 (by decide) (by omega) (fun c9 => ?_) (fun c9 => ?_)
  · skip
    refine lv_goto (tgt := 1044) hx hb dL_law_321 (by decide) ?_
    refine W.widen (k := cells + 20) (n := slots + 200) (by omega) (by omega) ?_
    exact kk _ _ _ _ H locs ls hnv.1 hnv.2 hP hD hS (lv_sub hl [2, 3, 4, 5, 6] rfl)
  · have hg9 := hu c9
    refine lv_aload_n hx hb dL_law_309 rfl (lv_at hl 5 rfl) ?_
    refine lv_iconst (v := zz_i (0)) hx hb dL_law_310 rfl ?_
    refine zz_lald hx hb _ (fr_l (ow_at _ cy o g2)) hK hP dL_law_311 ?_
    refine lv_iload hx hb dL_law_312 (lv_at hl 0 rfl) ?_
    refine lv_i2l (v := lo_ (an_ (k_len σ x) (v_len σ x))) hx hb dL_law_314 rfl ?_
    refine lv_lcmpE hx hb (show g2 0 = lo_ (an_ (k_len σ x) (v_len σ x)) from by rw [hg9, an_0 c9]) dL_law_315 ?_
    refine zz_if_eq (tgt := 321) hx hb dL_law_316 (by decide) (by omega) (fun _ => ?_) (fun c9 => absurd rfl c9)
    refine lv_goto (tgt := 1044) hx hb dL_law_321 (by decide) ?_
    refine W.widen (k := cells + 20) (n := slots + 200) (by omega) (by omega) ?_
    exact kk _ _ _ _ H locs ls hnv.1 hnv.2 hP hD hS (lv_sub hl [2, 3, 4, 5, 6] rfl)
set_option maxHeartbeats 4000000 in
set_option maxRecDepth 100000 in
theorem w_3 {p : Program} {e : Env} {s : State} {m : MethodId} {below : List Frame} {meth : Method} {c : Code} {l : Launch} (hl9 : l.stackTraces = false) {b L : Nat} {xs : Nat → Int32} (hL : L ≤ 2050) (C0 : lw_At p s m meth c b L xs) {D : va_G} {cy ga gr : Nat → Nat} {o : Nat} (hK : va_K D zz_cl (zz_ty cy) s) (hE : ev_ok (fun q : Nat => s.heap.size ≤ q) s) {ad : Int → Nat} {g : Nat → Int64} {σ : zz_S} {kc i : Int} {cells slots : Nat} {H : Heap} {locs : List Loc} {ls : Array Slot} (hi : 2 ≤ i ∧ i + 4 ≤ L) (hI : iv_ σ) (hs : σ 2 0 ≤ 99999900) (hP : va_P D zz_cl ((cw_ cy ga ad σ ++ ow_ cy o g) ++ rk_ cy gr kc σ) H) (hD : va_D (fun q : Nat => s.heap.size ≤ q) ((cw_ cy ga ad σ ++ ow_ cy o g) ++ rk_ cy gr kc σ)) (hS : va_S (fun q : Nat => s.heap.size ≤ q) s.heap H locs) (hl : lv_has ls 7 [(0, .ref (b)), (1, .ref (ga 0)), (2, .ref (gr 0)), (3, .ref (o)), (4, .int (zz_i (i)))]) (hf : cells + 20 ≤ 601024 ∧ slots + 200 ≤ 7293000)
    (kk : ∀ (σ' : zz_S) (k' : Int) (ad' : Int → Nat) (g' : Nat → Int64) (H' : Heap) (locs' : List Loc) (ls' : Array Slot), iv_ σ' → σ' 2 0 ≤ σ 2 0 + 100 → va_P D zz_cl ((cw_ cy ga ad' σ' ++ ow_ cy o g') ++ rk_ cy gr k' σ') H' → va_D (fun q : Nat => s.heap.size ≤ q) ((cw_ cy ga ad' σ' ++ ow_ cy o g') ++ rk_ cy gr k' σ') → va_S (fun q : Nat => s.heap.size ≤ q) s.heap H' locs' → lv_has ls' 7 [(0, .ref (b)), (1, .ref (ga 0)), (2, .ref (gr 0)), (3, .ref (o)), (4, .int (zz_i (i)))] → W p l e room_1 s m #[Value.ref b] below meth c H' locs' (cells + 20) (slots + 200) (lw_Z below #[Value.ref b] s) (F0 m 1044 ls' [])) :
    W p l e room_1 s m #[Value.ref b] below meth c H locs cells slots (lw_Z below #[Value.ref b] s) (F0 m 324 ls []) := by
  obtain ⟨hx, hb, hr, hml, hown, hts, hX, hbl, hlocks, hgv⟩ := id C0
  have htt := hts
  have hts : ∀ w ∈ wsL_law, w.before #[Value.ref b] s = true := fun w h => hts w (wsL_law_in w h)
  have hA : ∀ q : Nat, s.heap.size ≤ q → (fun q : Nat => s.heap.size ≤ q) q := fun _ h => h
  have hbA : ¬ (fun q : Nat => s.heap.size ≤ q) b := Nat.not_le.mpr hbl
  obtain ⟨x, e_x, q_x⟩ : ∃ z : Int, (xs (i + 1).toNat).toInt = z ∧ (-2147483648 ≤ z ∧ z < 2147483648) := ⟨_, rfl, zz_bd _⟩
  obtain ⟨a, e_a, q_a⟩ : ∃ z : Int, (xs (i + 2).toNat).toInt = z ∧ (-2147483648 ≤ z ∧ z < 2147483648) := ⟨_, rfl, zz_bd _⟩
  obtain ⟨y, e_y, q_y⟩ : ∃ z : Int, (xs (i + 3).toNat).toInt = z ∧ (-2147483648 ≤ z ∧ z < 2147483648) := ⟨_, rfl, zz_bd _⟩
  refine lv_aload_n hx hb dL_law_324 rfl (lv_at hl 1 rfl) ?_
  refine lv_aload_n hx hb dL_law_325 rfl (lv_at hl 0 rfl) ?_
  refine lv_iload hx hb dL_law_326 (lv_at hl 4 rfl) ?_
  refine lv_iconst (v := zz_i (1)) hx hb dL_law_328 rfl ?_
  refine zz_iadd hx hb dL_law_329 ?_
  refine zz_sld hx hb hX hbl hbA hS (show 0 ≤ i + 1 ∧ i + 1 < (L : Int) by omega) (by omega) dL_law_330 ?_
  rw [e_x]
  refine lv_aload_n hx hb dL_law_331 rfl (lv_at hl 0 rfl) ?_
  refine lv_iload hx hb dL_law_332 (lv_at hl 4 rfl) ?_
  refine lv_iconst (v := zz_i (2)) hx hb dL_law_334 rfl ?_
  refine zz_iadd hx hb dL_law_335 ?_
  refine zz_sld hx hb hX hbl hbA hS (show 0 ≤ i + 2 ∧ i + 2 < (L : Int) by omega) (by omega) dL_law_336 ?_
  rw [e_a]
  refine lv_aload_n hx hb dL_law_337 rfl (lv_at hl 0 rfl) ?_
  refine lv_iload hx hb dL_law_338 (lv_at hl 4 rfl) ?_
  refine lv_iconst (v := zz_i (3)) hx hb dL_law_340 rfl ?_
  refine zz_iadd hx hb dL_law_341 ?_
  refine zz_sld hx hb hX hbl hbA hS (show 0 ≤ i + 3 ∧ i + 3 < (L : Int) by omega) (by omega) dL_law_342 ?_
  rw [e_y]
  have hkr := kr_ret σ x a y
  have hnv := nv_ret hI x a y
  refine zf_w (wc := cw_ cy ga ad σ ++ ow_ cy o g) (wr := rk_ cy gr kc σ) (As := [.ref (ga 0), .int (zz_i (x)), .int (zz_i (a)), .int (zz_i (y))]) (rest := []) (S := (Int → Nat) × (Nat → Int64)) (pc := 343) ⟨hx, hb, hml, hown, hts⟩ (h_retry l hl9 D cy ga ad σ _ hI o g x a y q_x q_a q_y) (vx_cwSW 4 hts gL_law_L_retry rfl rfl rfl (by decide +kernel) ⟨(Nat.le_of_ble_eq_true rfl), (Nat.le_of_ble_eq_true rfl)⟩) hK hP hD hS hA hE rfl hl.1 rfl (Nat.le_of_ble_eq_true rfl) dL_law_343 ⟨show cells + 3 ≤ 601024 by omega, show slots + 18 ≤ 7293000 by omega⟩ (fun u H locs hu hP hD hS => ?_)
  obtain ⟨ad2, g2⟩ := u
  have hP := fr_Pc (a := cw_ cy ga ad2 (nx_ (k_ret σ x a y) σ (s_ret σ x a y)) ++ ow_ cy o g2) (b := rk_ cy gr kc σ) hP
  have hD := fr_Dc (a := cw_ cy ga ad2 (nx_ (k_ret σ x a y) σ (s_ret σ x a y)) ++ ow_ cy o g2) (b := rk_ cy gr kc σ) hD
  refine W.eq (g2 := F0 m 346 ls [.int (zz_i (k_ret σ x a y))]) rfl ?_
  refine lv_istore (lv' := [(5, .int (zz_i (k_ret σ x a y))), (0, .ref (b)), (1, .ref (ga 0)), (2, .ref (gr 0)), (3, .ref (o)), (4, .int (zz_i (i)))]) hx hb dL_law_346 hl (by decide) rfl (fun ls hl => ?_)
  refine lv_aload_n hx hb dL_law_348 rfl (lv_at hl 3 rfl) ?_
  refine lv_aload_n hx hb dL_law_349 rfl (lv_at hl 1 rfl) ?_
  refine lv_iload hx hb dL_law_350 (lv_at hl 5 rfl) ?_
  refine lv_iconst (v := zz_i (1)) hx hb dL_law_352 rfl ?_
  refine zz_iadd hx hb dL_law_353 ?_
  refine zz_sld hx hb hX hbl hbA hS (show 0 ≤ i + 1 ∧ i + 1 < (L : Int) by omega) (by omega) dL_law_354 ?_
  rw [e_x]
  refine lv_aload_n hx hb dL_law_355 rfl (lv_at hl 1 rfl) ?_
  refine lv_iload hx hb dL_law_356 (lv_at hl 5 rfl) ?_
  refine lv_iconst (v := zz_i (2)) hx hb dL_law_358 rfl ?_
  refine zz_iadd hx hb dL_law_359 ?_
  refine zz_sld hx hb hX hbl hbA hS (show 0 ≤ i + 2 ∧ i + 2 < (L : Int) by omega) (by omega) dL_law_360 ?_
  rw [e_a]
  refine lv_aload_n hx hb dL_law_361 rfl (lv_at hl 1 rfl) ?_
  refine lv_iload hx hb dL_law_362 (lv_at hl 5 rfl) ?_
  refine lv_iconst (v := zz_i (3)) hx hb dL_law_364 rfl ?_
  refine zz_iadd hx hb dL_law_365 ?_
  refine zz_sld hx hb hX hbl hbA hS (show 0 ≤ i + 3 ∧ i + 3 < (L : Int) by omega) (by omega) dL_law_366 ?_
  rw [e_y]
  refine zf_v (wc := rk_ cy gr kc σ) (wr := cw_ cy ga ad2 (nx_ (k_ret σ x a y) σ (s_ret σ x a y)) ++ ow_ cy o g2) (As := [.int (zz_i (x)), .int (zz_i (a)), .int (zz_i (y))]) (rest := []) (S := Unit) (pc := 367) ⟨hx, hb, hml, hown, hts⟩ (r_retry l D cy gr kc σ _ hI x a y q_x q_a q_y) (cwV 3 hts gL_law_X3_retry rfl rfl rfl (by decide +kernel) ⟨(Nat.le_of_ble_eq_true rfl), (Nat.le_of_ble_eq_true rfl)⟩) hK hP hD hS hA hE (va_recv hK hP (ci := 3) (q0 := 0) rfl rfl) rfl hl.1 rfl (Nat.le_of_ble_eq_true rfl) dL_law_367 ⟨show cells + 3 + 0 ≤ 601024 by omega, show slots + 18 + 0 ≤ 7293000 by omega⟩ (fun _ H locs _ hP hD hS => ?_)
  refine W.eq (g2 := F0 m 370 ls []) rfl ?_
  refine lv_aload_n hx hb dL_law_370 rfl (lv_at hl 3 rfl) ?_
  refine zf_v (wc := rk_ cy gr (k_ret σ x a y) (nx_ (k_ret σ x a y) σ (s_ret σ x a y))) (wr := cw_ cy ga ad2 (nx_ (k_ret σ x a y) σ (s_ret σ x a y)) ++ ow_ cy o g2) (As := []) (rest := []) (S := Unit) (pc := 371) ⟨hx, hb, hml, hown, hts⟩ (r_thrown l D cy gr (k_ret σ x a y) (nx_ (k_ret σ x a y) σ (s_ret σ x a y)) _) (cwV 0 hts gL_law_X3_thrown rfl rfl rfl (by decide +kernel) ⟨(Nat.le_of_ble_eq_true rfl), (Nat.le_of_ble_eq_true rfl)⟩) hK hP hD hS hA hE (va_recv hK hP (ci := 3) (q0 := 0) rfl rfl) rfl hl.1 rfl (Nat.le_of_ble_eq_true rfl) dL_law_371 ⟨show cells + 3 + 0 + 0 ≤ 601024 by omega, show slots + 18 + 0 + 0 ≤ 7293000 by omega⟩ (fun _ H locs _ hP hD hS => ?_)
  have hP := fr_Pc (a := rk_ cy gr (k_ret σ x a y) (nx_ (k_ret σ x a y) σ (s_ret σ x a y))) (b := cw_ cy ga ad2 (nx_ (k_ret σ x a y) σ (s_ret σ x a y)) ++ ow_ cy o g2) hP
  have hD := fr_Dc (a := rk_ cy gr (k_ret σ x a y) (nx_ (k_ret σ x a y) σ (s_ret σ x a y))) (b := cw_ cy ga ad2 (nx_ (k_ret σ x a y) σ (s_ret σ x a y)) ++ ow_ cy o g2) hD
  refine W.eq (g2 := F0 m 374 ls [.int (zz_i (k_ret σ x a y))]) rfl ?_
  refine lv_iload hx hb dL_law_374 (lv_at hl 0 rfl) ?_
  refine lv_icmp_eq (tgt := 381) hx hb dL_law_376 (by decide) (fun _ => ?_) (fun c9 => absurd rfl c9)
  refine lv_goto (tgt := 1044) hx hb dL_law_381 (by decide) ?_
  refine W.widen (k := cells + 20) (n := slots + 200) (by omega) (by omega) ?_
  exact kk _ _ _ _ H locs ls hnv.1 hnv.2 hP hD hS (lv_sub hl [1, 2, 3, 4, 5] rfl)
set_option maxHeartbeats 4000000 in
set_option maxRecDepth 100000 in
theorem w_4 {p : Program} {e : Env} {s : State} {m : MethodId} {below : List Frame} {meth : Method} {c : Code} {l : Launch} (hl9 : l.stackTraces = false) {b L : Nat} {xs : Nat → Int32} (hL : L ≤ 2050) (C0 : lw_At p s m meth c b L xs) {D : va_G} {cy ga gr : Nat → Nat} {o : Nat} (hK : va_K D zz_cl (zz_ty cy) s) (hE : ev_ok (fun q : Nat => s.heap.size ≤ q) s) {ad : Int → Nat} {g : Nat → Int64} {σ : zz_S} {kc i : Int} {cells slots : Nat} {H : Heap} {locs : List Loc} {ls : Array Slot} (hi : 2 ≤ i ∧ i + 4 ≤ L) (hI : iv_ σ) (hs : σ 2 0 ≤ 99999900) (hP : va_P D zz_cl ((cw_ cy ga ad σ ++ ow_ cy o g) ++ rk_ cy gr kc σ) H) (hD : va_D (fun q : Nat => s.heap.size ≤ q) ((cw_ cy ga ad σ ++ ow_ cy o g) ++ rk_ cy gr kc σ)) (hS : va_S (fun q : Nat => s.heap.size ≤ q) s.heap H locs) (hl : lv_has ls 7 [(0, .ref (b)), (1, .ref (ga 0)), (2, .ref (gr 0)), (3, .ref (o)), (4, .int (zz_i (i)))]) (hf : cells + 20 ≤ 601024 ∧ slots + 200 ≤ 7293000)
    (kk : ∀ (σ' : zz_S) (k' : Int) (ad' : Int → Nat) (g' : Nat → Int64) (H' : Heap) (locs' : List Loc) (ls' : Array Slot), iv_ σ' → σ' 2 0 ≤ σ 2 0 + 100 → va_P D zz_cl ((cw_ cy ga ad' σ' ++ ow_ cy o g') ++ rk_ cy gr k' σ') H' → va_D (fun q : Nat => s.heap.size ≤ q) ((cw_ cy ga ad' σ' ++ ow_ cy o g') ++ rk_ cy gr k' σ') → va_S (fun q : Nat => s.heap.size ≤ q) s.heap H' locs' → lv_has ls' 7 [(0, .ref (b)), (1, .ref (ga 0)), (2, .ref (gr 0)), (3, .ref (o)), (4, .int (zz_i (i)))] → W p l e room_1 s m #[Value.ref b] below meth c H' locs' (cells + 20) (slots + 200) (lw_Z below #[Value.ref b] s) (F0 m 1044 ls' [])) :
    W p l e room_1 s m #[Value.ref b] below meth c H locs cells slots (lw_Z below #[Value.ref b] s) (F0 m 384 ls []) := by
  obtain ⟨hx, hb, hr, hml, hown, hts, hX, hbl, hlocks, hgv⟩ := id C0
  have htt := hts
  have hts : ∀ w ∈ wsL_law, w.before #[Value.ref b] s = true := fun w h => hts w (wsL_law_in w h)
  have hA : ∀ q : Nat, s.heap.size ≤ q → (fun q : Nat => s.heap.size ≤ q) q := fun _ h => h
  have hbA : ¬ (fun q : Nat => s.heap.size ≤ q) b := Nat.not_le.mpr hbl
  obtain ⟨x, e_x, q_x⟩ : ∃ z : Int, (xs (i + 1).toNat).toInt = z ∧ (-2147483648 ≤ z ∧ z < 2147483648) := ⟨_, rfl, zz_bd _⟩
  refine lv_aload_n hx hb dL_law_384 rfl (lv_at hl 1 rfl) ?_
  refine lv_aload_n hx hb dL_law_385 rfl (lv_at hl 0 rfl) ?_
  refine lv_iload hx hb dL_law_386 (lv_at hl 4 rfl) ?_
  refine lv_iconst (v := zz_i (1)) hx hb dL_law_388 rfl ?_
  refine zz_iadd hx hb dL_law_389 ?_
  refine zz_sld hx hb hX hbl hbA hS (show 0 ≤ i + 1 ∧ i + 1 < (L : Int) by omega) (by omega) dL_law_390 ?_
  rw [e_x]
  refine lv_aload_n hx hb dL_law_391 rfl (lv_at hl 3 rfl) ?_
  have hkr := kr_stp σ x
  have hnv := nv_stp hI x hs
  refine zf_w (wc := cw_ cy ga ad σ ++ ow_ cy o g) (wr := rk_ cy gr kc σ) (As := [.ref (ga 0), .int (zz_i (x)), .ref (o)]) (rest := []) (S := (Int → Nat) × (Nat → Int64)) (pc := 392) ⟨hx, hb, hml, hown, hts⟩ (h_step l hl9 D cy ga ad σ _ hI o g x q_x hs) (vx_cwSW 3 hts gL_law_L_step rfl rfl rfl (by decide +kernel) ⟨(Nat.le_of_ble_eq_true rfl), (Nat.le_of_ble_eq_true rfl)⟩) hK hP hD hS hA hE rfl hl.1 rfl (Nat.le_of_ble_eq_true rfl) dL_law_392 ⟨show cells + 1 ≤ 601024 by omega, show slots + 6 ≤ 7293000 by omega⟩ (fun u H locs hu hP hD hS => ?_)
  obtain ⟨ad2, g2⟩ := u
  have hu : k_stp σ x = 0 → g2 0 = lo_ (s_stp σ x 5 0 - σ 5 0) := hu
  have hP := fr_Pc (a := cw_ cy ga ad2 (nx_ (k_stp σ x) σ (s_stp σ x)) ++ ow_ cy o g2) (b := rk_ cy gr kc σ) hP
  have hD := fr_Dc (a := cw_ cy ga ad2 (nx_ (k_stp σ x) σ (s_stp σ x)) ++ ow_ cy o g2) (b := rk_ cy gr kc σ) hD
  refine W.eq (g2 := F0 m 395 ls [.int (zz_i (k_stp σ x))]) rfl ?_
  refine lv_istore (lv' := [(5, .int (zz_i (k_stp σ x))), (0, .ref (b)), (1, .ref (ga 0)), (2, .ref (gr 0)), (3, .ref (o)), (4, .int (zz_i (i)))]) hx hb dL_law_395 hl (by decide) rfl (fun ls hl => ?_)
  refine lv_aload_n hx hb dL_law_397 rfl (lv_at hl 3 rfl) ?_
  refine lv_aload_n hx hb dL_law_398 rfl (lv_at hl 1 rfl) ?_
  refine lv_iload hx hb dL_law_399 (lv_at hl 5 rfl) ?_
  refine lv_iconst (v := zz_i (1)) hx hb dL_law_401 rfl ?_
  refine zz_iadd hx hb dL_law_402 ?_
  refine zz_sld hx hb hX hbl hbA hS (show 0 ≤ i + 1 ∧ i + 1 < (L : Int) by omega) (by omega) dL_law_403 ?_
  rw [e_x]
  refine zf_v (wc := rk_ cy gr kc σ) (wr := cw_ cy ga ad2 (nx_ (k_stp σ x) σ (s_stp σ x)) ++ ow_ cy o g2) (As := [.int (zz_i (x))]) (rest := []) (S := Unit) (pc := 404) ⟨hx, hb, hml, hown, hts⟩ (r_step l D cy gr kc σ _ hI x q_x hs) (cwV 1 hts gL_law_X3_step rfl rfl rfl (by decide +kernel) ⟨(Nat.le_of_ble_eq_true rfl), (Nat.le_of_ble_eq_true rfl)⟩) hK hP hD hS hA hE (va_recv hK hP (ci := 3) (q0 := 0) rfl rfl) rfl hl.1 rfl (Nat.le_of_ble_eq_true rfl) dL_law_404 ⟨show cells + 1 + 0 ≤ 601024 by omega, show slots + 6 + 0 ≤ 7293000 by omega⟩ (fun _ H locs _ hP hD hS => ?_)
  refine W.eq (g2 := F0 m 407 ls [.int (zz_i (an_ (k_stp σ x) (s_stp σ x 5 0 - σ 5 0)))]) rfl ?_
  refine lv_istore (lv' := [(6, .int (zz_i (an_ (k_stp σ x) (s_stp σ x 5 0 - σ 5 0)))), (5, .int (zz_i (k_stp σ x))), (0, .ref (b)), (1, .ref (ga 0)), (2, .ref (gr 0)), (3, .ref (o)), (4, .int (zz_i (i)))]) hx hb dL_law_407 hl (by decide) rfl (fun ls hl => ?_)
  refine lv_aload_n hx hb dL_law_409 rfl (lv_at hl 4 rfl) ?_
  refine zf_v (wc := rk_ cy gr (k_stp σ x) (nx_ (k_stp σ x) σ (s_stp σ x))) (wr := cw_ cy ga ad2 (nx_ (k_stp σ x) σ (s_stp σ x)) ++ ow_ cy o g2) (As := []) (rest := []) (S := Unit) (pc := 410) ⟨hx, hb, hml, hown, hts⟩ (r_thrown l D cy gr (k_stp σ x) (nx_ (k_stp σ x) σ (s_stp σ x)) _) (cwV 0 hts gL_law_X3_thrown rfl rfl rfl (by decide +kernel) ⟨(Nat.le_of_ble_eq_true rfl), (Nat.le_of_ble_eq_true rfl)⟩) hK hP hD hS hA hE (va_recv hK hP (ci := 3) (q0 := 0) rfl rfl) rfl hl.1 rfl (Nat.le_of_ble_eq_true rfl) dL_law_410 ⟨show cells + 1 + 0 + 0 ≤ 601024 by omega, show slots + 6 + 0 + 0 ≤ 7293000 by omega⟩ (fun _ H locs _ hP hD hS => ?_)
  have hP := fr_Pc (a := rk_ cy gr (k_stp σ x) (nx_ (k_stp σ x) σ (s_stp σ x))) (b := cw_ cy ga ad2 (nx_ (k_stp σ x) σ (s_stp σ x)) ++ ow_ cy o g2) hP
  have hD := fr_Dc (a := rk_ cy gr (k_stp σ x) (nx_ (k_stp σ x) σ (s_stp σ x))) (b := cw_ cy ga ad2 (nx_ (k_stp σ x) σ (s_stp σ x)) ++ ow_ cy o g2) hD
  refine W.eq (g2 := F0 m 413 ls [.int (zz_i (k_stp σ x))]) rfl ?_
  refine lv_iload hx hb dL_law_413 (lv_at hl 1 rfl) ?_
  refine lv_icmp_eq (tgt := 420) hx hb dL_law_415 (by decide) (fun _ => ?_) (fun c9 => absurd rfl c9)
  refine lv_iload hx hb dL_law_420 (lv_at hl 1 rfl) ?_
  refine zz_if_ne (tgt := 437) hx hb dL_law_422 (by decide) (by omega) (fun c9 => ?_) (fun c9 => ?_)
  · skip
    refine lv_goto (tgt := 1044) hx hb dL_law_437 (by decide) ?_
    refine W.widen (k := cells + 20) (n := slots + 200) (by omega) (by omega) ?_
    exact kk _ _ _ _ H locs ls hnv.1 hnv.2 hP hD hS (lv_sub hl [2, 3, 4, 5, 6] rfl)
  · have hg9 := hu c9
    refine lv_aload_n hx hb dL_law_425 rfl (lv_at hl 5 rfl) ?_
    refine lv_iconst (v := zz_i (0)) hx hb dL_law_426 rfl ?_
    refine zz_lald hx hb _ (fr_l (ow_at _ cy o g2)) hK hP dL_law_427 ?_
    refine lv_iload hx hb dL_law_428 (lv_at hl 0 rfl) ?_
    refine lv_i2l (v := lo_ (an_ (k_stp σ x) (s_stp σ x 5 0 - σ 5 0))) hx hb dL_law_430 rfl ?_
    refine lv_lcmpE hx hb (show g2 0 = lo_ (an_ (k_stp σ x) (s_stp σ x 5 0 - σ 5 0)) from by rw [hg9, an_0 c9]) dL_law_431 ?_
    refine zz_if_eq (tgt := 437) hx hb dL_law_432 (by decide) (by omega) (fun _ => ?_) (fun c9 => absurd rfl c9)
    refine lv_goto (tgt := 1044) hx hb dL_law_437 (by decide) ?_
    refine W.widen (k := cells + 20) (n := slots + 200) (by omega) (by omega) ?_
    exact kk _ _ _ _ H locs ls hnv.1 hnv.2 hP hD hS (lv_sub hl [2, 3, 4, 5, 6] rfl)
set_option maxHeartbeats 4000000 in
set_option maxRecDepth 100000 in
theorem w_5 {p : Program} {e : Env} {s : State} {m : MethodId} {below : List Frame} {meth : Method} {c : Code} {l : Launch} (hl9 : l.stackTraces = false) {b L : Nat} {xs : Nat → Int32} (hL : L ≤ 2050) (C0 : lw_At p s m meth c b L xs) {D : va_G} {cy ga gr : Nat → Nat} {o : Nat} (hK : va_K D zz_cl (zz_ty cy) s) (hE : ev_ok (fun q : Nat => s.heap.size ≤ q) s) {ad : Int → Nat} {g : Nat → Int64} {σ : zz_S} {kc i : Int} {cells slots : Nat} {H : Heap} {locs : List Loc} {ls : Array Slot} (hi : 2 ≤ i ∧ i + 4 ≤ L) (hI : iv_ σ) (hs : σ 2 0 ≤ 99999900) (hP : va_P D zz_cl ((cw_ cy ga ad σ ++ ow_ cy o g) ++ rk_ cy gr kc σ) H) (hD : va_D (fun q : Nat => s.heap.size ≤ q) ((cw_ cy ga ad σ ++ ow_ cy o g) ++ rk_ cy gr kc σ)) (hS : va_S (fun q : Nat => s.heap.size ≤ q) s.heap H locs) (hl : lv_has ls 7 [(0, .ref (b)), (1, .ref (ga 0)), (2, .ref (gr 0)), (3, .ref (o)), (4, .int (zz_i (i)))]) (hf : cells + 20 ≤ 601024 ∧ slots + 200 ≤ 7293000)
    (kk : ∀ (σ' : zz_S) (k' : Int) (ad' : Int → Nat) (g' : Nat → Int64) (H' : Heap) (locs' : List Loc) (ls' : Array Slot), iv_ σ' → σ' 2 0 ≤ σ 2 0 + 100 → va_P D zz_cl ((cw_ cy ga ad' σ' ++ ow_ cy o g') ++ rk_ cy gr k' σ') H' → va_D (fun q : Nat => s.heap.size ≤ q) ((cw_ cy ga ad' σ' ++ ow_ cy o g') ++ rk_ cy gr k' σ') → va_S (fun q : Nat => s.heap.size ≤ q) s.heap H' locs' → lv_has ls' 7 [(0, .ref (b)), (1, .ref (ga 0)), (2, .ref (gr 0)), (3, .ref (o)), (4, .int (zz_i (i)))] → W p l e room_1 s m #[Value.ref b] below meth c H' locs' (cells + 20) (slots + 200) (lw_Z below #[Value.ref b] s) (F0 m 1044 ls' [])) :
    W p l e room_1 s m #[Value.ref b] below meth c H locs cells slots (lw_Z below #[Value.ref b] s) (F0 m 440 ls []) := by
  obtain ⟨hx, hb, hr, hml, hown, hts, hX, hbl, hlocks, hgv⟩ := id C0
  have htt := hts
  have hts : ∀ w ∈ wsL_law, w.before #[Value.ref b] s = true := fun w h => hts w (wsL_law_in w h)
  have hA : ∀ q : Nat, s.heap.size ≤ q → (fun q : Nat => s.heap.size ≤ q) q := fun _ h => h
  have hbA : ¬ (fun q : Nat => s.heap.size ≤ q) b := Nat.not_le.mpr hbl
  obtain ⟨x, e_x, q_x⟩ : ∃ z : Int, (xs (i + 1).toNat).toInt = z ∧ (-2147483648 ≤ z ∧ z < 2147483648) := ⟨_, rfl, zz_bd _⟩
  obtain ⟨y, e_y, q_y⟩ : ∃ z : Int, (xs (i + 2).toNat).toInt = z ∧ (-2147483648 ≤ z ∧ z < 2147483648) := ⟨_, rfl, zz_bd _⟩
  refine lv_aload_n hx hb dL_law_440 rfl (lv_at hl 1 rfl) ?_
  refine lv_aload_n hx hb dL_law_441 rfl (lv_at hl 0 rfl) ?_
  refine lv_iload hx hb dL_law_442 (lv_at hl 4 rfl) ?_
  refine lv_iconst (v := zz_i (1)) hx hb dL_law_444 rfl ?_
  refine zz_iadd hx hb dL_law_445 ?_
  refine zz_sld hx hb hX hbl hbA hS (show 0 ≤ i + 1 ∧ i + 1 < (L : Int) by omega) (by omega) dL_law_446 ?_
  rw [e_x]
  refine lv_aload_n hx hb dL_law_447 rfl (lv_at hl 0 rfl) ?_
  refine lv_iload hx hb dL_law_448 (lv_at hl 4 rfl) ?_
  refine lv_iconst (v := zz_i (2)) hx hb dL_law_450 rfl ?_
  refine zz_iadd hx hb dL_law_451 ?_
  refine zz_sld hx hb hX hbl hbA hS (show 0 ≤ i + 2 ∧ i + 2 < (L : Int) by omega) (by omega) dL_law_452 ?_
  rw [e_y]
  refine lv_aload_n hx hb dL_law_453 rfl (lv_at hl 3 rfl) ?_
  have hkr := kr_out σ x y
  have hnv := nv_id hI (k_out σ x y)
  refine zf_w (wc := cw_ cy ga ad σ ++ ow_ cy o g) (wr := rk_ cy gr kc σ) (As := [.ref (ga 0), .int (zz_i (x)), .int (zz_i (y)), .ref (o)]) (rest := []) (S := (Int → Nat) × (Nat → Int64)) (pc := 454) ⟨hx, hb, hml, hown, hts⟩ (h_out l hl9 D cy ga ad σ _ hI o g x y q_x q_y) (vx_cwSW 4 hts gL_law_L_out rfl rfl rfl (by decide +kernel) ⟨(Nat.le_of_ble_eq_true rfl), (Nat.le_of_ble_eq_true rfl)⟩) hK hP hD hS hA hE rfl hl.1 rfl (Nat.le_of_ble_eq_true rfl) dL_law_454 ⟨show cells + 1 ≤ 601024 by omega, show slots + 6 ≤ 7293000 by omega⟩ (fun u H locs hu hP hD hS => ?_)
  obtain ⟨ad2, g2⟩ := u
  have hu : k_out σ x y = 0 → g2 0 = lo_ (v_out σ x y) := hu
  have hP := fr_Pc (a := cw_ cy ga ad2 (nx_ (k_out σ x y) σ (σ)) ++ ow_ cy o g2) (b := rk_ cy gr kc σ) hP
  have hD := fr_Dc (a := cw_ cy ga ad2 (nx_ (k_out σ x y) σ (σ)) ++ ow_ cy o g2) (b := rk_ cy gr kc σ) hD
  refine W.eq (g2 := F0 m 457 ls [.int (zz_i (k_out σ x y))]) rfl ?_
  refine lv_istore (lv' := [(5, .int (zz_i (k_out σ x y))), (0, .ref (b)), (1, .ref (ga 0)), (2, .ref (gr 0)), (3, .ref (o)), (4, .int (zz_i (i)))]) hx hb dL_law_457 hl (by decide) rfl (fun ls hl => ?_)
  refine lv_aload_n hx hb dL_law_459 rfl (lv_at hl 3 rfl) ?_
  refine lv_aload_n hx hb dL_law_460 rfl (lv_at hl 1 rfl) ?_
  refine lv_iload hx hb dL_law_461 (lv_at hl 5 rfl) ?_
  refine lv_iconst (v := zz_i (1)) hx hb dL_law_463 rfl ?_
  refine zz_iadd hx hb dL_law_464 ?_
  refine zz_sld hx hb hX hbl hbA hS (show 0 ≤ i + 1 ∧ i + 1 < (L : Int) by omega) (by omega) dL_law_465 ?_
  rw [e_x]
  refine lv_aload_n hx hb dL_law_466 rfl (lv_at hl 1 rfl) ?_
  refine lv_iload hx hb dL_law_467 (lv_at hl 5 rfl) ?_
  refine lv_iconst (v := zz_i (2)) hx hb dL_law_469 rfl ?_
  refine zz_iadd hx hb dL_law_470 ?_
  refine zz_sld hx hb hX hbl hbA hS (show 0 ≤ i + 2 ∧ i + 2 < (L : Int) by omega) (by omega) dL_law_471 ?_
  rw [e_y]
  refine zf_v (wc := rk_ cy gr kc σ) (wr := cw_ cy ga ad2 (nx_ (k_out σ x y) σ (σ)) ++ ow_ cy o g2) (As := [.int (zz_i (x)), .int (zz_i (y))]) (rest := []) (S := Unit) (pc := 472) ⟨hx, hb, hml, hown, hts⟩ (r_out l D cy gr kc σ _ hI x y q_x q_y) (cwV 2 hts gL_law_X3_out rfl rfl rfl (by decide +kernel) ⟨(Nat.le_of_ble_eq_true rfl), (Nat.le_of_ble_eq_true rfl)⟩) hK hP hD hS hA hE (va_recv hK hP (ci := 3) (q0 := 0) rfl rfl) rfl hl.1 rfl (Nat.le_of_ble_eq_true rfl) dL_law_472 ⟨show cells + 1 + 0 ≤ 601024 by omega, show slots + 6 + 0 ≤ 7293000 by omega⟩ (fun _ H locs _ hP hD hS => ?_)
  refine W.eq (g2 := F0 m 475 ls [.int (zz_i (an_ (k_out σ x y) (v_out σ x y)))]) rfl ?_
  refine lv_istore (lv' := [(6, .int (zz_i (an_ (k_out σ x y) (v_out σ x y)))), (5, .int (zz_i (k_out σ x y))), (0, .ref (b)), (1, .ref (ga 0)), (2, .ref (gr 0)), (3, .ref (o)), (4, .int (zz_i (i)))]) hx hb dL_law_475 hl (by decide) rfl (fun ls hl => ?_)
  refine lv_aload_n hx hb dL_law_477 rfl (lv_at hl 4 rfl) ?_
  refine zf_v (wc := rk_ cy gr (k_out σ x y) (nx_ (k_out σ x y) σ (σ))) (wr := cw_ cy ga ad2 (nx_ (k_out σ x y) σ (σ)) ++ ow_ cy o g2) (As := []) (rest := []) (S := Unit) (pc := 478) ⟨hx, hb, hml, hown, hts⟩ (r_thrown l D cy gr (k_out σ x y) (nx_ (k_out σ x y) σ (σ)) _) (cwV 0 hts gL_law_X3_thrown rfl rfl rfl (by decide +kernel) ⟨(Nat.le_of_ble_eq_true rfl), (Nat.le_of_ble_eq_true rfl)⟩) hK hP hD hS hA hE (va_recv hK hP (ci := 3) (q0 := 0) rfl rfl) rfl hl.1 rfl (Nat.le_of_ble_eq_true rfl) dL_law_478 ⟨show cells + 1 + 0 + 0 ≤ 601024 by omega, show slots + 6 + 0 + 0 ≤ 7293000 by omega⟩ (fun _ H locs _ hP hD hS => ?_)
  have hP := fr_Pc (a := rk_ cy gr (k_out σ x y) (nx_ (k_out σ x y) σ (σ))) (b := cw_ cy ga ad2 (nx_ (k_out σ x y) σ (σ)) ++ ow_ cy o g2) hP
  have hD := fr_Dc (a := rk_ cy gr (k_out σ x y) (nx_ (k_out σ x y) σ (σ))) (b := cw_ cy ga ad2 (nx_ (k_out σ x y) σ (σ)) ++ ow_ cy o g2) hD
  refine W.eq (g2 := F0 m 481 ls [.int (zz_i (k_out σ x y))]) rfl ?_
  refine lv_iload hx hb dL_law_481 (lv_at hl 1 rfl) ?_
  refine lv_icmp_eq (tgt := 488) hx hb dL_law_483 (by decide) (fun _ => ?_) (fun c9 => absurd rfl c9)
  refine lv_iload hx hb dL_law_488 (lv_at hl 1 rfl) ?_
  refine zz_if_ne (tgt := 505) hx hb dL_law_490 (by decide) (by omega) (fun c9 => ?_) (fun c9 => ?_)
  · skip
    refine lv_goto (tgt := 1044) hx hb dL_law_505 (by decide) ?_
    refine W.widen (k := cells + 20) (n := slots + 200) (by omega) (by omega) ?_
    exact kk _ _ _ _ H locs ls hnv.1 hnv.2 hP hD hS (lv_sub hl [2, 3, 4, 5, 6] rfl)
  · have hg9 := hu c9
    refine lv_aload_n hx hb dL_law_493 rfl (lv_at hl 5 rfl) ?_
    refine lv_iconst (v := zz_i (0)) hx hb dL_law_494 rfl ?_
    refine zz_lald hx hb _ (fr_l (ow_at _ cy o g2)) hK hP dL_law_495 ?_
    refine lv_iload hx hb dL_law_496 (lv_at hl 0 rfl) ?_
    refine lv_i2l (v := lo_ (an_ (k_out σ x y) (v_out σ x y))) hx hb dL_law_498 rfl ?_
    refine lv_lcmpE hx hb (show g2 0 = lo_ (an_ (k_out σ x y) (v_out σ x y)) from by rw [hg9, an_0 c9]) dL_law_499 ?_
    refine zz_if_eq (tgt := 505) hx hb dL_law_500 (by decide) (by omega) (fun _ => ?_) (fun c9 => absurd rfl c9)
    refine lv_goto (tgt := 1044) hx hb dL_law_505 (by decide) ?_
    refine W.widen (k := cells + 20) (n := slots + 200) (by omega) (by omega) ?_
    exact kk _ _ _ _ H locs ls hnv.1 hnv.2 hP hD hS (lv_sub hl [2, 3, 4, 5, 6] rfl)
set_option maxHeartbeats 4000000 in
set_option maxRecDepth 100000 in
theorem w_6 {p : Program} {e : Env} {s : State} {m : MethodId} {below : List Frame} {meth : Method} {c : Code} {l : Launch} (hl9 : l.stackTraces = false) {b L : Nat} {xs : Nat → Int32} (hL : L ≤ 2050) (C0 : lw_At p s m meth c b L xs) {D : va_G} {cy ga gr : Nat → Nat} {o : Nat} (hK : va_K D zz_cl (zz_ty cy) s) (hE : ev_ok (fun q : Nat => s.heap.size ≤ q) s) {ad : Int → Nat} {g : Nat → Int64} {σ : zz_S} {kc i : Int} {cells slots : Nat} {H : Heap} {locs : List Loc} {ls : Array Slot} (hi : 2 ≤ i ∧ i + 4 ≤ L) (hI : iv_ σ) (hs : σ 2 0 ≤ 99999900) (hP : va_P D zz_cl ((cw_ cy ga ad σ ++ ow_ cy o g) ++ rk_ cy gr kc σ) H) (hD : va_D (fun q : Nat => s.heap.size ≤ q) ((cw_ cy ga ad σ ++ ow_ cy o g) ++ rk_ cy gr kc σ)) (hS : va_S (fun q : Nat => s.heap.size ≤ q) s.heap H locs) (hl : lv_has ls 7 [(0, .ref (b)), (1, .ref (ga 0)), (2, .ref (gr 0)), (3, .ref (o)), (4, .int (zz_i (i)))]) (hf : cells + 20 ≤ 601024 ∧ slots + 200 ≤ 7293000)
    (kk : ∀ (σ' : zz_S) (k' : Int) (ad' : Int → Nat) (g' : Nat → Int64) (H' : Heap) (locs' : List Loc) (ls' : Array Slot), iv_ σ' → σ' 2 0 ≤ σ 2 0 + 100 → va_P D zz_cl ((cw_ cy ga ad' σ' ++ ow_ cy o g') ++ rk_ cy gr k' σ') H' → va_D (fun q : Nat => s.heap.size ≤ q) ((cw_ cy ga ad' σ' ++ ow_ cy o g') ++ rk_ cy gr k' σ') → va_S (fun q : Nat => s.heap.size ≤ q) s.heap H' locs' → lv_has ls' 7 [(0, .ref (b)), (1, .ref (ga 0)), (2, .ref (gr 0)), (3, .ref (o)), (4, .int (zz_i (i)))] → W p l e room_1 s m #[Value.ref b] below meth c H' locs' (cells + 20) (slots + 200) (lw_Z below #[Value.ref b] s) (F0 m 1044 ls' [])) :
    W p l e room_1 s m #[Value.ref b] below meth c H locs cells slots (lw_Z below #[Value.ref b] s) (F0 m 508 ls []) := by
  obtain ⟨hx, hb, hr, hml, hown, hts, hX, hbl, hlocks, hgv⟩ := id C0
  have htt := hts
  have hts : ∀ w ∈ wsL_law, w.before #[Value.ref b] s = true := fun w h => hts w (wsL_law_in w h)
  have hA : ∀ q : Nat, s.heap.size ≤ q → (fun q : Nat => s.heap.size ≤ q) q := fun _ h => h
  have hbA : ¬ (fun q : Nat => s.heap.size ≤ q) b := Nat.not_le.mpr hbl
  obtain ⟨x, e_x, q_x⟩ : ∃ z : Int, (xs (i + 1).toNat).toInt = z ∧ (-2147483648 ≤ z ∧ z < 2147483648) := ⟨_, rfl, zz_bd _⟩
  obtain ⟨y, e_y, q_y⟩ : ∃ z : Int, (xs (i + 2).toNat).toInt = z ∧ (-2147483648 ≤ z ∧ z < 2147483648) := ⟨_, rfl, zz_bd _⟩
  refine lv_aload_n hx hb dL_law_508 rfl (lv_at hl 1 rfl) ?_
  refine lv_aload_n hx hb dL_law_509 rfl (lv_at hl 0 rfl) ?_
  refine lv_iload hx hb dL_law_510 (lv_at hl 4 rfl) ?_
  refine lv_iconst (v := zz_i (1)) hx hb dL_law_512 rfl ?_
  refine zz_iadd hx hb dL_law_513 ?_
  refine zz_sld hx hb hX hbl hbA hS (show 0 ≤ i + 1 ∧ i + 1 < (L : Int) by omega) (by omega) dL_law_514 ?_
  rw [e_x]
  refine lv_aload_n hx hb dL_law_515 rfl (lv_at hl 0 rfl) ?_
  refine lv_iload hx hb dL_law_516 (lv_at hl 4 rfl) ?_
  refine lv_iconst (v := zz_i (2)) hx hb dL_law_518 rfl ?_
  refine zz_iadd hx hb dL_law_519 ?_
  refine zz_sld hx hb hX hbl hbA hS (show 0 ≤ i + 2 ∧ i + 2 < (L : Int) by omega) (by omega) dL_law_520 ?_
  rw [e_y]
  refine zz_if_eq (tgt := 528) hx hb dL_law_521 (by decide) (by omega) (fun c8 => ?_) (fun c8 => ?_)
  · skip
    refine lv_iconst (v := zz_i (0)) hx hb dL_law_528 rfl ?_
    refine lv_aload_n hx hb dL_law_529 rfl (lv_at hl 3 rfl) ?_
    have hkr := kr_chu σ x
    have hnv := nv_chu hI x 0 (Or.inl rfl)
    refine zf_w (wc := cw_ cy ga ad σ ++ ow_ cy o g) (wr := rk_ cy gr kc σ) (As := [.ref (ga 0), .int (zz_i (x)), .int (zz_i (0)), .ref (o)]) (rest := []) (S := (Int → Nat) × (Nat → Int64)) (pc := 530) ⟨hx, hb, hml, hown, hts⟩ (h_chute l hl9 D cy ga ad σ _ hI o g x 0 q_x (Or.inl rfl)) (vx_cwSW 4 hts gL_law_L_chute rfl rfl rfl (by decide +kernel) ⟨(Nat.le_of_ble_eq_true rfl), (Nat.le_of_ble_eq_true rfl)⟩) hK hP hD hS hA hE rfl hl.1 rfl (Nat.le_of_ble_eq_true rfl) dL_law_530 ⟨show cells + 1 ≤ 601024 by omega, show slots + 6 ≤ 7293000 by omega⟩ (fun u H locs hu hP hD hS => ?_)
    obtain ⟨ad2, g2⟩ := u
    have hu : k_chu σ x = 0 → g2 0 = lo_ (σ 11 x) := hu
    have hP := fr_Pc (a := cw_ cy ga ad2 (nx_ (k_chu σ x) σ (up_a σ 11 x 0)) ++ ow_ cy o g2) (b := rk_ cy gr kc σ) hP
    have hD := fr_Dc (a := cw_ cy ga ad2 (nx_ (k_chu σ x) σ (up_a σ 11 x 0)) ++ ow_ cy o g2) (b := rk_ cy gr kc σ) hD
    refine W.eq (g2 := F0 m 533 ls [.int (zz_i (k_chu σ x))]) rfl ?_
    refine lv_istore (lv' := [(5, .int (zz_i (k_chu σ x))), (0, .ref (b)), (1, .ref (ga 0)), (2, .ref (gr 0)), (3, .ref (o)), (4, .int (zz_i (i)))]) hx hb dL_law_533 hl (by decide) rfl (fun ls hl => ?_)
    refine lv_aload_n hx hb dL_law_535 rfl (lv_at hl 3 rfl) ?_
    refine lv_aload_n hx hb dL_law_536 rfl (lv_at hl 1 rfl) ?_
    refine lv_iload hx hb dL_law_537 (lv_at hl 5 rfl) ?_
    refine lv_iconst (v := zz_i (1)) hx hb dL_law_539 rfl ?_
    refine zz_iadd hx hb dL_law_540 ?_
    refine zz_sld hx hb hX hbl hbA hS (show 0 ≤ i + 1 ∧ i + 1 < (L : Int) by omega) (by omega) dL_law_541 ?_
    rw [e_x]
    refine lv_aload_n hx hb dL_law_542 rfl (lv_at hl 1 rfl) ?_
    refine lv_iload hx hb dL_law_543 (lv_at hl 5 rfl) ?_
    refine lv_iconst (v := zz_i (2)) hx hb dL_law_545 rfl ?_
    refine zz_iadd hx hb dL_law_546 ?_
    refine zz_sld hx hb hX hbl hbA hS (show 0 ≤ i + 2 ∧ i + 2 < (L : Int) by omega) (by omega) dL_law_547 ?_
    rw [e_y]
    refine zz_if_eq (tgt := 555) hx hb dL_law_548 (by decide) (by omega) (fun c7 => ?_) (fun c7 => ?_)
    · skip
      refine lv_iconst (v := zz_i (0)) hx hb dL_law_555 rfl ?_
      refine zf_v (wc := rk_ cy gr kc σ) (wr := cw_ cy ga ad2 (nx_ (k_chu σ x) σ (up_a σ 11 x 0)) ++ ow_ cy o g2) (As := [.int (zz_i (x)), .int (zz_i (0))]) (rest := []) (S := Unit) (pc := 556) ⟨hx, hb, hml, hown, hts⟩ (r_chute l D cy gr kc σ _ hI x 0 q_x (Or.inl rfl)) (cwV 2 hts gL_law_X3_chute rfl rfl rfl (by decide +kernel) ⟨(Nat.le_of_ble_eq_true rfl), (Nat.le_of_ble_eq_true rfl)⟩) hK hP hD hS hA hE (va_recv hK hP (ci := 3) (q0 := 0) rfl rfl) rfl hl.1 rfl (Nat.le_of_ble_eq_true rfl) dL_law_556 ⟨show cells + 1 + 0 ≤ 601024 by omega, show slots + 6 + 0 ≤ 7293000 by omega⟩ (fun _ H locs _ hP hD hS => ?_)
      refine W.eq (g2 := F0 m 559 ls [.int (zz_i (an_ (k_chu σ x) (σ 11 x)))]) rfl ?_
      refine lv_istore (lv' := [(6, .int (zz_i (an_ (k_chu σ x) (σ 11 x)))), (5, .int (zz_i (k_chu σ x))), (0, .ref (b)), (1, .ref (ga 0)), (2, .ref (gr 0)), (3, .ref (o)), (4, .int (zz_i (i)))]) hx hb dL_law_559 hl (by decide) rfl (fun ls hl => ?_)
      refine lv_aload_n hx hb dL_law_561 rfl (lv_at hl 4 rfl) ?_
      refine zf_v (wc := rk_ cy gr (k_chu σ x) (nx_ (k_chu σ x) σ (up_a σ 11 x 0))) (wr := cw_ cy ga ad2 (nx_ (k_chu σ x) σ (up_a σ 11 x 0)) ++ ow_ cy o g2) (As := []) (rest := []) (S := Unit) (pc := 562) ⟨hx, hb, hml, hown, hts⟩ (r_thrown l D cy gr (k_chu σ x) (nx_ (k_chu σ x) σ (up_a σ 11 x 0)) _) (cwV 0 hts gL_law_X3_thrown rfl rfl rfl (by decide +kernel) ⟨(Nat.le_of_ble_eq_true rfl), (Nat.le_of_ble_eq_true rfl)⟩) hK hP hD hS hA hE (va_recv hK hP (ci := 3) (q0 := 0) rfl rfl) rfl hl.1 rfl (Nat.le_of_ble_eq_true rfl) dL_law_562 ⟨show cells + 1 + 0 + 0 ≤ 601024 by omega, show slots + 6 + 0 + 0 ≤ 7293000 by omega⟩ (fun _ H locs _ hP hD hS => ?_)
      have hP := fr_Pc (a := rk_ cy gr (k_chu σ x) (nx_ (k_chu σ x) σ (up_a σ 11 x 0))) (b := cw_ cy ga ad2 (nx_ (k_chu σ x) σ (up_a σ 11 x 0)) ++ ow_ cy o g2) hP
      have hD := fr_Dc (a := rk_ cy gr (k_chu σ x) (nx_ (k_chu σ x) σ (up_a σ 11 x 0))) (b := cw_ cy ga ad2 (nx_ (k_chu σ x) σ (up_a σ 11 x 0)) ++ ow_ cy o g2) hD
      refine W.eq (g2 := F0 m 565 ls [.int (zz_i (k_chu σ x))]) rfl ?_
      refine lv_iload hx hb dL_law_565 (lv_at hl 1 rfl) ?_
      refine lv_icmp_eq (tgt := 572) hx hb dL_law_567 (by decide) (fun _ => ?_) (fun c9 => absurd rfl c9)
      refine lv_iload hx hb dL_law_572 (lv_at hl 1 rfl) ?_
      refine zz_if_ne (tgt := 596) hx hb dL_law_574 (by decide) (by omega) (fun c9 => ?_) (fun c9 => ?_)
      · skip
        refine lv_goto (tgt := 1044) hx hb dL_law_596 (by decide) ?_
        refine W.widen (k := cells + 20) (n := slots + 200) (by omega) (by omega) ?_
        exact kk _ _ _ _ H locs ls hnv.1 hnv.2 hP hD hS (lv_sub hl [2, 3, 4, 5, 6] rfl)
      · have hg9 := hu c9
        refine lv_aload_n hx hb dL_law_577 rfl (lv_at hl 5 rfl) ?_
        refine lv_iconst (v := zz_i (0)) hx hb dL_law_578 rfl ?_
        refine zz_lald hx hb _ (fr_l (ow_at _ cy o g2)) hK hP dL_law_579 ?_
        refine lv_iload hx hb dL_law_580 (lv_at hl 0 rfl) ?_
        have ha9 : an_ (k_chu σ x) (σ 11 x) = σ 11 x := an_0 c9
        have hb9 : σ 11 x = 0 ∨ σ 11 x = 1 := hI.2.2.1 x
        refine zz_if_eq (tgt := 589) hx hb dL_law_582 (by decide) (by omega) (fun c7 => ?_) (fun c7 => ?_)
        · have hv8 : σ 11 x = 0 := by omega
          refine lv_lconst (v := lo_ 0) hx hb dL_law_589 (by decide) ?_
          refine lv_lcmpE hx hb (show g2 0 = lo_ 0 from by rw [hg9, hv8]) dL_law_590 ?_
          refine zz_if_eq (tgt := 596) hx hb dL_law_591 (by decide) (by omega) (fun _ => ?_) (fun c9 => absurd rfl c9)
          refine lv_goto (tgt := 1044) hx hb dL_law_596 (by decide) ?_
          refine W.widen (k := cells + 20) (n := slots + 200) (by omega) (by omega) ?_
          exact kk _ _ _ _ H locs ls hnv.1 hnv.2 hP hD hS (lv_sub hl [2, 3, 4, 5, 6] rfl)
        · have hv8 : σ 11 x = 1 := by omega
          refine lv_lconst (v := lo_ 1) hx hb dL_law_585 (by decide) ?_
          refine lv_goto (tgt := 590) hx hb dL_law_586 (by decide) ?_
          refine lv_lcmpE hx hb (show g2 0 = lo_ 1 from by rw [hg9, hv8]) dL_law_590 ?_
          refine zz_if_eq (tgt := 596) hx hb dL_law_591 (by decide) (by omega) (fun _ => ?_) (fun c9 => absurd rfl c9)
          refine lv_goto (tgt := 1044) hx hb dL_law_596 (by decide) ?_
          refine W.widen (k := cells + 20) (n := slots + 200) (by omega) (by omega) ?_
          exact kk _ _ _ _ H locs ls hnv.1 hnv.2 hP hD hS (lv_sub hl [2, 3, 4, 5, 6] rfl)
    · exact absurd c7 (by omega)
  · skip
    refine lv_iconst (v := zz_i (1)) hx hb dL_law_524 rfl ?_
    refine lv_goto (tgt := 529) hx hb dL_law_525 (by decide) ?_
    refine lv_aload_n hx hb dL_law_529 rfl (lv_at hl 3 rfl) ?_
    have hkr := kr_chu σ x
    have hnv := nv_chu hI x 1 (Or.inr rfl)
    refine zf_w (wc := cw_ cy ga ad σ ++ ow_ cy o g) (wr := rk_ cy gr kc σ) (As := [.ref (ga 0), .int (zz_i (x)), .int (zz_i (1)), .ref (o)]) (rest := []) (S := (Int → Nat) × (Nat → Int64)) (pc := 530) ⟨hx, hb, hml, hown, hts⟩ (h_chute l hl9 D cy ga ad σ _ hI o g x 1 q_x (Or.inr rfl)) (vx_cwSW 4 hts gL_law_L_chute rfl rfl rfl (by decide +kernel) ⟨(Nat.le_of_ble_eq_true rfl), (Nat.le_of_ble_eq_true rfl)⟩) hK hP hD hS hA hE rfl hl.1 rfl (Nat.le_of_ble_eq_true rfl) dL_law_530 ⟨show cells + 1 ≤ 601024 by omega, show slots + 6 ≤ 7293000 by omega⟩ (fun u H locs hu hP hD hS => ?_)
    obtain ⟨ad2, g2⟩ := u
    have hu : k_chu σ x = 0 → g2 0 = lo_ (σ 11 x) := hu
    have hP := fr_Pc (a := cw_ cy ga ad2 (nx_ (k_chu σ x) σ (up_a σ 11 x 1)) ++ ow_ cy o g2) (b := rk_ cy gr kc σ) hP
    have hD := fr_Dc (a := cw_ cy ga ad2 (nx_ (k_chu σ x) σ (up_a σ 11 x 1)) ++ ow_ cy o g2) (b := rk_ cy gr kc σ) hD
    refine W.eq (g2 := F0 m 533 ls [.int (zz_i (k_chu σ x))]) rfl ?_
    refine lv_istore (lv' := [(5, .int (zz_i (k_chu σ x))), (0, .ref (b)), (1, .ref (ga 0)), (2, .ref (gr 0)), (3, .ref (o)), (4, .int (zz_i (i)))]) hx hb dL_law_533 hl (by decide) rfl (fun ls hl => ?_)
    refine lv_aload_n hx hb dL_law_535 rfl (lv_at hl 3 rfl) ?_
    refine lv_aload_n hx hb dL_law_536 rfl (lv_at hl 1 rfl) ?_
    refine lv_iload hx hb dL_law_537 (lv_at hl 5 rfl) ?_
    refine lv_iconst (v := zz_i (1)) hx hb dL_law_539 rfl ?_
    refine zz_iadd hx hb dL_law_540 ?_
    refine zz_sld hx hb hX hbl hbA hS (show 0 ≤ i + 1 ∧ i + 1 < (L : Int) by omega) (by omega) dL_law_541 ?_
    rw [e_x]
    refine lv_aload_n hx hb dL_law_542 rfl (lv_at hl 1 rfl) ?_
    refine lv_iload hx hb dL_law_543 (lv_at hl 5 rfl) ?_
    refine lv_iconst (v := zz_i (2)) hx hb dL_law_545 rfl ?_
    refine zz_iadd hx hb dL_law_546 ?_
    refine zz_sld hx hb hX hbl hbA hS (show 0 ≤ i + 2 ∧ i + 2 < (L : Int) by omega) (by omega) dL_law_547 ?_
    rw [e_y]
    refine zz_if_eq (tgt := 555) hx hb dL_law_548 (by decide) (by omega) (fun c7 => ?_) (fun c7 => ?_)
    · exact absurd c7 (by omega)
    · skip
      refine lv_iconst (v := zz_i (1)) hx hb dL_law_551 rfl ?_
      refine lv_goto (tgt := 556) hx hb dL_law_552 (by decide) ?_
      refine zf_v (wc := rk_ cy gr kc σ) (wr := cw_ cy ga ad2 (nx_ (k_chu σ x) σ (up_a σ 11 x 1)) ++ ow_ cy o g2) (As := [.int (zz_i (x)), .int (zz_i (1))]) (rest := []) (S := Unit) (pc := 556) ⟨hx, hb, hml, hown, hts⟩ (r_chute l D cy gr kc σ _ hI x 1 q_x (Or.inr rfl)) (cwV 2 hts gL_law_X3_chute rfl rfl rfl (by decide +kernel) ⟨(Nat.le_of_ble_eq_true rfl), (Nat.le_of_ble_eq_true rfl)⟩) hK hP hD hS hA hE (va_recv hK hP (ci := 3) (q0 := 0) rfl rfl) rfl hl.1 rfl (Nat.le_of_ble_eq_true rfl) dL_law_556 ⟨show cells + 1 + 0 ≤ 601024 by omega, show slots + 6 + 0 ≤ 7293000 by omega⟩ (fun _ H locs _ hP hD hS => ?_)
      refine W.eq (g2 := F0 m 559 ls [.int (zz_i (an_ (k_chu σ x) (σ 11 x)))]) rfl ?_
      refine lv_istore (lv' := [(6, .int (zz_i (an_ (k_chu σ x) (σ 11 x)))), (5, .int (zz_i (k_chu σ x))), (0, .ref (b)), (1, .ref (ga 0)), (2, .ref (gr 0)), (3, .ref (o)), (4, .int (zz_i (i)))]) hx hb dL_law_559 hl (by decide) rfl (fun ls hl => ?_)
      refine lv_aload_n hx hb dL_law_561 rfl (lv_at hl 4 rfl) ?_
      refine zf_v (wc := rk_ cy gr (k_chu σ x) (nx_ (k_chu σ x) σ (up_a σ 11 x 1))) (wr := cw_ cy ga ad2 (nx_ (k_chu σ x) σ (up_a σ 11 x 1)) ++ ow_ cy o g2) (As := []) (rest := []) (S := Unit) (pc := 562) ⟨hx, hb, hml, hown, hts⟩ (r_thrown l D cy gr (k_chu σ x) (nx_ (k_chu σ x) σ (up_a σ 11 x 1)) _) (cwV 0 hts gL_law_X3_thrown rfl rfl rfl (by decide +kernel) ⟨(Nat.le_of_ble_eq_true rfl), (Nat.le_of_ble_eq_true rfl)⟩) hK hP hD hS hA hE (va_recv hK hP (ci := 3) (q0 := 0) rfl rfl) rfl hl.1 rfl (Nat.le_of_ble_eq_true rfl) dL_law_562 ⟨show cells + 1 + 0 + 0 ≤ 601024 by omega, show slots + 6 + 0 + 0 ≤ 7293000 by omega⟩ (fun _ H locs _ hP hD hS => ?_)
      have hP := fr_Pc (a := rk_ cy gr (k_chu σ x) (nx_ (k_chu σ x) σ (up_a σ 11 x 1))) (b := cw_ cy ga ad2 (nx_ (k_chu σ x) σ (up_a σ 11 x 1)) ++ ow_ cy o g2) hP
      have hD := fr_Dc (a := rk_ cy gr (k_chu σ x) (nx_ (k_chu σ x) σ (up_a σ 11 x 1))) (b := cw_ cy ga ad2 (nx_ (k_chu σ x) σ (up_a σ 11 x 1)) ++ ow_ cy o g2) hD
      refine W.eq (g2 := F0 m 565 ls [.int (zz_i (k_chu σ x))]) rfl ?_
      refine lv_iload hx hb dL_law_565 (lv_at hl 1 rfl) ?_
      refine lv_icmp_eq (tgt := 572) hx hb dL_law_567 (by decide) (fun _ => ?_) (fun c9 => absurd rfl c9)
      refine lv_iload hx hb dL_law_572 (lv_at hl 1 rfl) ?_
      refine zz_if_ne (tgt := 596) hx hb dL_law_574 (by decide) (by omega) (fun c9 => ?_) (fun c9 => ?_)
      · skip
        refine lv_goto (tgt := 1044) hx hb dL_law_596 (by decide) ?_
        refine W.widen (k := cells + 20) (n := slots + 200) (by omega) (by omega) ?_
        exact kk _ _ _ _ H locs ls hnv.1 hnv.2 hP hD hS (lv_sub hl [2, 3, 4, 5, 6] rfl)
      · have hg9 := hu c9
        refine lv_aload_n hx hb dL_law_577 rfl (lv_at hl 5 rfl) ?_
        refine lv_iconst (v := zz_i (0)) hx hb dL_law_578 rfl ?_
        refine zz_lald hx hb _ (fr_l (ow_at _ cy o g2)) hK hP dL_law_579 ?_
        refine lv_iload hx hb dL_law_580 (lv_at hl 0 rfl) ?_
        have ha9 : an_ (k_chu σ x) (σ 11 x) = σ 11 x := an_0 c9
        have hb9 : σ 11 x = 0 ∨ σ 11 x = 1 := hI.2.2.1 x
        refine zz_if_eq (tgt := 589) hx hb dL_law_582 (by decide) (by omega) (fun c7 => ?_) (fun c7 => ?_)
        · have hv8 : σ 11 x = 0 := by omega
          refine lv_lconst (v := lo_ 0) hx hb dL_law_589 (by decide) ?_
          refine lv_lcmpE hx hb (show g2 0 = lo_ 0 from by rw [hg9, hv8]) dL_law_590 ?_
          refine zz_if_eq (tgt := 596) hx hb dL_law_591 (by decide) (by omega) (fun _ => ?_) (fun c9 => absurd rfl c9)
          refine lv_goto (tgt := 1044) hx hb dL_law_596 (by decide) ?_
          refine W.widen (k := cells + 20) (n := slots + 200) (by omega) (by omega) ?_
          exact kk _ _ _ _ H locs ls hnv.1 hnv.2 hP hD hS (lv_sub hl [2, 3, 4, 5, 6] rfl)
        · have hv8 : σ 11 x = 1 := by omega
          refine lv_lconst (v := lo_ 1) hx hb dL_law_585 (by decide) ?_
          refine lv_goto (tgt := 590) hx hb dL_law_586 (by decide) ?_
          refine lv_lcmpE hx hb (show g2 0 = lo_ 1 from by rw [hg9, hv8]) dL_law_590 ?_
          refine zz_if_eq (tgt := 596) hx hb dL_law_591 (by decide) (by omega) (fun _ => ?_) (fun c9 => absurd rfl c9)
          refine lv_goto (tgt := 1044) hx hb dL_law_596 (by decide) ?_
          refine W.widen (k := cells + 20) (n := slots + 200) (by omega) (by omega) ?_
          exact kk _ _ _ _ H locs ls hnv.1 hnv.2 hP hD hS (lv_sub hl [2, 3, 4, 5, 6] rfl)
set_option maxHeartbeats 4000000 in
set_option maxRecDepth 100000 in
theorem w_7 {p : Program} {e : Env} {s : State} {m : MethodId} {below : List Frame} {meth : Method} {c : Code} {l : Launch} (hl9 : l.stackTraces = false) {b L : Nat} {xs : Nat → Int32} (hL : L ≤ 2050) (C0 : lw_At p s m meth c b L xs) {D : va_G} {cy ga gr : Nat → Nat} {o : Nat} (hK : va_K D zz_cl (zz_ty cy) s) (hE : ev_ok (fun q : Nat => s.heap.size ≤ q) s) {ad : Int → Nat} {g : Nat → Int64} {σ : zz_S} {kc i : Int} {cells slots : Nat} {H : Heap} {locs : List Loc} {ls : Array Slot} (hi : 2 ≤ i ∧ i + 4 ≤ L) (hI : iv_ σ) (hs : σ 2 0 ≤ 99999900) (hP : va_P D zz_cl ((cw_ cy ga ad σ ++ ow_ cy o g) ++ rk_ cy gr kc σ) H) (hD : va_D (fun q : Nat => s.heap.size ≤ q) ((cw_ cy ga ad σ ++ ow_ cy o g) ++ rk_ cy gr kc σ)) (hS : va_S (fun q : Nat => s.heap.size ≤ q) s.heap H locs) (hl : lv_has ls 7 [(0, .ref (b)), (1, .ref (ga 0)), (2, .ref (gr 0)), (3, .ref (o)), (4, .int (zz_i (i)))]) (hf : cells + 20 ≤ 601024 ∧ slots + 200 ≤ 7293000)
    (kk : ∀ (σ' : zz_S) (k' : Int) (ad' : Int → Nat) (g' : Nat → Int64) (H' : Heap) (locs' : List Loc) (ls' : Array Slot), iv_ σ' → σ' 2 0 ≤ σ 2 0 + 100 → va_P D zz_cl ((cw_ cy ga ad' σ' ++ ow_ cy o g') ++ rk_ cy gr k' σ') H' → va_D (fun q : Nat => s.heap.size ≤ q) ((cw_ cy ga ad' σ' ++ ow_ cy o g') ++ rk_ cy gr k' σ') → va_S (fun q : Nat => s.heap.size ≤ q) s.heap H' locs' → lv_has ls' 7 [(0, .ref (b)), (1, .ref (ga 0)), (2, .ref (gr 0)), (3, .ref (o)), (4, .int (zz_i (i)))] → W p l e room_1 s m #[Value.ref b] below meth c H' locs' (cells + 20) (slots + 200) (lw_Z below #[Value.ref b] s) (F0 m 1044 ls' [])) :
    W p l e room_1 s m #[Value.ref b] below meth c H locs cells slots (lw_Z below #[Value.ref b] s) (F0 m 599 ls []) := by
  obtain ⟨hx, hb, hr, hml, hown, hts, hX, hbl, hlocks, hgv⟩ := id C0
  have htt := hts
  have hts : ∀ w ∈ wsL_law, w.before #[Value.ref b] s = true := fun w h => hts w (wsL_law_in w h)
  have hA : ∀ q : Nat, s.heap.size ≤ q → (fun q : Nat => s.heap.size ≤ q) q := fun _ h => h
  have hbA : ¬ (fun q : Nat => s.heap.size ≤ q) b := Nat.not_le.mpr hbl
  obtain ⟨x, e_x, q_x⟩ : ∃ z : Int, (xs (i + 1).toNat).toInt = z ∧ (-2147483648 ≤ z ∧ z < 2147483648) := ⟨_, rfl, zz_bd _⟩
  obtain ⟨y, e_y, q_y⟩ : ∃ z : Int, (xs (i + 2).toNat).toInt = z ∧ (-2147483648 ≤ z ∧ z < 2147483648) := ⟨_, rfl, zz_bd _⟩
  refine lv_aload_n hx hb dL_law_599 rfl (lv_at hl 1 rfl) ?_
  refine lv_aload_n hx hb dL_law_600 rfl (lv_at hl 0 rfl) ?_
  refine lv_iload hx hb dL_law_601 (lv_at hl 4 rfl) ?_
  refine lv_iconst (v := zz_i (1)) hx hb dL_law_603 rfl ?_
  refine zz_iadd hx hb dL_law_604 ?_
  refine zz_sld hx hb hX hbl hbA hS (show 0 ≤ i + 1 ∧ i + 1 < (L : Int) by omega) (by omega) dL_law_605 ?_
  rw [e_x]
  refine lv_aload_n hx hb dL_law_606 rfl (lv_at hl 0 rfl) ?_
  refine lv_iload hx hb dL_law_607 (lv_at hl 4 rfl) ?_
  refine lv_iconst (v := zz_i (2)) hx hb dL_law_609 rfl ?_
  refine zz_iadd hx hb dL_law_610 ?_
  refine zz_sld hx hb hX hbl hbA hS (show 0 ≤ i + 2 ∧ i + 2 < (L : Int) by omega) (by omega) dL_law_611 ?_
  rw [e_y]
  refine lv_aload_n hx hb dL_law_612 rfl (lv_at hl 3 rfl) ?_
  have hkr := kr_jam σ x y
  have hnv := nv_jam hI x y
  refine zf_w (wc := cw_ cy ga ad σ ++ ow_ cy o g) (wr := rk_ cy gr kc σ) (As := [.ref (ga 0), .int (zz_i (x)), .int (zz_i (y)), .ref (o)]) (rest := []) (S := (Int → Nat) × (Nat → Int64)) (pc := 613) ⟨hx, hb, hml, hown, hts⟩ (h_jam l hl9 D cy ga ad σ _ hI o g x y q_x q_y) (vx_cwSW 4 hts gL_law_L_jam rfl rfl rfl (by decide +kernel) ⟨(Nat.le_of_ble_eq_true rfl), (Nat.le_of_ble_eq_true rfl)⟩) hK hP hD hS hA hE rfl hl.1 rfl (Nat.le_of_ble_eq_true rfl) dL_law_613 ⟨show cells + 1 ≤ 601024 by omega, show slots + 6 ≤ 7293000 by omega⟩ (fun u H locs hu hP hD hS => ?_)
  obtain ⟨ad2, g2⟩ := u
  have hu : k_jam σ x y = 0 → g2 0 = lo_ (s_jam σ x y 7 0) := hu
  have hP := fr_Pc (a := cw_ cy ga ad2 (nx_ (k_jam σ x y) σ (s_jam σ x y)) ++ ow_ cy o g2) (b := rk_ cy gr kc σ) hP
  have hD := fr_Dc (a := cw_ cy ga ad2 (nx_ (k_jam σ x y) σ (s_jam σ x y)) ++ ow_ cy o g2) (b := rk_ cy gr kc σ) hD
  refine W.eq (g2 := F0 m 616 ls [.int (zz_i (k_jam σ x y))]) rfl ?_
  refine lv_istore (lv' := [(5, .int (zz_i (k_jam σ x y))), (0, .ref (b)), (1, .ref (ga 0)), (2, .ref (gr 0)), (3, .ref (o)), (4, .int (zz_i (i)))]) hx hb dL_law_616 hl (by decide) rfl (fun ls hl => ?_)
  refine lv_aload_n hx hb dL_law_618 rfl (lv_at hl 3 rfl) ?_
  refine lv_aload_n hx hb dL_law_619 rfl (lv_at hl 1 rfl) ?_
  refine lv_iload hx hb dL_law_620 (lv_at hl 5 rfl) ?_
  refine lv_iconst (v := zz_i (1)) hx hb dL_law_622 rfl ?_
  refine zz_iadd hx hb dL_law_623 ?_
  refine zz_sld hx hb hX hbl hbA hS (show 0 ≤ i + 1 ∧ i + 1 < (L : Int) by omega) (by omega) dL_law_624 ?_
  rw [e_x]
  refine lv_aload_n hx hb dL_law_625 rfl (lv_at hl 1 rfl) ?_
  refine lv_iload hx hb dL_law_626 (lv_at hl 5 rfl) ?_
  refine lv_iconst (v := zz_i (2)) hx hb dL_law_628 rfl ?_
  refine zz_iadd hx hb dL_law_629 ?_
  refine zz_sld hx hb hX hbl hbA hS (show 0 ≤ i + 2 ∧ i + 2 < (L : Int) by omega) (by omega) dL_law_630 ?_
  rw [e_y]
  refine zf_v (wc := rk_ cy gr kc σ) (wr := cw_ cy ga ad2 (nx_ (k_jam σ x y) σ (s_jam σ x y)) ++ ow_ cy o g2) (As := [.int (zz_i (x)), .int (zz_i (y))]) (rest := []) (S := Unit) (pc := 631) ⟨hx, hb, hml, hown, hts⟩ (r_jam l D cy gr kc σ _ hI x y q_x q_y) (cwV 2 hts gL_law_X3_jam rfl rfl rfl (by decide +kernel) ⟨(Nat.le_of_ble_eq_true rfl), (Nat.le_of_ble_eq_true rfl)⟩) hK hP hD hS hA hE (va_recv hK hP (ci := 3) (q0 := 0) rfl rfl) rfl hl.1 rfl (Nat.le_of_ble_eq_true rfl) dL_law_631 ⟨show cells + 1 + 0 ≤ 601024 by omega, show slots + 6 + 0 ≤ 7293000 by omega⟩ (fun _ H locs _ hP hD hS => ?_)
  refine W.eq (g2 := F0 m 634 ls [.int (zz_i (an_ (k_jam σ x y) (s_jam σ x y 7 0)))]) rfl ?_
  refine lv_istore (lv' := [(6, .int (zz_i (an_ (k_jam σ x y) (s_jam σ x y 7 0)))), (5, .int (zz_i (k_jam σ x y))), (0, .ref (b)), (1, .ref (ga 0)), (2, .ref (gr 0)), (3, .ref (o)), (4, .int (zz_i (i)))]) hx hb dL_law_634 hl (by decide) rfl (fun ls hl => ?_)
  refine lv_aload_n hx hb dL_law_636 rfl (lv_at hl 4 rfl) ?_
  refine zf_v (wc := rk_ cy gr (k_jam σ x y) (nx_ (k_jam σ x y) σ (s_jam σ x y))) (wr := cw_ cy ga ad2 (nx_ (k_jam σ x y) σ (s_jam σ x y)) ++ ow_ cy o g2) (As := []) (rest := []) (S := Unit) (pc := 637) ⟨hx, hb, hml, hown, hts⟩ (r_thrown l D cy gr (k_jam σ x y) (nx_ (k_jam σ x y) σ (s_jam σ x y)) _) (cwV 0 hts gL_law_X3_thrown rfl rfl rfl (by decide +kernel) ⟨(Nat.le_of_ble_eq_true rfl), (Nat.le_of_ble_eq_true rfl)⟩) hK hP hD hS hA hE (va_recv hK hP (ci := 3) (q0 := 0) rfl rfl) rfl hl.1 rfl (Nat.le_of_ble_eq_true rfl) dL_law_637 ⟨show cells + 1 + 0 + 0 ≤ 601024 by omega, show slots + 6 + 0 + 0 ≤ 7293000 by omega⟩ (fun _ H locs _ hP hD hS => ?_)
  have hP := fr_Pc (a := rk_ cy gr (k_jam σ x y) (nx_ (k_jam σ x y) σ (s_jam σ x y))) (b := cw_ cy ga ad2 (nx_ (k_jam σ x y) σ (s_jam σ x y)) ++ ow_ cy o g2) hP
  have hD := fr_Dc (a := rk_ cy gr (k_jam σ x y) (nx_ (k_jam σ x y) σ (s_jam σ x y))) (b := cw_ cy ga ad2 (nx_ (k_jam σ x y) σ (s_jam σ x y)) ++ ow_ cy o g2) hD
  refine W.eq (g2 := F0 m 640 ls [.int (zz_i (k_jam σ x y))]) rfl ?_
  refine lv_iload hx hb dL_law_640 (lv_at hl 1 rfl) ?_
  refine lv_icmp_eq (tgt := 647) hx hb dL_law_642 (by decide) (fun _ => ?_) (fun c9 => absurd rfl c9)
  refine lv_iload hx hb dL_law_647 (lv_at hl 1 rfl) ?_
  refine zz_if_ne (tgt := 664) hx hb dL_law_649 (by decide) (by omega) (fun c9 => ?_) (fun c9 => ?_)
  · skip
    refine lv_goto (tgt := 1044) hx hb dL_law_664 (by decide) ?_
    refine W.widen (k := cells + 20) (n := slots + 200) (by omega) (by omega) ?_
    exact kk _ _ _ _ H locs ls hnv.1 hnv.2 hP hD hS (lv_sub hl [2, 3, 4, 5, 6] rfl)
  · have hg9 := hu c9
    refine lv_aload_n hx hb dL_law_652 rfl (lv_at hl 5 rfl) ?_
    refine lv_iconst (v := zz_i (0)) hx hb dL_law_653 rfl ?_
    refine zz_lald hx hb _ (fr_l (ow_at _ cy o g2)) hK hP dL_law_654 ?_
    refine lv_iload hx hb dL_law_655 (lv_at hl 0 rfl) ?_
    refine lv_i2l (v := lo_ (an_ (k_jam σ x y) (s_jam σ x y 7 0))) hx hb dL_law_657 rfl ?_
    refine lv_lcmpE hx hb (show g2 0 = lo_ (an_ (k_jam σ x y) (s_jam σ x y 7 0)) from by rw [hg9, an_0 c9]) dL_law_658 ?_
    refine zz_if_eq (tgt := 664) hx hb dL_law_659 (by decide) (by omega) (fun _ => ?_) (fun c9 => absurd rfl c9)
    refine lv_goto (tgt := 1044) hx hb dL_law_664 (by decide) ?_
    refine W.widen (k := cells + 20) (n := slots + 200) (by omega) (by omega) ?_
    exact kk _ _ _ _ H locs ls hnv.1 hnv.2 hP hD hS (lv_sub hl [2, 3, 4, 5, 6] rfl)
set_option maxHeartbeats 4000000 in
set_option maxRecDepth 100000 in
theorem w_8 {p : Program} {e : Env} {s : State} {m : MethodId} {below : List Frame} {meth : Method} {c : Code} {l : Launch} (hl9 : l.stackTraces = false) {b L : Nat} {xs : Nat → Int32} (hL : L ≤ 2050) (C0 : lw_At p s m meth c b L xs) {D : va_G} {cy ga gr : Nat → Nat} {o : Nat} (hK : va_K D zz_cl (zz_ty cy) s) (hE : ev_ok (fun q : Nat => s.heap.size ≤ q) s) {ad : Int → Nat} {g : Nat → Int64} {σ : zz_S} {kc i : Int} {cells slots : Nat} {H : Heap} {locs : List Loc} {ls : Array Slot} (hi : 2 ≤ i ∧ i + 4 ≤ L) (hI : iv_ σ) (hs : σ 2 0 ≤ 99999900) (hP : va_P D zz_cl ((cw_ cy ga ad σ ++ ow_ cy o g) ++ rk_ cy gr kc σ) H) (hD : va_D (fun q : Nat => s.heap.size ≤ q) ((cw_ cy ga ad σ ++ ow_ cy o g) ++ rk_ cy gr kc σ)) (hS : va_S (fun q : Nat => s.heap.size ≤ q) s.heap H locs) (hl : lv_has ls 7 [(0, .ref (b)), (1, .ref (ga 0)), (2, .ref (gr 0)), (3, .ref (o)), (4, .int (zz_i (i)))]) (hf : cells + 20 ≤ 601024 ∧ slots + 200 ≤ 7293000)
    (kk : ∀ (σ' : zz_S) (k' : Int) (ad' : Int → Nat) (g' : Nat → Int64) (H' : Heap) (locs' : List Loc) (ls' : Array Slot), iv_ σ' → σ' 2 0 ≤ σ 2 0 + 100 → va_P D zz_cl ((cw_ cy ga ad' σ' ++ ow_ cy o g') ++ rk_ cy gr k' σ') H' → va_D (fun q : Nat => s.heap.size ≤ q) ((cw_ cy ga ad' σ' ++ ow_ cy o g') ++ rk_ cy gr k' σ') → va_S (fun q : Nat => s.heap.size ≤ q) s.heap H' locs' → lv_has ls' 7 [(0, .ref (b)), (1, .ref (ga 0)), (2, .ref (gr 0)), (3, .ref (o)), (4, .int (zz_i (i)))] → W p l e room_1 s m #[Value.ref b] below meth c H' locs' (cells + 20) (slots + 200) (lw_Z below #[Value.ref b] s) (F0 m 1044 ls' [])) :
    W p l e room_1 s m #[Value.ref b] below meth c H locs cells slots (lw_Z below #[Value.ref b] s) (F0 m 667 ls []) := by
  obtain ⟨hx, hb, hr, hml, hown, hts, hX, hbl, hlocks, hgv⟩ := id C0
  have htt := hts
  have hts : ∀ w ∈ wsL_law, w.before #[Value.ref b] s = true := fun w h => hts w (wsL_law_in w h)
  have hA : ∀ q : Nat, s.heap.size ≤ q → (fun q : Nat => s.heap.size ≤ q) q := fun _ h => h
  have hbA : ¬ (fun q : Nat => s.heap.size ≤ q) b := Nat.not_le.mpr hbl
  obtain ⟨x, e_x, q_x⟩ : ∃ z : Int, (xs (i + 1).toNat).toInt = z ∧ (-2147483648 ≤ z ∧ z < 2147483648) := ⟨_, rfl, zz_bd _⟩
  refine lv_aload_n hx hb dL_law_667 rfl (lv_at hl 1 rfl) ?_
  refine lv_aload_n hx hb dL_law_668 rfl (lv_at hl 0 rfl) ?_
  refine lv_iload hx hb dL_law_669 (lv_at hl 4 rfl) ?_
  refine lv_iconst (v := zz_i (1)) hx hb dL_law_671 rfl ?_
  refine zz_iadd hx hb dL_law_672 ?_
  refine zz_sld hx hb hX hbl hbA hS (show 0 ≤ i + 1 ∧ i + 1 < (L : Int) by omega) (by omega) dL_law_673 ?_
  rw [e_x]
  have hP : va_P D zz_cl (cw_ cy ga ad σ ++ (ow_ cy o g ++ rk_ cy gr kc σ)) H := by rw [← List.append_assoc]; exact hP
  have hD : va_D (fun q : Nat => s.heap.size ≤ q) (cw_ cy ga ad σ ++ (ow_ cy o g ++ rk_ cy gr kc σ)) := by rw [← List.append_assoc]; exact hD
  have hnv := nv_id hI 0
  refine zf_v (wc := cw_ cy ga ad σ) (wr := ow_ cy o g ++ rk_ cy gr kc σ) (As := [.int (zz_i (x))]) (rest := []) (S := Unit) (pc := 674) ⟨hx, hb, hml, hown, hts⟩ (c_doubt l D cy ga ad σ _ hI x q_x) (cwV 1 hts gL_law_X2_doubt rfl rfl rfl (by decide +kernel) ⟨(Nat.le_of_ble_eq_true rfl), (Nat.le_of_ble_eq_true rfl)⟩) hK hP hD hS hA hE (va_recv hK hP (ci := 2) (q0 := 0) rfl rfl) rfl hl.1 rfl (Nat.le_of_ble_eq_true rfl) dL_law_674 ⟨show cells + 0 ≤ 601024 by omega, show slots + 0 ≤ 7293000 by omega⟩ (fun _ H locs _ hP hD hS => ?_)
  have hP := fr_Pc (a := cw_ cy ga ad σ ++ ow_ cy o g) (b := rk_ cy gr kc σ) (by rw [List.append_assoc]; exact hP)
  have hD := fr_Dc (a := cw_ cy ga ad σ ++ ow_ cy o g) (b := rk_ cy gr kc σ) (by rw [List.append_assoc]; exact hD)
  refine W.eq (g2 := F0 m 677 ls [.int (zz_i (v_dou σ x))]) rfl ?_
  refine lv_aload_n hx hb dL_law_677 rfl (lv_at hl 2 rfl) ?_
  refine lv_aload_n hx hb dL_law_678 rfl (lv_at hl 0 rfl) ?_
  refine lv_iload hx hb dL_law_679 (lv_at hl 4 rfl) ?_
  refine lv_iconst (v := zz_i (1)) hx hb dL_law_681 rfl ?_
  refine zz_iadd hx hb dL_law_682 ?_
  refine zz_sld hx hb hX hbl hbA hS (show 0 ≤ i + 1 ∧ i + 1 < (L : Int) by omega) (by omega) dL_law_683 ?_
  rw [e_x]
  refine zf_v (wc := rk_ cy gr kc σ) (wr := cw_ cy ga ad σ ++ ow_ cy o g) (As := [.int (zz_i (x))]) (rest := [.int (zz_i (v_dou σ x))]) (S := Unit) (pc := 684) ⟨hx, hb, hml, hown, hts⟩ (r_doubt l D cy gr kc σ _ hI x q_x) (cwV 1 hts gL_law_X3_doubt rfl rfl rfl (by decide +kernel) ⟨(Nat.le_of_ble_eq_true rfl), (Nat.le_of_ble_eq_true rfl)⟩) hK hP hD hS hA hE (va_recv hK hP (ci := 3) (q0 := 0) rfl rfl) rfl hl.1 rfl (Nat.le_of_ble_eq_true rfl) dL_law_684 ⟨show cells + 0 + 0 ≤ 601024 by omega, show slots + 0 + 0 ≤ 7293000 by omega⟩ (fun _ H locs _ hP hD hS => ?_)
  have hP := fr_Pc (a := rk_ cy gr 0 σ) (b := cw_ cy ga ad σ ++ ow_ cy o g) hP
  have hD := fr_Dc (a := rk_ cy gr 0 σ) (b := cw_ cy ga ad σ ++ ow_ cy o g) hD
  refine W.eq (g2 := F0 m 687 ls [.int (zz_i (v_dou σ x)), .int (zz_i (v_dou σ x))]) rfl ?_
  refine lv_icmp_eq (tgt := 1044) hx hb dL_law_687 (by decide) (fun _ => ?_) (fun c9 => absurd rfl c9)
  refine W.widen (k := cells + 20) (n := slots + 200) (by omega) (by omega) ?_
  exact kk _ _ _ _ H locs ls hnv.1 hnv.2 hP hD hS (lv_sub hl [0, 1, 2, 3, 4] rfl)
set_option maxHeartbeats 4000000 in
set_option maxRecDepth 100000 in
theorem w_9 {p : Program} {e : Env} {s : State} {m : MethodId} {below : List Frame} {meth : Method} {c : Code} {l : Launch} (hl9 : l.stackTraces = false) {b L : Nat} {xs : Nat → Int32} (hL : L ≤ 2050) (C0 : lw_At p s m meth c b L xs) {D : va_G} {cy ga gr : Nat → Nat} {o : Nat} (hK : va_K D zz_cl (zz_ty cy) s) (hE : ev_ok (fun q : Nat => s.heap.size ≤ q) s) {ad : Int → Nat} {g : Nat → Int64} {σ : zz_S} {kc i : Int} {cells slots : Nat} {H : Heap} {locs : List Loc} {ls : Array Slot} (hi : 2 ≤ i ∧ i + 4 ≤ L) (hI : iv_ σ) (hs : σ 2 0 ≤ 99999900) (hP : va_P D zz_cl ((cw_ cy ga ad σ ++ ow_ cy o g) ++ rk_ cy gr kc σ) H) (hD : va_D (fun q : Nat => s.heap.size ≤ q) ((cw_ cy ga ad σ ++ ow_ cy o g) ++ rk_ cy gr kc σ)) (hS : va_S (fun q : Nat => s.heap.size ≤ q) s.heap H locs) (hl : lv_has ls 7 [(0, .ref (b)), (1, .ref (ga 0)), (2, .ref (gr 0)), (3, .ref (o)), (4, .int (zz_i (i)))]) (hf : cells + 20 ≤ 601024 ∧ slots + 200 ≤ 7293000)
    (kk : ∀ (σ' : zz_S) (k' : Int) (ad' : Int → Nat) (g' : Nat → Int64) (H' : Heap) (locs' : List Loc) (ls' : Array Slot), iv_ σ' → σ' 2 0 ≤ σ 2 0 + 100 → va_P D zz_cl ((cw_ cy ga ad' σ' ++ ow_ cy o g') ++ rk_ cy gr k' σ') H' → va_D (fun q : Nat => s.heap.size ≤ q) ((cw_ cy ga ad' σ' ++ ow_ cy o g') ++ rk_ cy gr k' σ') → va_S (fun q : Nat => s.heap.size ≤ q) s.heap H' locs' → lv_has ls' 7 [(0, .ref (b)), (1, .ref (ga 0)), (2, .ref (gr 0)), (3, .ref (o)), (4, .int (zz_i (i)))] → W p l e room_1 s m #[Value.ref b] below meth c H' locs' (cells + 20) (slots + 200) (lw_Z below #[Value.ref b] s) (F0 m 1044 ls' [])) :
    W p l e room_1 s m #[Value.ref b] below meth c H locs cells slots (lw_Z below #[Value.ref b] s) (F0 m 692 ls []) := by
  obtain ⟨hx, hb, hr, hml, hown, hts, hX, hbl, hlocks, hgv⟩ := id C0
  have htt := hts
  have hts : ∀ w ∈ wsL_law, w.before #[Value.ref b] s = true := fun w h => hts w (wsL_law_in w h)
  have hA : ∀ q : Nat, s.heap.size ≤ q → (fun q : Nat => s.heap.size ≤ q) q := fun _ h => h
  have hbA : ¬ (fun q : Nat => s.heap.size ≤ q) b := Nat.not_le.mpr hbl
  obtain ⟨x, e_x, q_x⟩ : ∃ z : Int, (xs (i + 1).toNat).toInt = z ∧ (-2147483648 ≤ z ∧ z < 2147483648) := ⟨_, rfl, zz_bd _⟩
  obtain ⟨y, e_y, q_y⟩ : ∃ z : Int, (xs (i + 2).toNat).toInt = z ∧ (-2147483648 ≤ z ∧ z < 2147483648) := ⟨_, rfl, zz_bd _⟩
  refine lv_aload_n hx hb dL_law_692 rfl (lv_at hl 1 rfl) ?_
  refine lv_aload_n hx hb dL_law_693 rfl (lv_at hl 0 rfl) ?_
  refine lv_iload hx hb dL_law_694 (lv_at hl 4 rfl) ?_
  refine lv_iconst (v := zz_i (1)) hx hb dL_law_696 rfl ?_
  refine zz_iadd hx hb dL_law_697 ?_
  refine zz_sld hx hb hX hbl hbA hS (show 0 ≤ i + 1 ∧ i + 1 < (L : Int) by omega) (by omega) dL_law_698 ?_
  rw [e_x]
  refine lv_aload_n hx hb dL_law_699 rfl (lv_at hl 0 rfl) ?_
  refine lv_iload hx hb dL_law_700 (lv_at hl 4 rfl) ?_
  refine lv_iconst (v := zz_i (2)) hx hb dL_law_702 rfl ?_
  refine zz_iadd hx hb dL_law_703 ?_
  refine zz_sld hx hb hX hbl hbA hS (show 0 ≤ i + 2 ∧ i + 2 < (L : Int) by omega) (by omega) dL_law_704 ?_
  rw [e_y]
  refine zz_if_eq (tgt := 712) hx hb dL_law_705 (by decide) (by omega) (fun c8 => ?_) (fun c8 => ?_)
  · skip
    refine lv_iconst (v := zz_i (0)) hx hb dL_law_712 rfl ?_
    refine lv_aload_n hx hb dL_law_713 rfl (lv_at hl 3 rfl) ?_
    have hkr := kr_fou σ x
    have hnv := nv_fou hI x 0 (Or.inl rfl)
    refine zf_w (wc := cw_ cy ga ad σ ++ ow_ cy o g) (wr := rk_ cy gr kc σ) (As := [.ref (ga 0), .int (zz_i (x)), .int (zz_i (0)), .ref (o)]) (rest := []) (S := (Int → Nat) × (Nat → Int64)) (pc := 714) ⟨hx, hb, hml, hown, hts⟩ (h_found l hl9 D cy ga ad σ _ hI o g x 0 q_x (Or.inl rfl)) (vx_cwSW 4 hts gL_law_L_found rfl rfl rfl (by decide +kernel) ⟨(Nat.le_of_ble_eq_true rfl), (Nat.le_of_ble_eq_true rfl)⟩) hK hP hD hS hA hE rfl hl.1 rfl (Nat.le_of_ble_eq_true rfl) dL_law_714 ⟨show cells + 2 ≤ 601024 by omega, show slots + 12 ≤ 7293000 by omega⟩ (fun u H locs hu hP hD hS => ?_)
    obtain ⟨ad2, g2⟩ := u
    have hu : k_fou σ x = 0 → g2 0 = lo_ (v_fou σ x 0) := hu
    have hP := fr_Pc (a := cw_ cy ga ad2 (nx_ (k_fou σ x) σ (up_a σ 20 x 0)) ++ ow_ cy o g2) (b := rk_ cy gr kc σ) hP
    have hD := fr_Dc (a := cw_ cy ga ad2 (nx_ (k_fou σ x) σ (up_a σ 20 x 0)) ++ ow_ cy o g2) (b := rk_ cy gr kc σ) hD
    refine W.eq (g2 := F0 m 717 ls [.int (zz_i (k_fou σ x))]) rfl ?_
    refine lv_istore (lv' := [(5, .int (zz_i (k_fou σ x))), (0, .ref (b)), (1, .ref (ga 0)), (2, .ref (gr 0)), (3, .ref (o)), (4, .int (zz_i (i)))]) hx hb dL_law_717 hl (by decide) rfl (fun ls hl => ?_)
    refine lv_aload_n hx hb dL_law_719 rfl (lv_at hl 3 rfl) ?_
    refine lv_aload_n hx hb dL_law_720 rfl (lv_at hl 1 rfl) ?_
    refine lv_iload hx hb dL_law_721 (lv_at hl 5 rfl) ?_
    refine lv_iconst (v := zz_i (1)) hx hb dL_law_723 rfl ?_
    refine zz_iadd hx hb dL_law_724 ?_
    refine zz_sld hx hb hX hbl hbA hS (show 0 ≤ i + 1 ∧ i + 1 < (L : Int) by omega) (by omega) dL_law_725 ?_
    rw [e_x]
    refine lv_aload_n hx hb dL_law_726 rfl (lv_at hl 1 rfl) ?_
    refine lv_iload hx hb dL_law_727 (lv_at hl 5 rfl) ?_
    refine lv_iconst (v := zz_i (2)) hx hb dL_law_729 rfl ?_
    refine zz_iadd hx hb dL_law_730 ?_
    refine zz_sld hx hb hX hbl hbA hS (show 0 ≤ i + 2 ∧ i + 2 < (L : Int) by omega) (by omega) dL_law_731 ?_
    rw [e_y]
    refine zz_if_eq (tgt := 739) hx hb dL_law_732 (by decide) (by omega) (fun c7 => ?_) (fun c7 => ?_)
    · skip
      refine lv_iconst (v := zz_i (0)) hx hb dL_law_739 rfl ?_
      refine zf_v (wc := rk_ cy gr kc σ) (wr := cw_ cy ga ad2 (nx_ (k_fou σ x) σ (up_a σ 20 x 0)) ++ ow_ cy o g2) (As := [.int (zz_i (x)), .int (zz_i (0))]) (rest := []) (S := Unit) (pc := 740) ⟨hx, hb, hml, hown, hts⟩ (r_found l D cy gr kc σ _ hI x 0 q_x (Or.inl rfl)) (cwV 2 hts gL_law_X3_found rfl rfl rfl (by decide +kernel) ⟨(Nat.le_of_ble_eq_true rfl), (Nat.le_of_ble_eq_true rfl)⟩) hK hP hD hS hA hE (va_recv hK hP (ci := 3) (q0 := 0) rfl rfl) rfl hl.1 rfl (Nat.le_of_ble_eq_true rfl) dL_law_740 ⟨show cells + 2 + 0 ≤ 601024 by omega, show slots + 12 + 0 ≤ 7293000 by omega⟩ (fun _ H locs _ hP hD hS => ?_)
      refine W.eq (g2 := F0 m 743 ls [.int (zz_i (an_ (k_fou σ x) (v_fou σ x 0)))]) rfl ?_
      refine lv_istore (lv' := [(6, .int (zz_i (an_ (k_fou σ x) (v_fou σ x 0)))), (5, .int (zz_i (k_fou σ x))), (0, .ref (b)), (1, .ref (ga 0)), (2, .ref (gr 0)), (3, .ref (o)), (4, .int (zz_i (i)))]) hx hb dL_law_743 hl (by decide) rfl (fun ls hl => ?_)
      refine lv_aload_n hx hb dL_law_745 rfl (lv_at hl 4 rfl) ?_
      refine zf_v (wc := rk_ cy gr (k_fou σ x) (nx_ (k_fou σ x) σ (up_a σ 20 x 0))) (wr := cw_ cy ga ad2 (nx_ (k_fou σ x) σ (up_a σ 20 x 0)) ++ ow_ cy o g2) (As := []) (rest := []) (S := Unit) (pc := 746) ⟨hx, hb, hml, hown, hts⟩ (r_thrown l D cy gr (k_fou σ x) (nx_ (k_fou σ x) σ (up_a σ 20 x 0)) _) (cwV 0 hts gL_law_X3_thrown rfl rfl rfl (by decide +kernel) ⟨(Nat.le_of_ble_eq_true rfl), (Nat.le_of_ble_eq_true rfl)⟩) hK hP hD hS hA hE (va_recv hK hP (ci := 3) (q0 := 0) rfl rfl) rfl hl.1 rfl (Nat.le_of_ble_eq_true rfl) dL_law_746 ⟨show cells + 2 + 0 + 0 ≤ 601024 by omega, show slots + 12 + 0 + 0 ≤ 7293000 by omega⟩ (fun _ H locs _ hP hD hS => ?_)
      have hP := fr_Pc (a := rk_ cy gr (k_fou σ x) (nx_ (k_fou σ x) σ (up_a σ 20 x 0))) (b := cw_ cy ga ad2 (nx_ (k_fou σ x) σ (up_a σ 20 x 0)) ++ ow_ cy o g2) hP
      have hD := fr_Dc (a := rk_ cy gr (k_fou σ x) (nx_ (k_fou σ x) σ (up_a σ 20 x 0))) (b := cw_ cy ga ad2 (nx_ (k_fou σ x) σ (up_a σ 20 x 0)) ++ ow_ cy o g2) hD
      refine W.eq (g2 := F0 m 749 ls [.int (zz_i (k_fou σ x))]) rfl ?_
      refine lv_iload hx hb dL_law_749 (lv_at hl 1 rfl) ?_
      refine lv_icmp_eq (tgt := 756) hx hb dL_law_751 (by decide) (fun _ => ?_) (fun c9 => absurd rfl c9)
      refine lv_iload hx hb dL_law_756 (lv_at hl 1 rfl) ?_
      refine zz_if_ne (tgt := 773) hx hb dL_law_758 (by decide) (by omega) (fun c9 => ?_) (fun c9 => ?_)
      · skip
        refine lv_goto (tgt := 1044) hx hb dL_law_773 (by decide) ?_
        refine W.widen (k := cells + 20) (n := slots + 200) (by omega) (by omega) ?_
        exact kk _ _ _ _ H locs ls hnv.1 hnv.2 hP hD hS (lv_sub hl [2, 3, 4, 5, 6] rfl)
      · have hg9 := hu c9
        refine lv_aload_n hx hb dL_law_761 rfl (lv_at hl 5 rfl) ?_
        refine lv_iconst (v := zz_i (0)) hx hb dL_law_762 rfl ?_
        refine zz_lald hx hb _ (fr_l (ow_at _ cy o g2)) hK hP dL_law_763 ?_
        refine lv_iload hx hb dL_law_764 (lv_at hl 0 rfl) ?_
        refine lv_i2l (v := lo_ (an_ (k_fou σ x) (v_fou σ x 0))) hx hb dL_law_766 rfl ?_
        refine lv_lcmpE hx hb (show g2 0 = lo_ (an_ (k_fou σ x) (v_fou σ x 0)) from by rw [hg9, an_0 c9]) dL_law_767 ?_
        refine zz_if_eq (tgt := 773) hx hb dL_law_768 (by decide) (by omega) (fun _ => ?_) (fun c9 => absurd rfl c9)
        refine lv_goto (tgt := 1044) hx hb dL_law_773 (by decide) ?_
        refine W.widen (k := cells + 20) (n := slots + 200) (by omega) (by omega) ?_
        exact kk _ _ _ _ H locs ls hnv.1 hnv.2 hP hD hS (lv_sub hl [2, 3, 4, 5, 6] rfl)
    · exact absurd c7 (by omega)
  · skip
    refine lv_iconst (v := zz_i (1)) hx hb dL_law_708 rfl ?_
    refine lv_goto (tgt := 713) hx hb dL_law_709 (by decide) ?_
    refine lv_aload_n hx hb dL_law_713 rfl (lv_at hl 3 rfl) ?_
    have hkr := kr_fou σ x
    have hnv := nv_fou hI x 1 (Or.inr rfl)
    refine zf_w (wc := cw_ cy ga ad σ ++ ow_ cy o g) (wr := rk_ cy gr kc σ) (As := [.ref (ga 0), .int (zz_i (x)), .int (zz_i (1)), .ref (o)]) (rest := []) (S := (Int → Nat) × (Nat → Int64)) (pc := 714) ⟨hx, hb, hml, hown, hts⟩ (h_found l hl9 D cy ga ad σ _ hI o g x 1 q_x (Or.inr rfl)) (vx_cwSW 4 hts gL_law_L_found rfl rfl rfl (by decide +kernel) ⟨(Nat.le_of_ble_eq_true rfl), (Nat.le_of_ble_eq_true rfl)⟩) hK hP hD hS hA hE rfl hl.1 rfl (Nat.le_of_ble_eq_true rfl) dL_law_714 ⟨show cells + 2 ≤ 601024 by omega, show slots + 12 ≤ 7293000 by omega⟩ (fun u H locs hu hP hD hS => ?_)
    obtain ⟨ad2, g2⟩ := u
    have hu : k_fou σ x = 0 → g2 0 = lo_ (v_fou σ x 1) := hu
    have hP := fr_Pc (a := cw_ cy ga ad2 (nx_ (k_fou σ x) σ (up_a σ 20 x 1)) ++ ow_ cy o g2) (b := rk_ cy gr kc σ) hP
    have hD := fr_Dc (a := cw_ cy ga ad2 (nx_ (k_fou σ x) σ (up_a σ 20 x 1)) ++ ow_ cy o g2) (b := rk_ cy gr kc σ) hD
    refine W.eq (g2 := F0 m 717 ls [.int (zz_i (k_fou σ x))]) rfl ?_
    refine lv_istore (lv' := [(5, .int (zz_i (k_fou σ x))), (0, .ref (b)), (1, .ref (ga 0)), (2, .ref (gr 0)), (3, .ref (o)), (4, .int (zz_i (i)))]) hx hb dL_law_717 hl (by decide) rfl (fun ls hl => ?_)
    refine lv_aload_n hx hb dL_law_719 rfl (lv_at hl 3 rfl) ?_
    refine lv_aload_n hx hb dL_law_720 rfl (lv_at hl 1 rfl) ?_
    refine lv_iload hx hb dL_law_721 (lv_at hl 5 rfl) ?_
    refine lv_iconst (v := zz_i (1)) hx hb dL_law_723 rfl ?_
    refine zz_iadd hx hb dL_law_724 ?_
    refine zz_sld hx hb hX hbl hbA hS (show 0 ≤ i + 1 ∧ i + 1 < (L : Int) by omega) (by omega) dL_law_725 ?_
    rw [e_x]
    refine lv_aload_n hx hb dL_law_726 rfl (lv_at hl 1 rfl) ?_
    refine lv_iload hx hb dL_law_727 (lv_at hl 5 rfl) ?_
    refine lv_iconst (v := zz_i (2)) hx hb dL_law_729 rfl ?_
    refine zz_iadd hx hb dL_law_730 ?_
    refine zz_sld hx hb hX hbl hbA hS (show 0 ≤ i + 2 ∧ i + 2 < (L : Int) by omega) (by omega) dL_law_731 ?_
    rw [e_y]
    refine zz_if_eq (tgt := 739) hx hb dL_law_732 (by decide) (by omega) (fun c7 => ?_) (fun c7 => ?_)
    · exact absurd c7 (by omega)
    · skip
      refine lv_iconst (v := zz_i (1)) hx hb dL_law_735 rfl ?_
      refine lv_goto (tgt := 740) hx hb dL_law_736 (by decide) ?_
      refine zf_v (wc := rk_ cy gr kc σ) (wr := cw_ cy ga ad2 (nx_ (k_fou σ x) σ (up_a σ 20 x 1)) ++ ow_ cy o g2) (As := [.int (zz_i (x)), .int (zz_i (1))]) (rest := []) (S := Unit) (pc := 740) ⟨hx, hb, hml, hown, hts⟩ (r_found l D cy gr kc σ _ hI x 1 q_x (Or.inr rfl)) (cwV 2 hts gL_law_X3_found rfl rfl rfl (by decide +kernel) ⟨(Nat.le_of_ble_eq_true rfl), (Nat.le_of_ble_eq_true rfl)⟩) hK hP hD hS hA hE (va_recv hK hP (ci := 3) (q0 := 0) rfl rfl) rfl hl.1 rfl (Nat.le_of_ble_eq_true rfl) dL_law_740 ⟨show cells + 2 + 0 ≤ 601024 by omega, show slots + 12 + 0 ≤ 7293000 by omega⟩ (fun _ H locs _ hP hD hS => ?_)
      refine W.eq (g2 := F0 m 743 ls [.int (zz_i (an_ (k_fou σ x) (v_fou σ x 1)))]) rfl ?_
      refine lv_istore (lv' := [(6, .int (zz_i (an_ (k_fou σ x) (v_fou σ x 1)))), (5, .int (zz_i (k_fou σ x))), (0, .ref (b)), (1, .ref (ga 0)), (2, .ref (gr 0)), (3, .ref (o)), (4, .int (zz_i (i)))]) hx hb dL_law_743 hl (by decide) rfl (fun ls hl => ?_)
      refine lv_aload_n hx hb dL_law_745 rfl (lv_at hl 4 rfl) ?_
      refine zf_v (wc := rk_ cy gr (k_fou σ x) (nx_ (k_fou σ x) σ (up_a σ 20 x 1))) (wr := cw_ cy ga ad2 (nx_ (k_fou σ x) σ (up_a σ 20 x 1)) ++ ow_ cy o g2) (As := []) (rest := []) (S := Unit) (pc := 746) ⟨hx, hb, hml, hown, hts⟩ (r_thrown l D cy gr (k_fou σ x) (nx_ (k_fou σ x) σ (up_a σ 20 x 1)) _) (cwV 0 hts gL_law_X3_thrown rfl rfl rfl (by decide +kernel) ⟨(Nat.le_of_ble_eq_true rfl), (Nat.le_of_ble_eq_true rfl)⟩) hK hP hD hS hA hE (va_recv hK hP (ci := 3) (q0 := 0) rfl rfl) rfl hl.1 rfl (Nat.le_of_ble_eq_true rfl) dL_law_746 ⟨show cells + 2 + 0 + 0 ≤ 601024 by omega, show slots + 12 + 0 + 0 ≤ 7293000 by omega⟩ (fun _ H locs _ hP hD hS => ?_)
      have hP := fr_Pc (a := rk_ cy gr (k_fou σ x) (nx_ (k_fou σ x) σ (up_a σ 20 x 1))) (b := cw_ cy ga ad2 (nx_ (k_fou σ x) σ (up_a σ 20 x 1)) ++ ow_ cy o g2) hP
      have hD := fr_Dc (a := rk_ cy gr (k_fou σ x) (nx_ (k_fou σ x) σ (up_a σ 20 x 1))) (b := cw_ cy ga ad2 (nx_ (k_fou σ x) σ (up_a σ 20 x 1)) ++ ow_ cy o g2) hD
      refine W.eq (g2 := F0 m 749 ls [.int (zz_i (k_fou σ x))]) rfl ?_
      refine lv_iload hx hb dL_law_749 (lv_at hl 1 rfl) ?_
      refine lv_icmp_eq (tgt := 756) hx hb dL_law_751 (by decide) (fun _ => ?_) (fun c9 => absurd rfl c9)
      refine lv_iload hx hb dL_law_756 (lv_at hl 1 rfl) ?_
      refine zz_if_ne (tgt := 773) hx hb dL_law_758 (by decide) (by omega) (fun c9 => ?_) (fun c9 => ?_)
      · skip
        refine lv_goto (tgt := 1044) hx hb dL_law_773 (by decide) ?_
        refine W.widen (k := cells + 20) (n := slots + 200) (by omega) (by omega) ?_
        exact kk _ _ _ _ H locs ls hnv.1 hnv.2 hP hD hS (lv_sub hl [2, 3, 4, 5, 6] rfl)
      · have hg9 := hu c9
        refine lv_aload_n hx hb dL_law_761 rfl (lv_at hl 5 rfl) ?_
        refine lv_iconst (v := zz_i (0)) hx hb dL_law_762 rfl ?_
        refine zz_lald hx hb _ (fr_l (ow_at _ cy o g2)) hK hP dL_law_763 ?_
        refine lv_iload hx hb dL_law_764 (lv_at hl 0 rfl) ?_
        refine lv_i2l (v := lo_ (an_ (k_fou σ x) (v_fou σ x 1))) hx hb dL_law_766 rfl ?_
        refine lv_lcmpE hx hb (show g2 0 = lo_ (an_ (k_fou σ x) (v_fou σ x 1)) from by rw [hg9, an_0 c9]) dL_law_767 ?_
        refine zz_if_eq (tgt := 773) hx hb dL_law_768 (by decide) (by omega) (fun _ => ?_) (fun c9 => absurd rfl c9)
        refine lv_goto (tgt := 1044) hx hb dL_law_773 (by decide) ?_
        refine W.widen (k := cells + 20) (n := slots + 200) (by omega) (by omega) ?_
        exact kk _ _ _ _ H locs ls hnv.1 hnv.2 hP hD hS (lv_sub hl [2, 3, 4, 5, 6] rfl)
set_option maxHeartbeats 4000000 in
set_option maxRecDepth 100000 in
theorem w_10 {p : Program} {e : Env} {s : State} {m : MethodId} {below : List Frame} {meth : Method} {c : Code} {l : Launch} (hl9 : l.stackTraces = false) {b L : Nat} {xs : Nat → Int32} (hL : L ≤ 2050) (C0 : lw_At p s m meth c b L xs) {D : va_G} {cy ga gr : Nat → Nat} {o : Nat} (hK : va_K D zz_cl (zz_ty cy) s) (hE : ev_ok (fun q : Nat => s.heap.size ≤ q) s) {ad : Int → Nat} {g : Nat → Int64} {σ : zz_S} {kc i : Int} {cells slots : Nat} {H : Heap} {locs : List Loc} {ls : Array Slot} (hi : 2 ≤ i ∧ i + 4 ≤ L) (hI : iv_ σ) (hs : σ 2 0 ≤ 99999900) (hP : va_P D zz_cl ((cw_ cy ga ad σ ++ ow_ cy o g) ++ rk_ cy gr kc σ) H) (hD : va_D (fun q : Nat => s.heap.size ≤ q) ((cw_ cy ga ad σ ++ ow_ cy o g) ++ rk_ cy gr kc σ)) (hS : va_S (fun q : Nat => s.heap.size ≤ q) s.heap H locs) (hl : lv_has ls 7 [(0, .ref (b)), (1, .ref (ga 0)), (2, .ref (gr 0)), (3, .ref (o)), (4, .int (zz_i (i)))]) (hf : cells + 20 ≤ 601024 ∧ slots + 200 ≤ 7293000)
    (kk : ∀ (σ' : zz_S) (k' : Int) (ad' : Int → Nat) (g' : Nat → Int64) (H' : Heap) (locs' : List Loc) (ls' : Array Slot), iv_ σ' → σ' 2 0 ≤ σ 2 0 + 100 → va_P D zz_cl ((cw_ cy ga ad' σ' ++ ow_ cy o g') ++ rk_ cy gr k' σ') H' → va_D (fun q : Nat => s.heap.size ≤ q) ((cw_ cy ga ad' σ' ++ ow_ cy o g') ++ rk_ cy gr k' σ') → va_S (fun q : Nat => s.heap.size ≤ q) s.heap H' locs' → lv_has ls' 7 [(0, .ref (b)), (1, .ref (ga 0)), (2, .ref (gr 0)), (3, .ref (o)), (4, .int (zz_i (i)))] → W p l e room_1 s m #[Value.ref b] below meth c H' locs' (cells + 20) (slots + 200) (lw_Z below #[Value.ref b] s) (F0 m 1044 ls' [])) :
    W p l e room_1 s m #[Value.ref b] below meth c H locs cells slots (lw_Z below #[Value.ref b] s) (F0 m 776 ls []) := by
  obtain ⟨hx, hb, hr, hml, hown, hts, hX, hbl, hlocks, hgv⟩ := id C0
  have htt := hts
  have hts : ∀ w ∈ wsL_law, w.before #[Value.ref b] s = true := fun w h => hts w (wsL_law_in w h)
  have hA : ∀ q : Nat, s.heap.size ≤ q → (fun q : Nat => s.heap.size ≤ q) q := fun _ h => h
  have hbA : ¬ (fun q : Nat => s.heap.size ≤ q) b := Nat.not_le.mpr hbl
  refine lv_aload_n hx hb dL_law_776 rfl (lv_at hl 1 rfl) ?_
  refine lv_aload_n hx hb dL_law_777 rfl (lv_at hl 3 rfl) ?_
  have hkr := kr_rtk σ
  have hnv := nv_rtk hI
  refine zf_w (wc := cw_ cy ga ad σ ++ ow_ cy o g) (wr := rk_ cy gr kc σ) (As := [.ref (ga 0), .ref (o)]) (rest := []) (S := (Int → Nat) × (Nat → Int64)) (pc := 778) ⟨hx, hb, hml, hown, hts⟩ (h_retrack l hl9 D cy ga ad σ _ hI o g ) (vx_cwSW 2 hts gL_law_L_retrack rfl rfl rfl (by decide +kernel) ⟨(Nat.le_of_ble_eq_true rfl), (Nat.le_of_ble_eq_true rfl)⟩) hK hP hD hS hA hE rfl hl.1 rfl (Nat.le_of_ble_eq_true rfl) dL_law_778 ⟨show cells + 1 ≤ 601024 by omega, show slots + 6 ≤ 7293000 by omega⟩ (fun u H locs hu hP hD hS => ?_)
  obtain ⟨ad2, g2⟩ := u
  have hu : k_rtk σ = 0 → g2 0 = lo_ (s_rtk σ 5 0 - σ 5 0) := hu
  have hP := fr_Pc (a := cw_ cy ga ad2 (nx_ (k_rtk σ) σ (s_rtk σ)) ++ ow_ cy o g2) (b := rk_ cy gr kc σ) hP
  have hD := fr_Dc (a := cw_ cy ga ad2 (nx_ (k_rtk σ) σ (s_rtk σ)) ++ ow_ cy o g2) (b := rk_ cy gr kc σ) hD
  refine W.eq (g2 := F0 m 781 ls [.int (zz_i (k_rtk σ))]) rfl ?_
  refine lv_istore (lv' := [(5, .int (zz_i (k_rtk σ))), (0, .ref (b)), (1, .ref (ga 0)), (2, .ref (gr 0)), (3, .ref (o)), (4, .int (zz_i (i)))]) hx hb dL_law_781 hl (by decide) rfl (fun ls hl => ?_)
  refine lv_aload_n hx hb dL_law_783 rfl (lv_at hl 3 rfl) ?_
  refine zf_v (wc := rk_ cy gr kc σ) (wr := cw_ cy ga ad2 (nx_ (k_rtk σ) σ (s_rtk σ)) ++ ow_ cy o g2) (As := []) (rest := []) (S := Unit) (pc := 784) ⟨hx, hb, hml, hown, hts⟩ (r_retrack l D cy gr kc σ _ hI ) (cwV 0 hts gL_law_X3_retrack rfl rfl rfl (by decide +kernel) ⟨(Nat.le_of_ble_eq_true rfl), (Nat.le_of_ble_eq_true rfl)⟩) hK hP hD hS hA hE (va_recv hK hP (ci := 3) (q0 := 0) rfl rfl) rfl hl.1 rfl (Nat.le_of_ble_eq_true rfl) dL_law_784 ⟨show cells + 1 + 0 ≤ 601024 by omega, show slots + 6 + 0 ≤ 7293000 by omega⟩ (fun _ H locs _ hP hD hS => ?_)
  refine W.eq (g2 := F0 m 787 ls [.int (zz_i (an_ (k_rtk σ) (s_rtk σ 5 0 - σ 5 0)))]) rfl ?_
  refine lv_istore (lv' := [(6, .int (zz_i (an_ (k_rtk σ) (s_rtk σ 5 0 - σ 5 0)))), (5, .int (zz_i (k_rtk σ))), (0, .ref (b)), (1, .ref (ga 0)), (2, .ref (gr 0)), (3, .ref (o)), (4, .int (zz_i (i)))]) hx hb dL_law_787 hl (by decide) rfl (fun ls hl => ?_)
  refine lv_aload_n hx hb dL_law_789 rfl (lv_at hl 4 rfl) ?_
  refine zf_v (wc := rk_ cy gr (k_rtk σ) (nx_ (k_rtk σ) σ (s_rtk σ))) (wr := cw_ cy ga ad2 (nx_ (k_rtk σ) σ (s_rtk σ)) ++ ow_ cy o g2) (As := []) (rest := []) (S := Unit) (pc := 790) ⟨hx, hb, hml, hown, hts⟩ (r_thrown l D cy gr (k_rtk σ) (nx_ (k_rtk σ) σ (s_rtk σ)) _) (cwV 0 hts gL_law_X3_thrown rfl rfl rfl (by decide +kernel) ⟨(Nat.le_of_ble_eq_true rfl), (Nat.le_of_ble_eq_true rfl)⟩) hK hP hD hS hA hE (va_recv hK hP (ci := 3) (q0 := 0) rfl rfl) rfl hl.1 rfl (Nat.le_of_ble_eq_true rfl) dL_law_790 ⟨show cells + 1 + 0 + 0 ≤ 601024 by omega, show slots + 6 + 0 + 0 ≤ 7293000 by omega⟩ (fun _ H locs _ hP hD hS => ?_)
  have hP := fr_Pc (a := rk_ cy gr (k_rtk σ) (nx_ (k_rtk σ) σ (s_rtk σ))) (b := cw_ cy ga ad2 (nx_ (k_rtk σ) σ (s_rtk σ)) ++ ow_ cy o g2) hP
  have hD := fr_Dc (a := rk_ cy gr (k_rtk σ) (nx_ (k_rtk σ) σ (s_rtk σ))) (b := cw_ cy ga ad2 (nx_ (k_rtk σ) σ (s_rtk σ)) ++ ow_ cy o g2) hD
  refine W.eq (g2 := F0 m 793 ls [.int (zz_i (k_rtk σ))]) rfl ?_
  refine lv_iload hx hb dL_law_793 (lv_at hl 1 rfl) ?_
  refine lv_icmp_eq (tgt := 800) hx hb dL_law_795 (by decide) (fun _ => ?_) (fun c9 => absurd rfl c9)
  refine lv_iload hx hb dL_law_800 (lv_at hl 1 rfl) ?_
  refine zz_if_ne (tgt := 817) hx hb dL_law_802 (by decide) (by omega) (fun c9 => ?_) (fun c9 => ?_)
  · skip
    refine lv_goto (tgt := 1044) hx hb dL_law_817 (by decide) ?_
    refine W.widen (k := cells + 20) (n := slots + 200) (by omega) (by omega) ?_
    exact kk _ _ _ _ H locs ls hnv.1 hnv.2 hP hD hS (lv_sub hl [2, 3, 4, 5, 6] rfl)
  · have hg9 := hu c9
    refine lv_aload_n hx hb dL_law_805 rfl (lv_at hl 5 rfl) ?_
    refine lv_iconst (v := zz_i (0)) hx hb dL_law_806 rfl ?_
    refine zz_lald hx hb _ (fr_l (ow_at _ cy o g2)) hK hP dL_law_807 ?_
    refine lv_iload hx hb dL_law_808 (lv_at hl 0 rfl) ?_
    refine lv_i2l (v := lo_ (an_ (k_rtk σ) (s_rtk σ 5 0 - σ 5 0))) hx hb dL_law_810 rfl ?_
    refine lv_lcmpE hx hb (show g2 0 = lo_ (an_ (k_rtk σ) (s_rtk σ 5 0 - σ 5 0)) from by rw [hg9, an_0 c9]) dL_law_811 ?_
    refine zz_if_eq (tgt := 817) hx hb dL_law_812 (by decide) (by omega) (fun _ => ?_) (fun c9 => absurd rfl c9)
    refine lv_goto (tgt := 1044) hx hb dL_law_817 (by decide) ?_
    refine W.widen (k := cells + 20) (n := slots + 200) (by omega) (by omega) ?_
    exact kk _ _ _ _ H locs ls hnv.1 hnv.2 hP hD hS (lv_sub hl [2, 3, 4, 5, 6] rfl)
set_option maxHeartbeats 4000000 in
set_option maxRecDepth 100000 in
theorem w_11 {p : Program} {e : Env} {s : State} {m : MethodId} {below : List Frame} {meth : Method} {c : Code} {l : Launch} (hl9 : l.stackTraces = false) {b L : Nat} {xs : Nat → Int32} (hL : L ≤ 2050) (C0 : lw_At p s m meth c b L xs) {D : va_G} {cy ga gr : Nat → Nat} {o : Nat} (hK : va_K D zz_cl (zz_ty cy) s) (hE : ev_ok (fun q : Nat => s.heap.size ≤ q) s) {ad : Int → Nat} {g : Nat → Int64} {σ : zz_S} {kc i : Int} {cells slots : Nat} {H : Heap} {locs : List Loc} {ls : Array Slot} (hi : 2 ≤ i ∧ i + 4 ≤ L) (hI : iv_ σ) (hs : σ 2 0 ≤ 99999900) (hP : va_P D zz_cl ((cw_ cy ga ad σ ++ ow_ cy o g) ++ rk_ cy gr kc σ) H) (hD : va_D (fun q : Nat => s.heap.size ≤ q) ((cw_ cy ga ad σ ++ ow_ cy o g) ++ rk_ cy gr kc σ)) (hS : va_S (fun q : Nat => s.heap.size ≤ q) s.heap H locs) (hl : lv_has ls 7 [(0, .ref (b)), (1, .ref (ga 0)), (2, .ref (gr 0)), (3, .ref (o)), (4, .int (zz_i (i)))]) (hf : cells + 20 ≤ 601024 ∧ slots + 200 ≤ 7293000)
    (kk : ∀ (σ' : zz_S) (k' : Int) (ad' : Int → Nat) (g' : Nat → Int64) (H' : Heap) (locs' : List Loc) (ls' : Array Slot), iv_ σ' → σ' 2 0 ≤ σ 2 0 + 100 → va_P D zz_cl ((cw_ cy ga ad' σ' ++ ow_ cy o g') ++ rk_ cy gr k' σ') H' → va_D (fun q : Nat => s.heap.size ≤ q) ((cw_ cy ga ad' σ' ++ ow_ cy o g') ++ rk_ cy gr k' σ') → va_S (fun q : Nat => s.heap.size ≤ q) s.heap H' locs' → lv_has ls' 7 [(0, .ref (b)), (1, .ref (ga 0)), (2, .ref (gr 0)), (3, .ref (o)), (4, .int (zz_i (i)))] → W p l e room_1 s m #[Value.ref b] below meth c H' locs' (cells + 20) (slots + 200) (lw_Z below #[Value.ref b] s) (F0 m 1044 ls' [])) :
    W p l e room_1 s m #[Value.ref b] below meth c H locs cells slots (lw_Z below #[Value.ref b] s) (F0 m 820 ls []) := by
  obtain ⟨hx, hb, hr, hml, hown, hts, hX, hbl, hlocks, hgv⟩ := id C0
  have htt := hts
  have hts : ∀ w ∈ wsL_law, w.before #[Value.ref b] s = true := fun w h => hts w (wsL_law_in w h)
  have hA : ∀ q : Nat, s.heap.size ≤ q → (fun q : Nat => s.heap.size ≤ q) q := fun _ h => h
  have hbA : ¬ (fun q : Nat => s.heap.size ≤ q) b := Nat.not_le.mpr hbl
  obtain ⟨x, e_x, q_x⟩ : ∃ z : Int, (xs (i + 1).toNat).toInt = z ∧ (-2147483648 ≤ z ∧ z < 2147483648) := ⟨_, rfl, zz_bd _⟩
  obtain ⟨y, e_y, q_y⟩ : ∃ z : Int, (xs (i + 2).toNat).toInt = z ∧ (-2147483648 ≤ z ∧ z < 2147483648) := ⟨_, rfl, zz_bd _⟩
  refine lv_aload_n hx hb dL_law_820 rfl (lv_at hl 1 rfl) ?_
  refine lv_aload_n hx hb dL_law_821 rfl (lv_at hl 0 rfl) ?_
  refine lv_iload hx hb dL_law_822 (lv_at hl 4 rfl) ?_
  refine lv_iconst (v := zz_i (1)) hx hb dL_law_824 rfl ?_
  refine zz_iadd hx hb dL_law_825 ?_
  refine zz_sld hx hb hX hbl hbA hS (show 0 ≤ i + 1 ∧ i + 1 < (L : Int) by omega) (by omega) dL_law_826 ?_
  rw [e_x]
  refine lv_aload_n hx hb dL_law_827 rfl (lv_at hl 0 rfl) ?_
  refine lv_iload hx hb dL_law_828 (lv_at hl 4 rfl) ?_
  refine lv_iconst (v := zz_i (2)) hx hb dL_law_830 rfl ?_
  refine zz_iadd hx hb dL_law_831 ?_
  refine zz_sld hx hb hX hbl hbA hS (show 0 ≤ i + 2 ∧ i + 2 < (L : Int) by omega) (by omega) dL_law_832 ?_
  rw [e_y]
  refine lv_aload_n hx hb dL_law_833 rfl (lv_at hl 3 rfl) ?_
  have hkr := kr_man σ x y
  have hnv := nv_man hI x y
  refine zf_w (wc := cw_ cy ga ad σ ++ ow_ cy o g) (wr := rk_ cy gr kc σ) (As := [.ref (ga 0), .int (zz_i (x)), .int (zz_i (y)), .ref (o)]) (rest := []) (S := (Int → Nat) × (Nat → Int64)) (pc := 834) ⟨hx, hb, hml, hown, hts⟩ (h_manual l hl9 D cy ga ad σ _ hI o g x y q_x q_y) (vx_cwSW 4 hts gL_law_L_manual rfl rfl rfl (by decide +kernel) ⟨(Nat.le_of_ble_eq_true rfl), (Nat.le_of_ble_eq_true rfl)⟩) hK hP hD hS hA hE rfl hl.1 rfl (Nat.le_of_ble_eq_true rfl) dL_law_834 ⟨show cells + 3 ≤ 601024 by omega, show slots + 18 ≤ 7293000 by omega⟩ (fun u H locs hu hP hD hS => ?_)
  obtain ⟨ad2, g2⟩ := u
  have hu : k_man σ x y = 0 → g2 0 = lo_ (v_man σ y) := hu
  have hP := fr_Pc (a := cw_ cy ga ad2 (nx_ (k_man σ x y) σ (s_man σ x y)) ++ ow_ cy o g2) (b := rk_ cy gr kc σ) hP
  have hD := fr_Dc (a := cw_ cy ga ad2 (nx_ (k_man σ x y) σ (s_man σ x y)) ++ ow_ cy o g2) (b := rk_ cy gr kc σ) hD
  refine W.eq (g2 := F0 m 837 ls [.int (zz_i (k_man σ x y))]) rfl ?_
  refine lv_istore (lv' := [(5, .int (zz_i (k_man σ x y))), (0, .ref (b)), (1, .ref (ga 0)), (2, .ref (gr 0)), (3, .ref (o)), (4, .int (zz_i (i)))]) hx hb dL_law_837 hl (by decide) rfl (fun ls hl => ?_)
  refine lv_aload_n hx hb dL_law_839 rfl (lv_at hl 3 rfl) ?_
  refine lv_aload_n hx hb dL_law_840 rfl (lv_at hl 1 rfl) ?_
  refine lv_iload hx hb dL_law_841 (lv_at hl 5 rfl) ?_
  refine lv_iconst (v := zz_i (1)) hx hb dL_law_843 rfl ?_
  refine zz_iadd hx hb dL_law_844 ?_
  refine zz_sld hx hb hX hbl hbA hS (show 0 ≤ i + 1 ∧ i + 1 < (L : Int) by omega) (by omega) dL_law_845 ?_
  rw [e_x]
  refine lv_aload_n hx hb dL_law_846 rfl (lv_at hl 1 rfl) ?_
  refine lv_iload hx hb dL_law_847 (lv_at hl 5 rfl) ?_
  refine lv_iconst (v := zz_i (2)) hx hb dL_law_849 rfl ?_
  refine zz_iadd hx hb dL_law_850 ?_
  refine zz_sld hx hb hX hbl hbA hS (show 0 ≤ i + 2 ∧ i + 2 < (L : Int) by omega) (by omega) dL_law_851 ?_
  rw [e_y]
  refine zf_v (wc := rk_ cy gr kc σ) (wr := cw_ cy ga ad2 (nx_ (k_man σ x y) σ (s_man σ x y)) ++ ow_ cy o g2) (As := [.int (zz_i (x)), .int (zz_i (y))]) (rest := []) (S := Unit) (pc := 852) ⟨hx, hb, hml, hown, hts⟩ (r_manual l D cy gr kc σ _ hI x y q_x q_y) (cwV 2 hts gL_law_X3_manual rfl rfl rfl (by decide +kernel) ⟨(Nat.le_of_ble_eq_true rfl), (Nat.le_of_ble_eq_true rfl)⟩) hK hP hD hS hA hE (va_recv hK hP (ci := 3) (q0 := 0) rfl rfl) rfl hl.1 rfl (Nat.le_of_ble_eq_true rfl) dL_law_852 ⟨show cells + 3 + 0 ≤ 601024 by omega, show slots + 18 + 0 ≤ 7293000 by omega⟩ (fun _ H locs _ hP hD hS => ?_)
  refine W.eq (g2 := F0 m 855 ls [.int (zz_i (an_ (k_man σ x y) (v_man σ y)))]) rfl ?_
  refine lv_istore (lv' := [(6, .int (zz_i (an_ (k_man σ x y) (v_man σ y)))), (5, .int (zz_i (k_man σ x y))), (0, .ref (b)), (1, .ref (ga 0)), (2, .ref (gr 0)), (3, .ref (o)), (4, .int (zz_i (i)))]) hx hb dL_law_855 hl (by decide) rfl (fun ls hl => ?_)
  refine lv_aload_n hx hb dL_law_857 rfl (lv_at hl 4 rfl) ?_
  refine zf_v (wc := rk_ cy gr (k_man σ x y) (nx_ (k_man σ x y) σ (s_man σ x y))) (wr := cw_ cy ga ad2 (nx_ (k_man σ x y) σ (s_man σ x y)) ++ ow_ cy o g2) (As := []) (rest := []) (S := Unit) (pc := 858) ⟨hx, hb, hml, hown, hts⟩ (r_thrown l D cy gr (k_man σ x y) (nx_ (k_man σ x y) σ (s_man σ x y)) _) (cwV 0 hts gL_law_X3_thrown rfl rfl rfl (by decide +kernel) ⟨(Nat.le_of_ble_eq_true rfl), (Nat.le_of_ble_eq_true rfl)⟩) hK hP hD hS hA hE (va_recv hK hP (ci := 3) (q0 := 0) rfl rfl) rfl hl.1 rfl (Nat.le_of_ble_eq_true rfl) dL_law_858 ⟨show cells + 3 + 0 + 0 ≤ 601024 by omega, show slots + 18 + 0 + 0 ≤ 7293000 by omega⟩ (fun _ H locs _ hP hD hS => ?_)
  have hP := fr_Pc (a := rk_ cy gr (k_man σ x y) (nx_ (k_man σ x y) σ (s_man σ x y))) (b := cw_ cy ga ad2 (nx_ (k_man σ x y) σ (s_man σ x y)) ++ ow_ cy o g2) hP
  have hD := fr_Dc (a := rk_ cy gr (k_man σ x y) (nx_ (k_man σ x y) σ (s_man σ x y))) (b := cw_ cy ga ad2 (nx_ (k_man σ x y) σ (s_man σ x y)) ++ ow_ cy o g2) hD
  refine W.eq (g2 := F0 m 861 ls [.int (zz_i (k_man σ x y))]) rfl ?_
  refine lv_iload hx hb dL_law_861 (lv_at hl 1 rfl) ?_
  refine lv_icmp_eq (tgt := 868) hx hb dL_law_863 (by decide) (fun _ => ?_) (fun c9 => absurd rfl c9)
  refine lv_iload hx hb dL_law_868 (lv_at hl 1 rfl) ?_
  refine zz_if_ne (tgt := 892) hx hb dL_law_870 (by decide) (by omega) (fun c9 => ?_) (fun c9 => ?_)
  · skip
    refine lv_goto (tgt := 1044) hx hb dL_law_892 (by decide) ?_
    refine W.widen (k := cells + 20) (n := slots + 200) (by omega) (by omega) ?_
    exact kk _ _ _ _ H locs ls hnv.1 hnv.2 hP hD hS (lv_sub hl [2, 3, 4, 5, 6] rfl)
  · have hg9 := hu c9
    refine lv_aload_n hx hb dL_law_873 rfl (lv_at hl 5 rfl) ?_
    refine lv_iconst (v := zz_i (0)) hx hb dL_law_874 rfl ?_
    refine zz_lald hx hb _ (fr_l (ow_at _ cy o g2)) hK hP dL_law_875 ?_
    refine lv_iload hx hb dL_law_876 (lv_at hl 0 rfl) ?_
    have ha9 : an_ (k_man σ x y) (v_man σ y) = v_man σ y := an_0 c9
    have hb9 : v_man σ y = 0 ∨ v_man σ y = 1 := v_man_b σ y
    refine zz_if_eq (tgt := 885) hx hb dL_law_878 (by decide) (by omega) (fun c7 => ?_) (fun c7 => ?_)
    · have hv8 : v_man σ y = 0 := by omega
      refine lv_lconst (v := lo_ 0) hx hb dL_law_885 (by decide) ?_
      refine lv_lcmpE hx hb (show g2 0 = lo_ 0 from by rw [hg9, hv8]) dL_law_886 ?_
      refine zz_if_eq (tgt := 892) hx hb dL_law_887 (by decide) (by omega) (fun _ => ?_) (fun c9 => absurd rfl c9)
      refine lv_goto (tgt := 1044) hx hb dL_law_892 (by decide) ?_
      refine W.widen (k := cells + 20) (n := slots + 200) (by omega) (by omega) ?_
      exact kk _ _ _ _ H locs ls hnv.1 hnv.2 hP hD hS (lv_sub hl [2, 3, 4, 5, 6] rfl)
    · have hv8 : v_man σ y = 1 := by omega
      refine lv_lconst (v := lo_ 1) hx hb dL_law_881 (by decide) ?_
      refine lv_goto (tgt := 886) hx hb dL_law_882 (by decide) ?_
      refine lv_lcmpE hx hb (show g2 0 = lo_ 1 from by rw [hg9, hv8]) dL_law_886 ?_
      refine zz_if_eq (tgt := 892) hx hb dL_law_887 (by decide) (by omega) (fun _ => ?_) (fun c9 => absurd rfl c9)
      refine lv_goto (tgt := 1044) hx hb dL_law_892 (by decide) ?_
      refine W.widen (k := cells + 20) (n := slots + 200) (by omega) (by omega) ?_
      exact kk _ _ _ _ H locs ls hnv.1 hnv.2 hP hD hS (lv_sub hl [2, 3, 4, 5, 6] rfl)
set_option maxHeartbeats 4000000 in
set_option maxRecDepth 100000 in
theorem w_12 {p : Program} {e : Env} {s : State} {m : MethodId} {below : List Frame} {meth : Method} {c : Code} {l : Launch} (hl9 : l.stackTraces = false) {b L : Nat} {xs : Nat → Int32} (hL : L ≤ 2050) (C0 : lw_At p s m meth c b L xs) {D : va_G} {cy ga gr : Nat → Nat} {o : Nat} (hK : va_K D zz_cl (zz_ty cy) s) (hE : ev_ok (fun q : Nat => s.heap.size ≤ q) s) {ad : Int → Nat} {g : Nat → Int64} {σ : zz_S} {kc i : Int} {cells slots : Nat} {H : Heap} {locs : List Loc} {ls : Array Slot} (hi : 2 ≤ i ∧ i + 4 ≤ L) (hI : iv_ σ) (hs : σ 2 0 ≤ 99999900) (hP : va_P D zz_cl ((cw_ cy ga ad σ ++ ow_ cy o g) ++ rk_ cy gr kc σ) H) (hD : va_D (fun q : Nat => s.heap.size ≤ q) ((cw_ cy ga ad σ ++ ow_ cy o g) ++ rk_ cy gr kc σ)) (hS : va_S (fun q : Nat => s.heap.size ≤ q) s.heap H locs) (hl : lv_has ls 7 [(0, .ref (b)), (1, .ref (ga 0)), (2, .ref (gr 0)), (3, .ref (o)), (4, .int (zz_i (i)))]) (hf : cells + 20 ≤ 601024 ∧ slots + 200 ≤ 7293000)
    (kk : ∀ (σ' : zz_S) (k' : Int) (ad' : Int → Nat) (g' : Nat → Int64) (H' : Heap) (locs' : List Loc) (ls' : Array Slot), iv_ σ' → σ' 2 0 ≤ σ 2 0 + 100 → va_P D zz_cl ((cw_ cy ga ad' σ' ++ ow_ cy o g') ++ rk_ cy gr k' σ') H' → va_D (fun q : Nat => s.heap.size ≤ q) ((cw_ cy ga ad' σ' ++ ow_ cy o g') ++ rk_ cy gr k' σ') → va_S (fun q : Nat => s.heap.size ≤ q) s.heap H' locs' → lv_has ls' 7 [(0, .ref (b)), (1, .ref (ga 0)), (2, .ref (gr 0)), (3, .ref (o)), (4, .int (zz_i (i)))] → W p l e room_1 s m #[Value.ref b] below meth c H' locs' (cells + 20) (slots + 200) (lw_Z below #[Value.ref b] s) (F0 m 1044 ls' [])) :
    W p l e room_1 s m #[Value.ref b] below meth c H locs cells slots (lw_Z below #[Value.ref b] s) (F0 m 895 ls []) := by
  obtain ⟨hx, hb, hr, hml, hown, hts, hX, hbl, hlocks, hgv⟩ := id C0
  have htt := hts
  have hts : ∀ w ∈ wsL_law, w.before #[Value.ref b] s = true := fun w h => hts w (wsL_law_in w h)
  have hA : ∀ q : Nat, s.heap.size ≤ q → (fun q : Nat => s.heap.size ≤ q) q := fun _ h => h
  have hbA : ¬ (fun q : Nat => s.heap.size ≤ q) b := Nat.not_le.mpr hbl
  obtain ⟨x, e_x, q_x⟩ : ∃ z : Int, (xs (i + 1).toNat).toInt = z ∧ (-2147483648 ≤ z ∧ z < 2147483648) := ⟨_, rfl, zz_bd _⟩
  refine lv_aload_n hx hb dL_law_895 rfl (lv_at hl 1 rfl) ?_
  refine lv_aload_n hx hb dL_law_896 rfl (lv_at hl 0 rfl) ?_
  refine lv_iload hx hb dL_law_897 (lv_at hl 4 rfl) ?_
  refine lv_iconst (v := zz_i (1)) hx hb dL_law_899 rfl ?_
  refine zz_iadd hx hb dL_law_900 ?_
  refine zz_sld hx hb hX hbl hbA hS (show 0 ≤ i + 1 ∧ i + 1 < (L : Int) by omega) (by omega) dL_law_901 ?_
  rw [e_x]
  refine lv_aload_n hx hb dL_law_902 rfl (lv_at hl 3 rfl) ?_
  have hkr := kr_tra σ x
  have hnv := nv_id hI (k_tra σ x)
  refine zf_w (wc := cw_ cy ga ad σ ++ ow_ cy o g) (wr := rk_ cy gr kc σ) (As := [.ref (ga 0), .int (zz_i (x)), .ref (o)]) (rest := []) (S := (Int → Nat) × (Nat → Int64)) (pc := 903) ⟨hx, hb, hml, hown, htt⟩ (h_tray l hl9 D cy ga ad σ _ hI o g x q_x) (vx_cwSW 3 htt gL_law_L_trayB rfl rfl rfl (by decide +kernel) ⟨(Nat.le_of_ble_eq_true rfl), (Nat.le_of_ble_eq_true rfl)⟩) hK hP hD hS hA hE rfl hl.1 rfl (Nat.le_of_ble_eq_true rfl) dL_law_903 ⟨show cells + 1 ≤ 601024 by omega, show slots + 6 ≤ 7293000 by omega⟩ (fun u H locs hu hP hD hS => ?_)
  obtain ⟨ad2, g2⟩ := u
  have hu : k_tra σ x = 0 → g2 0 = lo_ (σ 10 x) := hu
  have hP := fr_Pc (a := cw_ cy ga ad2 (nx_ (k_tra σ x) σ (σ)) ++ ow_ cy o g2) (b := rk_ cy gr kc σ) hP
  have hD := fr_Dc (a := cw_ cy ga ad2 (nx_ (k_tra σ x) σ (σ)) ++ ow_ cy o g2) (b := rk_ cy gr kc σ) hD
  refine W.eq (g2 := F0 m 906 ls [.int (zz_i (k_tra σ x))]) rfl ?_
  refine lv_istore (lv' := [(5, .int (zz_i (k_tra σ x))), (0, .ref (b)), (1, .ref (ga 0)), (2, .ref (gr 0)), (3, .ref (o)), (4, .int (zz_i (i)))]) hx hb dL_law_906 hl (by decide) rfl (fun ls hl => ?_)
  refine lv_aload_n hx hb dL_law_908 rfl (lv_at hl 3 rfl) ?_
  refine lv_aload_n hx hb dL_law_909 rfl (lv_at hl 1 rfl) ?_
  refine lv_iload hx hb dL_law_910 (lv_at hl 5 rfl) ?_
  refine lv_iconst (v := zz_i (1)) hx hb dL_law_912 rfl ?_
  refine zz_iadd hx hb dL_law_913 ?_
  refine zz_sld hx hb hX hbl hbA hS (show 0 ≤ i + 1 ∧ i + 1 < (L : Int) by omega) (by omega) dL_law_914 ?_
  rw [e_x]
  refine zf_v (wc := rk_ cy gr kc σ) (wr := cw_ cy ga ad2 (nx_ (k_tra σ x) σ (σ)) ++ ow_ cy o g2) (As := [.int (zz_i (x))]) (rest := []) (S := Unit) (pc := 915) ⟨hx, hb, hml, hown, hts⟩ (r_tray l D cy gr kc σ _ hI x q_x) (cwV 1 hts gL_law_X3_tray rfl rfl rfl (by decide +kernel) ⟨(Nat.le_of_ble_eq_true rfl), (Nat.le_of_ble_eq_true rfl)⟩) hK hP hD hS hA hE (va_recv hK hP (ci := 3) (q0 := 0) rfl rfl) rfl hl.1 rfl (Nat.le_of_ble_eq_true rfl) dL_law_915 ⟨show cells + 1 + 0 ≤ 601024 by omega, show slots + 6 + 0 ≤ 7293000 by omega⟩ (fun _ H locs _ hP hD hS => ?_)
  refine W.eq (g2 := F0 m 918 ls [.int (zz_i (an_ (k_tra σ x) (σ 10 x)))]) rfl ?_
  refine lv_istore (lv' := [(6, .int (zz_i (an_ (k_tra σ x) (σ 10 x)))), (5, .int (zz_i (k_tra σ x))), (0, .ref (b)), (1, .ref (ga 0)), (2, .ref (gr 0)), (3, .ref (o)), (4, .int (zz_i (i)))]) hx hb dL_law_918 hl (by decide) rfl (fun ls hl => ?_)
  refine lv_aload_n hx hb dL_law_920 rfl (lv_at hl 4 rfl) ?_
  refine zf_v (wc := rk_ cy gr (k_tra σ x) (nx_ (k_tra σ x) σ (σ))) (wr := cw_ cy ga ad2 (nx_ (k_tra σ x) σ (σ)) ++ ow_ cy o g2) (As := []) (rest := []) (S := Unit) (pc := 921) ⟨hx, hb, hml, hown, hts⟩ (r_thrown l D cy gr (k_tra σ x) (nx_ (k_tra σ x) σ (σ)) _) (cwV 0 hts gL_law_X3_thrown rfl rfl rfl (by decide +kernel) ⟨(Nat.le_of_ble_eq_true rfl), (Nat.le_of_ble_eq_true rfl)⟩) hK hP hD hS hA hE (va_recv hK hP (ci := 3) (q0 := 0) rfl rfl) rfl hl.1 rfl (Nat.le_of_ble_eq_true rfl) dL_law_921 ⟨show cells + 1 + 0 + 0 ≤ 601024 by omega, show slots + 6 + 0 + 0 ≤ 7293000 by omega⟩ (fun _ H locs _ hP hD hS => ?_)
  have hP := fr_Pc (a := rk_ cy gr (k_tra σ x) (nx_ (k_tra σ x) σ (σ))) (b := cw_ cy ga ad2 (nx_ (k_tra σ x) σ (σ)) ++ ow_ cy o g2) hP
  have hD := fr_Dc (a := rk_ cy gr (k_tra σ x) (nx_ (k_tra σ x) σ (σ))) (b := cw_ cy ga ad2 (nx_ (k_tra σ x) σ (σ)) ++ ow_ cy o g2) hD
  refine W.eq (g2 := F0 m 924 ls [.int (zz_i (k_tra σ x))]) rfl ?_
  refine lv_iload hx hb dL_law_924 (lv_at hl 1 rfl) ?_
  refine lv_icmp_eq (tgt := 931) hx hb dL_law_926 (by decide) (fun _ => ?_) (fun c9 => absurd rfl c9)
  refine lv_iload hx hb dL_law_931 (lv_at hl 1 rfl) ?_
  refine zz_if_ne (tgt := 948) hx hb dL_law_933 (by decide) (by omega) (fun c9 => ?_) (fun c9 => ?_)
  · skip
    refine lv_goto (tgt := 1044) hx hb dL_law_948 (by decide) ?_
    refine W.widen (k := cells + 20) (n := slots + 200) (by omega) (by omega) ?_
    exact kk _ _ _ _ H locs ls hnv.1 hnv.2 hP hD hS (lv_sub hl [2, 3, 4, 5, 6] rfl)
  · have hg9 := hu c9
    refine lv_aload_n hx hb dL_law_936 rfl (lv_at hl 5 rfl) ?_
    refine lv_iconst (v := zz_i (0)) hx hb dL_law_937 rfl ?_
    refine zz_lald hx hb _ (fr_l (ow_at _ cy o g2)) hK hP dL_law_938 ?_
    refine lv_iload hx hb dL_law_939 (lv_at hl 0 rfl) ?_
    refine lv_i2l (v := lo_ (an_ (k_tra σ x) (σ 10 x))) hx hb dL_law_941 rfl ?_
    refine lv_lcmpE hx hb (show g2 0 = lo_ (an_ (k_tra σ x) (σ 10 x)) from by rw [hg9, an_0 c9]) dL_law_942 ?_
    refine zz_if_eq (tgt := 948) hx hb dL_law_943 (by decide) (by omega) (fun _ => ?_) (fun c9 => absurd rfl c9)
    refine lv_goto (tgt := 1044) hx hb dL_law_948 (by decide) ?_
    refine W.widen (k := cells + 20) (n := slots + 200) (by omega) (by omega) ?_
    exact kk _ _ _ _ H locs ls hnv.1 hnv.2 hP hD hS (lv_sub hl [2, 3, 4, 5, 6] rfl)
set_option maxHeartbeats 4000000 in
set_option maxRecDepth 100000 in
theorem w_13 {p : Program} {e : Env} {s : State} {m : MethodId} {below : List Frame} {meth : Method} {c : Code} {l : Launch} (hl9 : l.stackTraces = false) {b L : Nat} {xs : Nat → Int32} (hL : L ≤ 2050) (C0 : lw_At p s m meth c b L xs) {D : va_G} {cy ga gr : Nat → Nat} {o : Nat} (hK : va_K D zz_cl (zz_ty cy) s) (hE : ev_ok (fun q : Nat => s.heap.size ≤ q) s) {ad : Int → Nat} {g : Nat → Int64} {σ : zz_S} {kc i : Int} {cells slots : Nat} {H : Heap} {locs : List Loc} {ls : Array Slot} (hi : 2 ≤ i ∧ i + 4 ≤ L) (hI : iv_ σ) (hs : σ 2 0 ≤ 99999900) (hP : va_P D zz_cl ((cw_ cy ga ad σ ++ ow_ cy o g) ++ rk_ cy gr kc σ) H) (hD : va_D (fun q : Nat => s.heap.size ≤ q) ((cw_ cy ga ad σ ++ ow_ cy o g) ++ rk_ cy gr kc σ)) (hS : va_S (fun q : Nat => s.heap.size ≤ q) s.heap H locs) (hl : lv_has ls 7 [(0, .ref (b)), (1, .ref (ga 0)), (2, .ref (gr 0)), (3, .ref (o)), (4, .int (zz_i (i)))]) (hf : cells + 20 ≤ 601024 ∧ slots + 200 ≤ 7293000)
    (kk : ∀ (σ' : zz_S) (k' : Int) (ad' : Int → Nat) (g' : Nat → Int64) (H' : Heap) (locs' : List Loc) (ls' : Array Slot), iv_ σ' → σ' 2 0 ≤ σ 2 0 + 100 → va_P D zz_cl ((cw_ cy ga ad' σ' ++ ow_ cy o g') ++ rk_ cy gr k' σ') H' → va_D (fun q : Nat => s.heap.size ≤ q) ((cw_ cy ga ad' σ' ++ ow_ cy o g') ++ rk_ cy gr k' σ') → va_S (fun q : Nat => s.heap.size ≤ q) s.heap H' locs' → lv_has ls' 7 [(0, .ref (b)), (1, .ref (ga 0)), (2, .ref (gr 0)), (3, .ref (o)), (4, .int (zz_i (i)))] → W p l e room_1 s m #[Value.ref b] below meth c H' locs' (cells + 20) (slots + 200) (lw_Z below #[Value.ref b] s) (F0 m 1044 ls' [])) :
    W p l e room_1 s m #[Value.ref b] below meth c H locs cells slots (lw_Z below #[Value.ref b] s) (F0 m 951 ls []) := by
  obtain ⟨hx, hb, hr, hml, hown, hts, hX, hbl, hlocks, hgv⟩ := id C0
  have htt := hts
  have hts : ∀ w ∈ wsL_law, w.before #[Value.ref b] s = true := fun w h => hts w (wsL_law_in w h)
  have hA : ∀ q : Nat, s.heap.size ≤ q → (fun q : Nat => s.heap.size ≤ q) q := fun _ h => h
  have hbA : ¬ (fun q : Nat => s.heap.size ≤ q) b := Nat.not_le.mpr hbl
  obtain ⟨x, e_x, q_x⟩ : ∃ z : Int, (xs (i + 1).toNat).toInt = z ∧ (-2147483648 ≤ z ∧ z < 2147483648) := ⟨_, rfl, zz_bd _⟩
  obtain ⟨y, e_y, q_y⟩ : ∃ z : Int, (xs (i + 2).toNat).toInt = z ∧ (-2147483648 ≤ z ∧ z < 2147483648) := ⟨_, rfl, zz_bd _⟩
  refine lv_aload_n hx hb dL_law_951 rfl (lv_at hl 1 rfl) ?_
  refine lv_aload_n hx hb dL_law_952 rfl (lv_at hl 0 rfl) ?_
  refine lv_iload hx hb dL_law_953 (lv_at hl 4 rfl) ?_
  refine lv_iconst (v := zz_i (1)) hx hb dL_law_955 rfl ?_
  refine zz_iadd hx hb dL_law_956 ?_
  refine zz_sld hx hb hX hbl hbA hS (show 0 ≤ i + 1 ∧ i + 1 < (L : Int) by omega) (by omega) dL_law_957 ?_
  rw [e_x]
  refine lv_aload_n hx hb dL_law_958 rfl (lv_at hl 0 rfl) ?_
  refine lv_iload hx hb dL_law_959 (lv_at hl 4 rfl) ?_
  refine lv_iconst (v := zz_i (2)) hx hb dL_law_961 rfl ?_
  refine zz_iadd hx hb dL_law_962 ?_
  refine zz_sld hx hb hX hbl hbA hS (show 0 ≤ i + 2 ∧ i + 2 < (L : Int) by omega) (by omega) dL_law_963 ?_
  rw [e_y]
  refine lv_aload_n hx hb dL_law_964 rfl (lv_at hl 3 rfl) ?_
  have hkr := kr_tol σ x y
  have hnv := nv_id hI (k_tol σ x y)
  refine zf_w (wc := cw_ cy ga ad σ ++ ow_ cy o g) (wr := rk_ cy gr kc σ) (As := [.ref (ga 0), .int (zz_i (x)), .int (zz_i (y)), .ref (o)]) (rest := []) (S := (Int → Nat) × (Nat → Int64)) (pc := 965) ⟨hx, hb, hml, hown, hts⟩ (h_told l hl9 D cy ga ad σ _ hI o g x y q_x q_y) (vx_cwSW 4 hts gL_law_L_told rfl rfl rfl (by decide +kernel) ⟨(Nat.le_of_ble_eq_true rfl), (Nat.le_of_ble_eq_true rfl)⟩) hK hP hD hS hA hE rfl hl.1 rfl (Nat.le_of_ble_eq_true rfl) dL_law_965 ⟨show cells + 2 ≤ 601024 by omega, show slots + 12 ≤ 7293000 by omega⟩ (fun u H locs hu hP hD hS => ?_)
  obtain ⟨ad2, g2⟩ := u
  have hu : k_tol σ x y = 0 → g2 0 = lo_ (v_tol σ x y) := hu
  have hP := fr_Pc (a := cw_ cy ga ad2 (nx_ (k_tol σ x y) σ (σ)) ++ ow_ cy o g2) (b := rk_ cy gr kc σ) hP
  have hD := fr_Dc (a := cw_ cy ga ad2 (nx_ (k_tol σ x y) σ (σ)) ++ ow_ cy o g2) (b := rk_ cy gr kc σ) hD
  refine W.eq (g2 := F0 m 968 ls [.int (zz_i (k_tol σ x y))]) rfl ?_
  refine lv_istore (lv' := [(5, .int (zz_i (k_tol σ x y))), (0, .ref (b)), (1, .ref (ga 0)), (2, .ref (gr 0)), (3, .ref (o)), (4, .int (zz_i (i)))]) hx hb dL_law_968 hl (by decide) rfl (fun ls hl => ?_)
  refine lv_aload_n hx hb dL_law_970 rfl (lv_at hl 3 rfl) ?_
  refine lv_aload_n hx hb dL_law_971 rfl (lv_at hl 1 rfl) ?_
  refine lv_iload hx hb dL_law_972 (lv_at hl 5 rfl) ?_
  refine lv_iconst (v := zz_i (1)) hx hb dL_law_974 rfl ?_
  refine zz_iadd hx hb dL_law_975 ?_
  refine zz_sld hx hb hX hbl hbA hS (show 0 ≤ i + 1 ∧ i + 1 < (L : Int) by omega) (by omega) dL_law_976 ?_
  rw [e_x]
  refine lv_aload_n hx hb dL_law_977 rfl (lv_at hl 1 rfl) ?_
  refine lv_iload hx hb dL_law_978 (lv_at hl 5 rfl) ?_
  refine lv_iconst (v := zz_i (2)) hx hb dL_law_980 rfl ?_
  refine zz_iadd hx hb dL_law_981 ?_
  refine zz_sld hx hb hX hbl hbA hS (show 0 ≤ i + 2 ∧ i + 2 < (L : Int) by omega) (by omega) dL_law_982 ?_
  rw [e_y]
  refine zf_v (wc := rk_ cy gr kc σ) (wr := cw_ cy ga ad2 (nx_ (k_tol σ x y) σ (σ)) ++ ow_ cy o g2) (As := [.int (zz_i (x)), .int (zz_i (y))]) (rest := []) (S := Unit) (pc := 983) ⟨hx, hb, hml, hown, hts⟩ (r_told l D cy gr kc σ _ hI x y q_x q_y) (cwV 2 hts gL_law_X3_told rfl rfl rfl (by decide +kernel) ⟨(Nat.le_of_ble_eq_true rfl), (Nat.le_of_ble_eq_true rfl)⟩) hK hP hD hS hA hE (va_recv hK hP (ci := 3) (q0 := 0) rfl rfl) rfl hl.1 rfl (Nat.le_of_ble_eq_true rfl) dL_law_983 ⟨show cells + 2 + 0 ≤ 601024 by omega, show slots + 12 + 0 ≤ 7293000 by omega⟩ (fun _ H locs _ hP hD hS => ?_)
  refine W.eq (g2 := F0 m 986 ls [.int (zz_i (an_ (k_tol σ x y) (v_tol σ x y)))]) rfl ?_
  refine lv_istore (lv' := [(6, .int (zz_i (an_ (k_tol σ x y) (v_tol σ x y)))), (5, .int (zz_i (k_tol σ x y))), (0, .ref (b)), (1, .ref (ga 0)), (2, .ref (gr 0)), (3, .ref (o)), (4, .int (zz_i (i)))]) hx hb dL_law_986 hl (by decide) rfl (fun ls hl => ?_)
  refine lv_aload_n hx hb dL_law_988 rfl (lv_at hl 4 rfl) ?_
  refine zf_v (wc := rk_ cy gr (k_tol σ x y) (nx_ (k_tol σ x y) σ (σ))) (wr := cw_ cy ga ad2 (nx_ (k_tol σ x y) σ (σ)) ++ ow_ cy o g2) (As := []) (rest := []) (S := Unit) (pc := 989) ⟨hx, hb, hml, hown, hts⟩ (r_thrown l D cy gr (k_tol σ x y) (nx_ (k_tol σ x y) σ (σ)) _) (cwV 0 hts gL_law_X3_thrown rfl rfl rfl (by decide +kernel) ⟨(Nat.le_of_ble_eq_true rfl), (Nat.le_of_ble_eq_true rfl)⟩) hK hP hD hS hA hE (va_recv hK hP (ci := 3) (q0 := 0) rfl rfl) rfl hl.1 rfl (Nat.le_of_ble_eq_true rfl) dL_law_989 ⟨show cells + 2 + 0 + 0 ≤ 601024 by omega, show slots + 12 + 0 + 0 ≤ 7293000 by omega⟩ (fun _ H locs _ hP hD hS => ?_)
  have hP := fr_Pc (a := rk_ cy gr (k_tol σ x y) (nx_ (k_tol σ x y) σ (σ))) (b := cw_ cy ga ad2 (nx_ (k_tol σ x y) σ (σ)) ++ ow_ cy o g2) hP
  have hD := fr_Dc (a := rk_ cy gr (k_tol σ x y) (nx_ (k_tol σ x y) σ (σ))) (b := cw_ cy ga ad2 (nx_ (k_tol σ x y) σ (σ)) ++ ow_ cy o g2) hD
  refine W.eq (g2 := F0 m 992 ls [.int (zz_i (k_tol σ x y))]) rfl ?_
  refine lv_iload hx hb dL_law_992 (lv_at hl 1 rfl) ?_
  refine lv_icmp_eq (tgt := 999) hx hb dL_law_994 (by decide) (fun _ => ?_) (fun c9 => absurd rfl c9)
  refine lv_iload hx hb dL_law_999 (lv_at hl 1 rfl) ?_
  refine zz_if_ne (tgt := 1016) hx hb dL_law_1001 (by decide) (by omega) (fun c9 => ?_) (fun c9 => ?_)
  · skip
    refine lv_goto (tgt := 1044) hx hb dL_law_1016 (by decide) ?_
    refine W.widen (k := cells + 20) (n := slots + 200) (by omega) (by omega) ?_
    exact kk _ _ _ _ H locs ls hnv.1 hnv.2 hP hD hS (lv_sub hl [2, 3, 4, 5, 6] rfl)
  · have hg9 := hu c9
    refine lv_aload_n hx hb dL_law_1004 rfl (lv_at hl 5 rfl) ?_
    refine lv_iconst (v := zz_i (0)) hx hb dL_law_1005 rfl ?_
    refine zz_lald hx hb _ (fr_l (ow_at _ cy o g2)) hK hP dL_law_1006 ?_
    refine lv_iload hx hb dL_law_1007 (lv_at hl 0 rfl) ?_
    refine lv_i2l (v := lo_ (an_ (k_tol σ x y) (v_tol σ x y))) hx hb dL_law_1009 rfl ?_
    refine lv_lcmpE hx hb (show g2 0 = lo_ (an_ (k_tol σ x y) (v_tol σ x y)) from by rw [hg9, an_0 c9]) dL_law_1010 ?_
    refine zz_if_eq (tgt := 1016) hx hb dL_law_1011 (by decide) (by omega) (fun _ => ?_) (fun c9 => absurd rfl c9)
    refine lv_goto (tgt := 1044) hx hb dL_law_1016 (by decide) ?_
    refine W.widen (k := cells + 20) (n := slots + 200) (by omega) (by omega) ?_
    exact kk _ _ _ _ H locs ls hnv.1 hnv.2 hP hD hS (lv_sub hl [2, 3, 4, 5, 6] rfl)
set_option maxHeartbeats 4000000 in
set_option maxRecDepth 100000 in
theorem w_14 {p : Program} {e : Env} {s : State} {m : MethodId} {below : List Frame} {meth : Method} {c : Code} {l : Launch} (hl9 : l.stackTraces = false) {b L : Nat} {xs : Nat → Int32} (hL : L ≤ 2050) (C0 : lw_At p s m meth c b L xs) {D : va_G} {cy ga gr : Nat → Nat} {o : Nat} (hK : va_K D zz_cl (zz_ty cy) s) (hE : ev_ok (fun q : Nat => s.heap.size ≤ q) s) {ad : Int → Nat} {g : Nat → Int64} {σ : zz_S} {kc i : Int} {cells slots : Nat} {H : Heap} {locs : List Loc} {ls : Array Slot} (hi : 2 ≤ i ∧ i + 4 ≤ L) (hI : iv_ σ) (hs : σ 2 0 ≤ 99999900) (hP : va_P D zz_cl ((cw_ cy ga ad σ ++ ow_ cy o g) ++ rk_ cy gr kc σ) H) (hD : va_D (fun q : Nat => s.heap.size ≤ q) ((cw_ cy ga ad σ ++ ow_ cy o g) ++ rk_ cy gr kc σ)) (hS : va_S (fun q : Nat => s.heap.size ≤ q) s.heap H locs) (hl : lv_has ls 7 [(0, .ref (b)), (1, .ref (ga 0)), (2, .ref (gr 0)), (3, .ref (o)), (4, .int (zz_i (i)))]) (hf : cells + 20 ≤ 601024 ∧ slots + 200 ≤ 7293000)
    (kk : ∀ (σ' : zz_S) (k' : Int) (ad' : Int → Nat) (g' : Nat → Int64) (H' : Heap) (locs' : List Loc) (ls' : Array Slot), iv_ σ' → σ' 2 0 ≤ σ 2 0 + 100 → va_P D zz_cl ((cw_ cy ga ad' σ' ++ ow_ cy o g') ++ rk_ cy gr k' σ') H' → va_D (fun q : Nat => s.heap.size ≤ q) ((cw_ cy ga ad' σ' ++ ow_ cy o g') ++ rk_ cy gr k' σ') → va_S (fun q : Nat => s.heap.size ≤ q) s.heap H' locs' → lv_has ls' 7 [(0, .ref (b)), (1, .ref (ga 0)), (2, .ref (gr 0)), (3, .ref (o)), (4, .int (zz_i (i)))] → W p l e room_1 s m #[Value.ref b] below meth c H' locs' (cells + 20) (slots + 200) (lw_Z below #[Value.ref b] s) (F0 m 1044 ls' [])) :
    W p l e room_1 s m #[Value.ref b] below meth c H locs cells slots (lw_Z below #[Value.ref b] s) (F0 m 1019 ls []) := by
  obtain ⟨hx, hb, hr, hml, hown, hts, hX, hbl, hlocks, hgv⟩ := id C0
  have htt := hts
  have hts : ∀ w ∈ wsL_law, w.before #[Value.ref b] s = true := fun w h => hts w (wsL_law_in w h)
  have hA : ∀ q : Nat, s.heap.size ≤ q → (fun q : Nat => s.heap.size ≤ q) q := fun _ h => h
  have hbA : ¬ (fun q : Nat => s.heap.size ≤ q) b := Nat.not_le.mpr hbl
  obtain ⟨x, e_x, q_x⟩ : ∃ z : Int, (xs (i + 1).toNat).toInt = z ∧ (-2147483648 ≤ z ∧ z < 2147483648) := ⟨_, rfl, zz_bd _⟩
  refine lv_aload_n hx hb dL_law_1019 rfl (lv_at hl 1 rfl) ?_
  refine lv_aload_n hx hb dL_law_1020 rfl (lv_at hl 0 rfl) ?_
  refine lv_iload hx hb dL_law_1021 (lv_at hl 4 rfl) ?_
  refine lv_iconst (v := zz_i (1)) hx hb dL_law_1023 rfl ?_
  refine zz_iadd hx hb dL_law_1024 ?_
  refine zz_sld hx hb hX hbl hbA hS (show 0 ≤ i + 1 ∧ i + 1 < (L : Int) by omega) (by omega) dL_law_1025 ?_
  rw [e_x]
  have hP : va_P D zz_cl (cw_ cy ga ad σ ++ (ow_ cy o g ++ rk_ cy gr kc σ)) H := by rw [← List.append_assoc]; exact hP
  have hD : va_D (fun q : Nat => s.heap.size ≤ q) (cw_ cy ga ad σ ++ (ow_ cy o g ++ rk_ cy gr kc σ)) := by rw [← List.append_assoc]; exact hD
  have hnv := nv_id hI 0
  refine zf_v (wc := cw_ cy ga ad σ) (wr := ow_ cy o g ++ rk_ cy gr kc σ) (As := [.int (zz_i (x))]) (rest := []) (S := Unit) (pc := 1026) ⟨hx, hb, hml, hown, hts⟩ (c_count l D cy ga ad σ _ hI x q_x) (cwV 1 hts gL_law_X2_count rfl rfl rfl (by decide +kernel) ⟨(Nat.le_of_ble_eq_true rfl), (Nat.le_of_ble_eq_true rfl)⟩) hK hP hD hS hA hE (va_recv hK hP (ci := 2) (q0 := 0) rfl rfl) rfl hl.1 rfl (Nat.le_of_ble_eq_true rfl) dL_law_1026 ⟨show cells + 0 ≤ 601024 by omega, show slots + 0 ≤ 7293000 by omega⟩ (fun _ H locs _ hP hD hS => ?_)
  have hP := fr_Pc (a := cw_ cy ga ad σ ++ ow_ cy o g) (b := rk_ cy gr kc σ) (by rw [List.append_assoc]; exact hP)
  have hD := fr_Dc (a := cw_ cy ga ad σ ++ ow_ cy o g) (b := rk_ cy gr kc σ) (by rw [List.append_assoc]; exact hD)
  refine W.eq (g2 := F0 m 1029 ls [.int (zz_i (v_cou σ x))]) rfl ?_
  refine lv_aload_n hx hb dL_law_1029 rfl (lv_at hl 2 rfl) ?_
  refine lv_aload_n hx hb dL_law_1030 rfl (lv_at hl 0 rfl) ?_
  refine lv_iload hx hb dL_law_1031 (lv_at hl 4 rfl) ?_
  refine lv_iconst (v := zz_i (1)) hx hb dL_law_1033 rfl ?_
  refine zz_iadd hx hb dL_law_1034 ?_
  refine zz_sld hx hb hX hbl hbA hS (show 0 ≤ i + 1 ∧ i + 1 < (L : Int) by omega) (by omega) dL_law_1035 ?_
  rw [e_x]
  refine zf_v (wc := rk_ cy gr kc σ) (wr := cw_ cy ga ad σ ++ ow_ cy o g) (As := [.int (zz_i (x))]) (rest := [.int (zz_i (v_cou σ x))]) (S := Unit) (pc := 1036) ⟨hx, hb, hml, hown, hts⟩ (r_count l D cy gr kc σ _ hI x q_x) (cwV 1 hts gL_law_X3_count rfl rfl rfl (by decide +kernel) ⟨(Nat.le_of_ble_eq_true rfl), (Nat.le_of_ble_eq_true rfl)⟩) hK hP hD hS hA hE (va_recv hK hP (ci := 3) (q0 := 0) rfl rfl) rfl hl.1 rfl (Nat.le_of_ble_eq_true rfl) dL_law_1036 ⟨show cells + 0 + 0 ≤ 601024 by omega, show slots + 0 + 0 ≤ 7293000 by omega⟩ (fun _ H locs _ hP hD hS => ?_)
  have hP := fr_Pc (a := rk_ cy gr 0 σ) (b := cw_ cy ga ad σ ++ ow_ cy o g) hP
  have hD := fr_Dc (a := rk_ cy gr 0 σ) (b := cw_ cy ga ad σ ++ ow_ cy o g) hD
  refine W.eq (g2 := F0 m 1039 ls [.int (zz_i (v_cou σ x)), .int (zz_i (v_cou σ x))]) rfl ?_
  refine lv_icmp_eq (tgt := 1044) hx hb dL_law_1039 (by decide) (fun _ => ?_) (fun c9 => absurd rfl c9)
  refine W.widen (k := cells + 20) (n := slots + 200) (by omega) (by omega) ?_
  exact kk _ _ _ _ H locs ls hnv.1 hnv.2 hP hD hS (lv_sub hl [0, 1, 2, 3, 4] rfl)
