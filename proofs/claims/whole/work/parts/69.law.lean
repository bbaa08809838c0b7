theorem ev_ws_in : ∀ w ∈ ev_ws, w ∈ lw_tbl := by decide +kernel
theorem ev_st_in : ∀ q ∈ ev_st, Cond.stringRef RX2 q.1 q.2 ∈ lw_tbl := by decide +kernel
/-! the law: its loop, its start -/
set_option maxHeartbeats 4000000 in
set_option maxRecDepth 100000 in
theorem law_loop {p : Program} {e : Env} {s : State} {m : MethodId} {below : List Frame} {meth : Method} {c : Code} {l : Launch} (hl9 : l.stackTraces = false) {b L : Nat} {xs : Nat → Int32} (hL : L ≤ 2050) (C0 : lw_At p s m meth c b L xs) {D : va_G} {cy ga gr : Nat → Nat} {o : Nat} (hK : va_K D zz_cl (zz_ty cy) s) (hE : ev_ok (fun q : Nat => s.heap.size ≤ q) s) :
    ∀ (n : Nat) (i : Int) (ad : Int → Nat) (g : Nat → Int64) (σ : zz_S) (kc : Int) (H : Heap) (locs : List Loc) (ls : Array Slot), (L : Int) + 1 ≤ i + n → 2 ≤ i → i ≤ 2054 → iv_ σ → σ 2 0 ≤ 25 * i → va_P D zz_cl ((cw_ cy ga ad σ ++ ow_ cy o g) ++ rk_ cy gr kc σ) H → va_D (fun q : Nat => s.heap.size ≤ q) ((cw_ cy ga ad σ ++ ow_ cy o g) ++ rk_ cy gr kc σ) → va_S (fun q : Nat => s.heap.size ≤ q) s.heap H locs → lv_has ls 7 [(0, .ref (b)), (1, .ref (ga 0)), (2, .ref (gr 0)), (3, .ref (o)), (4, .int (zz_i (i)))] → W p l e room_1 s m #[Value.ref b] below meth c H locs (100 + 5 * i.toNat) (5000 + 50 * i.toNat) (lw_Z below #[Value.ref b] s) (F0 m 43 ls []) := by
  obtain ⟨hx, hb, hr, hml, hown, hts, hX, hbl, hlocks, hgv⟩ := id C0
  have hA : ∀ q : Nat, s.heap.size ≤ q → (fun q : Nat => s.heap.size ≤ q) q := fun _ h => h
  have hbA : ¬ (fun q : Nat => s.heap.size ≤ q) b := Nat.not_le.mpr hbl
  have hLn : Int32.ofNat L = zz_i (L : Int) := zz_len (a := (L : Int)) (by omega)
  intro n
  induction n with
  | zero =>
    intro i ad g σ kc H locs ls hin h1 h2 hI hs hP hD hS hl
    refine lv_iload hx hb dL_law_43 (lv_at hl 4 rfl) ?_
    refine lv_aload_n hx hb dL_law_45 rfl (lv_at hl 0 rfl) ?_
    refine va_slen hx hb hX hbl hbA hS dL_law_46 ?_
    rw [hLn]
    refine lv_iconst (v := zz_i (4)) hx hb dL_law_47 rfl ?_
    refine zz_isub hx hb dL_law_48 ?_
    refine zz_icmp_gt (tgt := 1050) hx hb dL_law_49 (by decide) (by omega) (by omega) (fun c1 => ?_) (fun c1 => absurd c1 (by omega))
    refine lv_iconst (v := 1) hx hb dL_law_1050 (by decide) ?_
    refine va_forget (fun q hq => hS.2.2 q hq) ?_
    refine W.widen (k := 601024) (n := 7293000) (by omega) (by omega) ?_
    exact lw_ret hx hb hr hlocks dL_law_1051
  | succ n ih =>
    intro i ad g σ kc H locs ls hin h1 h2 hI hs hP hD hS hl
    refine lv_iload hx hb dL_law_43 (lv_at hl 4 rfl) ?_
    refine lv_aload_n hx hb dL_law_45 rfl (lv_at hl 0 rfl) ?_
    refine va_slen hx hb hX hbl hbA hS dL_law_46 ?_
    rw [hLn]
    refine lv_iconst (v := zz_i (4)) hx hb dL_law_47 rfl ?_
    refine zz_isub hx hb dL_law_48 ?_
    refine zz_icmp_gt (tgt := 1050) hx hb dL_law_49 (by decide) (by omega) (by omega) (fun c1 => ?_) (fun c1 => ?_)
    · refine lv_iconst (v := 1) hx hb dL_law_1050 (by decide) ?_
      refine va_forget (fun q hq => hS.2.2 q hq) ?_
      refine W.widen (k := 601024) (n := 7293000) (by omega) (by omega) ?_
      exact lw_ret hx hb hr hlocks dL_law_1051
    · have tl : ∀ (σ' : zz_S) (k' : Int) (ad' : Int → Nat) (g' : Nat → Int64) (H' : Heap) (locs' : List Loc) (ls' : Array Slot), iv_ σ' → σ' 2 0 ≤ σ 2 0 + 100 → va_P D zz_cl ((cw_ cy ga ad' σ' ++ ow_ cy o g') ++ rk_ cy gr k' σ') H' → va_D (fun q : Nat => s.heap.size ≤ q) ((cw_ cy ga ad' σ' ++ ow_ cy o g') ++ rk_ cy gr k' σ') → va_S (fun q : Nat => s.heap.size ≤ q) s.heap H' locs' → lv_has ls' 7 [(0, .ref (b)), (1, .ref (ga 0)), (2, .ref (gr 0)), (3, .ref (o)), (4, .int (zz_i (i)))] → W p l e room_1 s m #[Value.ref b] below meth c H' locs' (100 + 5 * i.toNat + 20) (5000 + 50 * i.toNat + 200) (lw_Z below #[Value.ref b] s) (F0 m 1044 ls' []) := by
        intro σ' k' ad' g' H' locs' ls' a1 a2 a3 a4 a5 a6
        refine lv_iinc (v := zz_i (i + 4)) (lv' := [(4, .int (zz_i (i + 4))), (0, .ref (b)), (1, .ref (ga 0)), (2, .ref (gr 0)), (3, .ref (o))]) hx hb dL_law_1044 a6 (k := 4) rfl (zz_add _ _) (by decide) rfl (fun ls hl => ?_)
        refine lv_goto (tgt := 43) hx hb dL_law_1047 (by decide) ?_
        refine W.widen (k := 100 + 5 * (i + 4).toNat) (n := 5000 + 50 * (i + 4).toNat) (by omega) (by omega) ?_
        exact ih (i + 4) ad' g' σ' k' H' locs' ls (by omega) (by omega) (by omega) a1 (by omega) a3 a4 a5 (lv_sub hl [1, 2, 3, 4, 0] rfl)
      have hi4 : 2 ≤ i ∧ i + 4 ≤ L := by omega
      have hs4 : σ 2 0 ≤ 99999900 := by omega
      have hf4 : 100 + 5 * i.toNat + 20 ≤ 601024 ∧ 5000 + 50 * i.toNat + 200 ≤ 7293000 := by omega
      refine lv_aload_n hx hb dL_law_52 rfl (lv_at hl 0 rfl) ?_
      refine lv_iload hx hb dL_law_53 (lv_at hl 4 rfl) ?_
      refine zz_sld hx hb hX hbl hbA hS (show 0 ≤ i ∧ i < (L : Int) by omega) (by omega) dL_law_55 ?_
      refine lv_bipush (v := 15) hx hb dL_law_56 (by decide) ?_
      refine lv_iand hx hb dL_law_58 ?_
      obtain ⟨v, hv, ev⟩ := zz_an (zz_i (xs i.toNat).toInt)
      rw [ev]
      rcases (show v = 0 ∨ v = 1 ∨ v = 2 ∨ v = 3 ∨ v = 4 ∨ v = 5 ∨ v = 6 ∨ v = 7 ∨ v = 8 ∨ v = 9 ∨ v = 10 ∨ v = 11 ∨ v = 12 ∨ v = 13 ∨ v = 14 ∨ v = 15 by omega) with cv | cv | cv | cv | cv | cv | cv | cv | cv | cv | cv | cv | cv | cv | cv | cv
      · refine lv_tableIn (off := 73) (tgt := 132) hx hb dL_law_59 (by rw [zz_toInt (by omega)]; omega) (by rw [zz_toInt (by omega)]; omega) (by rw [zz_toInt (by omega), cv]; rfl) (by decide) ?_
        exact w_0 hl9 hL C0 hK hE hi4 hI hs4 hP hD hS hl hf4 tl
      · refine lv_tableIn (off := 129) (tgt := 188) hx hb dL_law_59 (by rw [zz_toInt (by omega)]; omega) (by rw [zz_toInt (by omega)]; omega) (by rw [zz_toInt (by omega), cv]; rfl) (by decide) ?_
        exact w_1 hl9 hL C0 hK hE hi4 hI hs4 hP hD hS hl hf4 tl
      · refine lv_tableIn (off := 209) (tgt := 268) hx hb dL_law_59 (by rw [zz_toInt (by omega)]; omega) (by rw [zz_toInt (by omega)]; omega) (by rw [zz_toInt (by omega), cv]; rfl) (by decide) ?_
        exact w_2 hl9 hL C0 hK hE hi4 hI hs4 hP hD hS hl hf4 tl
      · refine lv_tableIn (off := 265) (tgt := 324) hx hb dL_law_59 (by rw [zz_toInt (by omega)]; omega) (by rw [zz_toInt (by omega)]; omega) (by rw [zz_toInt (by omega), cv]; rfl) (by decide) ?_
        exact w_3 hl9 hL C0 hK hE hi4 hI hs4 hP hD hS hl hf4 tl
      · refine lv_tableIn (off := 325) (tgt := 384) hx hb dL_law_59 (by rw [zz_toInt (by omega)]; omega) (by rw [zz_toInt (by omega)]; omega) (by rw [zz_toInt (by omega), cv]; rfl) (by decide) ?_
        exact w_4 hl9 hL C0 hK hE hi4 hI hs4 hP hD hS hl hf4 tl
      · refine lv_tableIn (off := 381) (tgt := 440) hx hb dL_law_59 (by rw [zz_toInt (by omega)]; omega) (by rw [zz_toInt (by omega)]; omega) (by rw [zz_toInt (by omega), cv]; rfl) (by decide) ?_
        exact w_5 hl9 hL C0 hK hE hi4 hI hs4 hP hD hS hl hf4 tl
      · refine lv_tableIn (off := 449) (tgt := 508) hx hb dL_law_59 (by rw [zz_toInt (by omega)]; omega) (by rw [zz_toInt (by omega)]; omega) (by rw [zz_toInt (by omega), cv]; rfl) (by decide) ?_
        exact w_6 hl9 hL C0 hK hE hi4 hI hs4 hP hD hS hl hf4 tl
      · refine lv_tableIn (off := 540) (tgt := 599) hx hb dL_law_59 (by rw [zz_toInt (by omega)]; omega) (by rw [zz_toInt (by omega)]; omega) (by rw [zz_toInt (by omega), cv]; rfl) (by decide) ?_
        exact w_7 hl9 hL C0 hK hE hi4 hI hs4 hP hD hS hl hf4 tl
      · refine lv_tableIn (off := 608) (tgt := 667) hx hb dL_law_59 (by rw [zz_toInt (by omega)]; omega) (by rw [zz_toInt (by omega)]; omega) (by rw [zz_toInt (by omega), cv]; rfl) (by decide) ?_
        exact w_8 hl9 hL C0 hK hE hi4 hI hs4 hP hD hS hl hf4 tl
      · refine lv_tableIn (off := 633) (tgt := 692) hx hb dL_law_59 (by rw [zz_toInt (by omega)]; omega) (by rw [zz_toInt (by omega)]; omega) (by rw [zz_toInt (by omega), cv]; rfl) (by decide) ?_
        exact w_9 hl9 hL C0 hK hE hi4 hI hs4 hP hD hS hl hf4 tl
      · refine lv_tableIn (off := 717) (tgt := 776) hx hb dL_law_59 (by rw [zz_toInt (by omega)]; omega) (by rw [zz_toInt (by omega)]; omega) (by rw [zz_toInt (by omega), cv]; rfl) (by decide) ?_
        exact w_10 hl9 hL C0 hK hE hi4 hI hs4 hP hD hS hl hf4 tl
      · refine lv_tableIn (off := 761) (tgt := 820) hx hb dL_law_59 (by rw [zz_toInt (by omega)]; omega) (by rw [zz_toInt (by omega)]; omega) (by rw [zz_toInt (by omega), cv]; rfl) (by decide) ?_
        exact w_11 hl9 hL C0 hK hE hi4 hI hs4 hP hD hS hl hf4 tl
      · refine lv_tableIn (off := 836) (tgt := 895) hx hb dL_law_59 (by rw [zz_toInt (by omega)]; omega) (by rw [zz_toInt (by omega)]; omega) (by rw [zz_toInt (by omega), cv]; rfl) (by decide) ?_
        exact w_12 hl9 hL C0 hK hE hi4 hI hs4 hP hD hS hl hf4 tl
      · refine lv_tableIn (off := 892) (tgt := 951) hx hb dL_law_59 (by rw [zz_toInt (by omega)]; omega) (by rw [zz_toInt (by omega)]; omega) (by rw [zz_toInt (by omega), cv]; rfl) (by decide) ?_
        exact w_13 hl9 hL C0 hK hE hi4 hI hs4 hP hD hS hl hf4 tl
      · refine lv_tableIn (off := 960) (tgt := 1019) hx hb dL_law_59 (by rw [zz_toInt (by omega)]; omega) (by rw [zz_toInt (by omega)]; omega) (by rw [zz_toInt (by omega), cv]; rfl) (by decide) ?_
        exact w_14 hl9 hL C0 hK hE hi4 hI hs4 hP hD hS hl hf4 tl
      · refine lv_tableOut (tgt := 1044) hx hb dL_law_59 (by rw [zz_toInt (by omega)]; omega) (by decide) ?_
        refine W.widen (k := 100 + 5 * i.toNat + 20) (n := 5000 + 50 * i.toNat + 200) (by omega) (by omega) ?_
        exact tl σ kc ad g H locs ls hI (by omega) hP hD hS hl
theorem ar_of {s : State} {args : Array Value} {ty : FieldType} (h : (Cond.arrayClass ty).before args s = true) (hty : ∀ C, ty ≠ .object C) : ∃ c : ClassId, ArrOfT s c ty ∧ va_RA s c ty := by
  obtain ⟨c, k, comp, h1, h2, h3⟩ := Cond.arrayClass_spec h
  refine ⟨c, fun n z => ⟨fun k h => (by cases h), k, h2, comp, h3⟩, ?_⟩
  cases ty with
  | object C => exact absurd rfl (hty C)
  | _ => exact h1
theorem ao_of {s : State} {C : String} (h : va_AO C s) : ∃ c : ClassId, ArrOfT s c (.object C) ∧ va_RA s c (.object C) := by
  obtain ⟨comp, c, k, h1, h2, h3, h4, h5⟩ := Cond.arrayOver_spec h
  exact ⟨c, fun n z => ⟨fun k h => (by cases h), k, h3, comp, h4⟩, k, comp, h3, h4, h1, h5⟩
theorem vk_st {s : State} {args : Array Value} {own tx : String} {k : Nat} {cur : ClassId} (hc : s.vm.findClass own = some cur) (h : (Cond.stringRef own k tx).before args s = true) : ∃ a, vk_R own k tx a s := by
  obtain ⟨-, -, -, a, -, -, -, -, -, hev⟩ := Cond.stringRef_spec hc h
  exact ⟨a, vk_R.of h hev⟩
set_option maxHeartbeats 4000000 in
set_option maxRecDepth 100000 in
/-- THE LAW, from its entry -/
theorem whole_start {p : Program} {e : Env} {s : State} {m : MethodId} {below : List Frame} {meth : Method} {c : Code} (l : Launch) (hl9 : l.stackTraces = false) {b L : Nat} {xs : Nat → Int32} (hL : L ≤ 2050) (C0 : lw_At p s m meth c b L xs) : W p l e room_1 s m #[Value.ref b] below meth c s.heap [] 0 0 (lw_Z below #[Value.ref b] s) (entryFrame m ([Value.ref b] : List Value).toArray 7) := by
  obtain ⟨hx, hb, hr, hml, hown, hts, hX, hbl, hlocks, hgv⟩ := id C0
  have htl : ∀ w ∈ wsL_law, w.before #[Value.ref b] s = true := fun w h => hts w (wsL_law_in w h)
  have hfl := flat_of_before _ hgv
  have hA : ∀ q : Nat, s.heap.size ≤ q → (fun q : Nat => s.heap.size ≤ q) q := fun _ h => h
  have hbA : ¬ (fun q : Nat => s.heap.size ≤ q) b := Nat.not_le.mpr hbl
  obtain ⟨c0, iS0, hKn0⟩ := u_known (C := RX0) (T := TX0) (N := 12) (n := 12) hts inX0 (hts (.instantiable RX0 12) (by decide +kernel))
  obtain ⟨c1, iS1, hKn1⟩ := u_known (C := RX1) (T := TX1) (N := 2) (n := 2) hts inX1 (hts (.instantiable RX1 2) (by decide +kernel))
  obtain ⟨c2, iS2, hKn2⟩ := u_known (C := RX2) (T := TX2) (N := 10) (n := 10) hts inX2 (hts (.instantiable RX2 10) (by decide +kernel))
  obtain ⟨c3, iS3, hKn3⟩ := u_known (C := RX3) (T := TX3) (N := 23) (n := 23) hts inX3 (hts (.instantiable RX3 23) (by decide +kernel))
  obtain ⟨D, hKc⟩ : ∃ D : va_G, ∀ (k : Nat) (q : vw_C), zz_cl[k]? = some q → u_Kn s q.1 q.2.1 q.2.2 (D.1 k) (D.2 k) := by
    refine ⟨(fun k => match k with | 0 => c0 | 1 => c1 | 2 => c2 | _ => c3, fun k => match k with | 0 => iS0 | 1 => iS1 | 2 => iS2 | _ => iS3), ?_⟩
    intro k q hq
    match k, hq with
    | 0, hq => cases hq; exact hKn0
    | 1, hq => cases hq; exact hKn1
    | 2, hq => cases hq; exact hKn2
    | 3, hq => cases hq; exact hKn3
    | k + 4, hq => simp [zz_cl] at hq
  have hao : va_AO RX0 s := va_AO.of (hts (.arrayOver (.object RX0)) (by decide +kernel))
  obtain ⟨y0, hy0⟩ := ar_of (hts (.arrayClass .int) (by decide +kernel)) (fun C h => by cases h)
  obtain ⟨y1, hy1⟩ := ar_of (hts (.arrayClass .boolean) (by decide +kernel)) (fun C h => by cases h)
  obtain ⟨y2, hy2⟩ := ao_of hao
  obtain ⟨y3, hy3⟩ := ar_of (hts (.arrayClass .long) (by decide +kernel)) (fun C h => by cases h)
  obtain ⟨cy, hyK⟩ : ∃ cy : Nat → Nat, ∀ (k : Nat) (q : ClassId × FieldType), (zz_ty cy)[k]? = some q → ArrOfT s q.1 q.2 ∧ va_RA s q.1 q.2 := by
    refine ⟨fun k => match k with | 0 => y0 | 1 => y1 | 2 => y2 | _ => y3, ?_⟩
    intro k q hq
    match k, hq with
    | 0, hq => cases hq; exact hy0
    | 1, hq => cases hq; exact hy1
    | 2, hq => cases hq; exact hy2
    | 3, hq => cases hq; exact hy3
    | k + 4, hq => simp [zz_ty] at hq
  have hK : va_K D zz_cl (zz_ty cy) s := ⟨hKc, hyK⟩
  have hE : ev_ok (fun q : Nat => s.heap.size ≤ q) s := ⟨vx_Zqof (hts (.laysStatic Bundle.tN "UNASSIGNED_STACK" Bundle.steD) (by decide +kernel)) (hts (.initialized Bundle.tN) (by decide +kernel)) (hfl (.isRef (.static Bundle.tN "UNASSIGNED_STACK" Bundle.steD)) (by decide +kernel)) (fun a h => Nat.not_le.mpr h), vx_Zqof (hts (.laysStatic Bundle.tN "SUPPRESSED_SENTINEL" Bundle.listD) (by decide +kernel)) (hts (.initialized Bundle.tN) (by decide +kernel)) (hfl (.isRef (.static Bundle.tN "SUPPRESSED_SENTINEL" Bundle.listD)) (by decide +kernel)) (fun a h => Nat.not_le.mpr h),
    fun w hw => va_Nw.of (ev_ot w hw) (hts w (ev_ws_in w hw)), fun q hq => vk_st hKn2.2.1 (hts _ (ev_st_in q hq)), va_Nc.of (hfl (.not (.castable "java/lang/IllegalStateException" "java/lang/IllegalArgumentException")) (by decide +kernel)), va_Nc.of (hfl (.not (.castable "java/lang/UnsupportedOperationException" "java/lang/IllegalArgumentException")) (by decide +kernel)), hao⟩
  have hS : va_S (fun q : Nat => s.heap.size ≤ q) s.heap s.heap [] := va_S.rf
  have hP : va_P D zz_cl [] s.heap := fun k q h => by simp at h
  have hD : va_D (fun q : Nat => s.heap.size ≤ q) [] := ⟨fun i j p q h => by simp at h, fun k q h => by simp at h⟩
  have hl := lv_entry ([.ref b]) (n := 7) (Nat.le_of_ble_eq_true rfl)
  rw [lg_entry_eq]
  generalize (lg_sl ([.ref b]) ++ List.replicate (7 - (lg_sl ([.ref b])).length) Slot.unset).toArray = ls at hl ⊢
  have hl : lv_has ls 7 [(0, .ref b)] := hl
  refine va_new (ci := 2) (fs := [.null, .null, .null, .null, .null, .int (zz_i 0), .int (zz_i 0), .int (zz_i 0), .int (zz_i 0), .int (zz_i 0)]) (C := RX2) (T := TX2) (N := 10) hx hb hts inX2 tyX2 tyX2_ok hown (hts (.classLink RL 8 RX2) (by decide +kernel)) (hts (.instantiable RX2 10) (by decide +kernel)) (hts (.initialized RX2) (by decide +kernel)) hK hP hD hS hA rfl (fun j hj => by rcases (show j = 0 ∨ j = 1 ∨ j = 2 ∨ j = 3 ∨ j = 4 ∨ j = 5 ∨ j = 6 ∨ j = 7 ∨ j = 8 ∨ j = 9 by omega) with rfl | rfl | rfl | rfl | rfl | rfl | rfl | rfl | rfl | rfl <;> rfl) (Nat.le_of_ble_eq_true rfl) (Nat.le_of_ble_eq_true rfl) dL_law_0 (fun q H hP hD hS => ?_)
  have hP : va_P D zz_cl ([(q, .inr (2, [.null, .null, .null, .null, .null, .int (zz_i 0), .int (zz_i 0), .int (zz_i 0), .int (zz_i 0), .int (zz_i 0)]))] ++ []) H := hP
  have hD : va_D (fun q : Nat => s.heap.size ≤ q) ([(q, .inr (2, [.null, .null, .null, .null, .null, .int (zz_i 0), .int (zz_i 0), .int (zz_i 0), .int (zz_i 0), .int (zz_i 0)]))] ++ []) := hD
  refine lv_dup hx hb dL_law_3 rfl ?_
  refine lv_aload_n hx hb dL_law_4 rfl (lv_at hl 0 rfl) ?_
  refine lv_iconst (v := zz_i (0)) hx hb dL_law_5 rfl ?_
  refine z_cell (k := 0) (rest := [.ref q, .ref q]) (by omega) (by omega) ⟨hx, hb, hml, hown, htl⟩ (va_cwS 2 htl gL_law_L_cell rfl rfl rfl (by decide +kernel) ⟨(Nat.le_of_ble_eq_true rfl), (Nat.le_of_ble_eq_true rfl)⟩) hX hbl hbA hS hl.1 rfl (Nat.le_of_ble_eq_true rfl) dL_law_6 ⟨(Nat.le_of_ble_eq_true rfl), (Nat.le_of_ble_eq_true rfl)⟩ (fun locs hS => ?_)
  refine lv_aload_n hx hb dL_law_9 rfl (lv_at hl 0 rfl) ?_
  refine lv_iconst (v := zz_i (1)) hx hb dL_law_10 rfl ?_
  refine z_cell (k := 1) (rest := [.int (zz_i (sc_ xs L 0)), .ref q, .ref q]) (by omega) (by omega) ⟨hx, hb, hml, hown, htl⟩ (va_cwS 2 htl gL_law_L_cell rfl rfl rfl (by decide +kernel) ⟨(Nat.le_of_ble_eq_true rfl), (Nat.le_of_ble_eq_true rfl)⟩) hX hbl hbA hS hl.1 rfl (Nat.le_of_ble_eq_true rfl) dL_law_11 ⟨(Nat.le_of_ble_eq_true rfl), (Nat.le_of_ble_eq_true rfl)⟩ (fun locs hS => ?_)
  refine zf_i (wc := [(q, .inr (2, [.null, .null, .null, .null, .null, .int (zz_i 0), .int (zz_i 0), .int (zz_i 0), .int (zz_i 0), .int (zz_i 0)]))]) (wr := []) (As := [.int (zz_i (sc_ xs L 0)), .int (zz_i (sc_ xs L 1))]) (rest := [.ref q]) (S := Nat → Nat) (pc := 14) ⟨hx, hb, hml, hown, htl⟩ (c_X2_init l D cy q _ (fun _ => 0) (sc_ xs L 0) (sc_ xs L 1) (sc_b xs L 0) (sc_b xs L 1)) (cwI 2 htl gL_law_X2_init rfl rfl rfl (hts (.initialized RX2) (by decide +kernel)) (hts (.methodLink RL 70 yX2_init) (by decide +kernel)) (hts (.instanceMethod yX2_init) (by decide +kernel)) rfl (by decide +kernel) ⟨(Nat.le_of_ble_eq_true rfl), (Nat.le_of_ble_eq_true rfl)⟩) hK hP hD hS hA hE rfl hl.1 rfl (Nat.le_of_ble_eq_true rfl) dL_law_14 ⟨(Nat.le_of_ble_eq_true rfl), (Nat.le_of_ble_eq_true rfl)⟩ (fun ga H locs hu hP2 hD2 hS => ?_)
  have hu : ga 0 = q := hu
  clear hP hD
  subst hu
  have hP : va_P D zz_cl (cw_ cy ga (fun _ => 0) (s_0 (sc_ xs L 0) (sc_ xs L 1))) H := by rw [← List.append_nil (cw_ cy ga (fun _ => 0) (s_0 (sc_ xs L 0) (sc_ xs L 1)))]; exact hP2
  have hD : va_D (fun q : Nat => s.heap.size ≤ q) (cw_ cy ga (fun _ => 0) (s_0 (sc_ xs L 0) (sc_ xs L 1))) := by rw [← List.append_nil (cw_ cy ga (fun _ => 0) (s_0 (sc_ xs L 0) (sc_ xs L 1)))]; exact hD2
  clear hP2 hD2
  refine W.eq (g2 := F0 m 17 ls [.ref (ga 0)]) rfl ?_
  refine lv_astore_n (lv' := [(1, .ref (ga 0)), (0, .ref b)]) hx hb dL_law_17 rfl hl (by decide) rfl (fun ls hl => ?_)
  refine va_new (ci := 3) (fs := [.int (zz_i 0), .int (zz_i 0), .int (zz_i 0), .int (zz_i 0), .int (zz_i 0), .null, .null, .int (zz_i 0), .null, .null, .null, .null, .null, .null, .int (zz_i 0), .null, .null, .null, .null, .int (zz_i 0), .int (zz_i 0), .null, .null]) (C := RX3) (T := TX3) (N := 23) hx hb hts inX3 tyX3 tyX3_ok hown (hts (.classLink RL 73 RX3) (by decide +kernel)) (hts (.instantiable RX3 23) (by decide +kernel)) (hts (.initialized RX3) (by decide +kernel)) hK hP hD hS hA rfl (fun j hj => by rcases (show j = 0 ∨ j = 1 ∨ j = 2 ∨ j = 3 ∨ j = 4 ∨ j = 5 ∨ j = 6 ∨ j = 7 ∨ j = 8 ∨ j = 9 ∨ j = 10 ∨ j = 11 ∨ j = 12 ∨ j = 13 ∨ j = 14 ∨ j = 15 ∨ j = 16 ∨ j = 17 ∨ j = 18 ∨ j = 19 ∨ j = 20 ∨ j = 21 ∨ j = 22 by omega) with rfl | rfl | rfl | rfl | rfl | rfl | rfl | rfl | rfl | rfl | rfl | rfl | rfl | rfl | rfl | rfl | rfl | rfl | rfl | rfl | rfl | rfl | rfl <;> rfl) (Nat.le_of_ble_eq_true rfl) (Nat.le_of_ble_eq_true rfl) dL_law_18 (fun q H hP hD hS => ?_)
  have hP := fr_Pc (a := cw_ cy ga (fun _ => 0) (s_0 (sc_ xs L 0) (sc_ xs L 1))) (b := [(q, .inr (3, [.int (zz_i 0), .int (zz_i 0), .int (zz_i 0), .int (zz_i 0), .int (zz_i 0), .null, .null, .int (zz_i 0), .null, .null, .null, .null, .null, .null, .int (zz_i 0), .null, .null, .null, .null, .int (zz_i 0), .int (zz_i 0), .null, .null]))]) hP
  have hD := fr_Dc (a := cw_ cy ga (fun _ => 0) (s_0 (sc_ xs L 0) (sc_ xs L 1))) (b := [(q, .inr (3, [.int (zz_i 0), .int (zz_i 0), .int (zz_i 0), .int (zz_i 0), .int (zz_i 0), .null, .null, .int (zz_i 0), .null, .null, .null, .null, .null, .null, .int (zz_i 0), .null, .null, .null, .null, .int (zz_i 0), .int (zz_i 0), .null, .null]))]) hD
  refine lv_dup hx hb dL_law_21 rfl ?_
  refine lv_aload_n hx hb dL_law_22 rfl (lv_at hl 1 rfl) ?_
  refine lv_iconst (v := zz_i (0)) hx hb dL_law_23 rfl ?_
  refine z_cell (k := 0) (rest := [.ref q, .ref q]) (by omega) (by omega) ⟨hx, hb, hml, hown, htl⟩ (va_cwS 2 htl gL_law_L_cell rfl rfl rfl (by decide +kernel) ⟨(Nat.le_of_ble_eq_true rfl), (Nat.le_of_ble_eq_true rfl)⟩) hX hbl hbA hS hl.1 rfl (Nat.le_of_ble_eq_true rfl) dL_law_24 ⟨(Nat.le_of_ble_eq_true rfl), (Nat.le_of_ble_eq_true rfl)⟩ (fun locs hS => ?_)
  refine lv_aload_n hx hb dL_law_27 rfl (lv_at hl 1 rfl) ?_
  refine lv_iconst (v := zz_i (1)) hx hb dL_law_28 rfl ?_
  refine z_cell (k := 1) (rest := [.int (zz_i (sc_ xs L 0)), .ref q, .ref q]) (by omega) (by omega) ⟨hx, hb, hml, hown, htl⟩ (va_cwS 2 htl gL_law_L_cell rfl rfl rfl (by decide +kernel) ⟨(Nat.le_of_ble_eq_true rfl), (Nat.le_of_ble_eq_true rfl)⟩) hX hbl hbA hS hl.1 rfl (Nat.le_of_ble_eq_true rfl) dL_law_29 ⟨(Nat.le_of_ble_eq_true rfl), (Nat.le_of_ble_eq_true rfl)⟩ (fun locs hS => ?_)
  refine zf_i (wc := [(q, .inr (3, [.int (zz_i 0), .int (zz_i 0), .int (zz_i 0), .int (zz_i 0), .int (zz_i 0), .null, .null, .int (zz_i 0), .null, .null, .null, .null, .null, .null, .int (zz_i 0), .null, .null, .null, .null, .int (zz_i 0), .int (zz_i 0), .null, .null]))]) (wr := cw_ cy ga (fun _ => 0) (s_0 (sc_ xs L 0) (sc_ xs L 1))) (As := [.int (zz_i (sc_ xs L 0)), .int (zz_i (sc_ xs L 1))]) (rest := [.ref q]) (S := Nat → Nat) (pc := 32) ⟨hx, hb, hml, hown, htl⟩ (c_X3_init l D cy q _ (sc_ xs L 0) (sc_ xs L 1) (sc_b xs L 0) (sc_b xs L 1)) (cwI 2 htl gL_law_X3_init rfl rfl rfl (hts (.initialized RX3) (by decide +kernel)) (hts (.methodLink RL 75 yX3_init) (by decide +kernel)) (hts (.instanceMethod yX3_init) (by decide +kernel)) rfl (by decide +kernel) ⟨(Nat.le_of_ble_eq_true rfl), (Nat.le_of_ble_eq_true rfl)⟩) hK hP hD hS hA hE rfl hl.1 rfl (Nat.le_of_ble_eq_true rfl) dL_law_32 ⟨(Nat.le_of_ble_eq_true rfl), (Nat.le_of_ble_eq_true rfl)⟩ (fun gr H locs hu hP2 hD2 hS => ?_)
  have hu : gr 0 = q := hu
  clear hP hD
  subst hu
  have hP := hP2
  have hD := hD2
  clear hP2 hD2
  refine W.eq (g2 := F0 m 35 ls [.ref (gr 0)]) rfl ?_
  refine lv_astore_n (lv' := [(2, .ref (gr 0)), (1, .ref (ga 0)), (0, .ref b)]) hx hb dL_law_35 rfl hl (by decide) rfl (fun ls hl => ?_)
  refine lv_iconst (v := zz_i (1)) hx hb dL_law_36 rfl ?_
  refine va_newa (atype := .long) (N' := 1) (a0 := (1, .inr (.inl (fun _ => 0)))) (ty := .long) (n := zz_i (1)) hx hb (hts (.arrayClass .long) (by decide +kernel)) rfl hK hP hD hS hA (fun _ => rfl) (by decide) rfl (by decide) (by exact (Nat.le_of_ble_eq_true rfl)) (by exact (Nat.le_of_ble_eq_true rfl)) dL_law_37 (fun o cA H hK5 hP hD hS => ?_)
  obtain rfl := ka_l hK5
  have hP : va_P D zz_cl (rk_ cy gr 0 (s_0 (sc_ xs L 0) (sc_ xs L 1)) ++ (cw_ cy ga (fun _ => 0) (s_0 (sc_ xs L 0) (sc_ xs L 1)) ++ ow_ cy o (fun _ => 0))) H := by rw [← List.append_assoc]; exact hP
  have hD : va_D (fun q : Nat => s.heap.size ≤ q) (rk_ cy gr 0 (s_0 (sc_ xs L 0) (sc_ xs L 1)) ++ (cw_ cy ga (fun _ => 0) (s_0 (sc_ xs L 0) (sc_ xs L 1)) ++ ow_ cy o (fun _ => 0))) := by rw [← List.append_assoc]; exact hD
  have hP := fr_Pc (a := rk_ cy gr 0 (s_0 (sc_ xs L 0) (sc_ xs L 1))) (b := cw_ cy ga (fun _ => 0) (s_0 (sc_ xs L 0) (sc_ xs L 1)) ++ ow_ cy o (fun _ => 0)) hP
  have hD := fr_Dc (a := rk_ cy gr 0 (s_0 (sc_ xs L 0) (sc_ xs L 1))) (b := cw_ cy ga (fun _ => 0) (s_0 (sc_ xs L 0) (sc_ xs L 1)) ++ ow_ cy o (fun _ => 0)) hD
  refine lv_astore_n (lv' := [(3, .ref o), (2, .ref (gr 0)), (1, .ref (ga 0)), (0, .ref b)]) hx hb dL_law_39 rfl hl (by decide) rfl (fun ls hl => ?_)
  refine lv_iconst (v := zz_i (2)) hx hb dL_law_40 rfl ?_
  refine lv_istore (lv' := [(4, .int (zz_i 2)), (3, .ref o), (2, .ref (gr 0)), (1, .ref (ga 0)), (0, .ref b)]) hx hb dL_law_41 hl (by decide) rfl (fun ls hl => ?_)
  refine W.widen (k := 100 + 5 * (2 : Int).toNat) (n := 5000 + 50 * (2 : Int).toNat) (Nat.le_of_ble_eq_true rfl) (Nat.le_of_ble_eq_true rfl) ?_
  exact law_loop hl9 hL C0 hK hE (L + 1) 2 (fun _ => 0) (fun _ => 0) (s_0 (sc_ xs L 0) (sc_ xs L 1)) 0 H locs ls (by omega) (by omega) (by omega) (pv_0 _ _) (show (0 : Int) ≤ 25 * 2 by omega) hP hD hS (lv_sub hl [4, 3, 2, 1, 0] rfl)
