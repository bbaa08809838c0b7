/-! rows for the law: its long cell, its helpers with exception tables, the script's ints -/
section LB
def ow_ (cy : Nat → Nat) (o : Nat) (g : Nat → Int64) : va_W := [(o, .inl (cy 3, 1, .inr (.inl g)))]
def lo_ (a : Int) : Int64 := (zz_i a).toInt64
theorem ow_at (a : va_W) (cy : Nat → Nat) (o : Nat) (g : Nat → Int64) : (a ++ ow_ cy o g)[a.length + 0]? = some (o, .inl (cy 3, 1, .inr (.inl g))) := fr_r rfl
theorem ow_set (a : va_W) (cy : Nat → Nat) (o : Nat) (g g' : Nat → Int64) : (a ++ ow_ cy o g).set (a.length + 0) (o, .inl (cy 3, 1, .inr (.inl g'))) = a ++ ow_ cy o g' := by
  rw [List.set_append_right _ _ (Nat.le_add_right _ _), Nat.add_sub_cancel_left]; rfl
theorem nx_0 {k : Int} {σ σ' : zz_S} (h : k = 0) : nx_ k σ σ' = σ' := if_pos h
theorem nx_n {k : Int} {σ σ' : zz_S} (h : k ≠ 0) : nx_ k σ σ' = σ := if_neg h
theorem an_0 {k v : Int} (h : k = 0) : an_ k v = v := if_pos h
theorem me_ofWH {l : Launch} {y : MethodName} {ws ws' : List Cond} {rm : Room} {Pc : Array Value → State → Prop} {Qc : Array Value → State → Outcome → State → Prop} {mc ms : Nat} {free : Addr → Prop} {cc : ByteArray} {maxL : Nat} {ret : Option FieldType} {hh : List (Nat × Nat × Nat × Nat)}
    (hy : plainName y.cls = true) (hw : ws = Cond.codeWith y cc maxL ret hh :: ws')
    (body : ∀ p e s m args below meth c s₁, BodyLoose p l y (headSpec ws rm) cc maxL ret e s m args below meth c s₁ → c.maxLocals = maxL → Pc args s →
      W p l e (headSpec ws rm).room s m args below meth c s.heap [] 0 0 (MQ below Qc args s mc ms free) (entryFrame m args maxL)) : Met l y ws rm Pc Qc mc ms free := by
  refine MetFree.of_bodyS (code := cc) (maxLocals := maxL) (ret := ret) hy ?_ ?_
  · intro args s m h hn
    obtain ⟨m9, meth, c, hn9, h1, h2, h3, h4, -, h5, h6, -⟩ := Cond.codeWith_spec (atoms_spec (ws := ws) h _ (by rw [hw]; exact List.mem_cons_self))
    cases hn.symm.trans hn9
    exact ⟨meth, c, h1, h2, h3, h4, h5, h6⟩
  · intro p e s m args below meth c s₁ B hml hP _
    have hh0 : s₁.heap = s.heap := by rw [B.state]; rfl
    obtain ⟨t, a1, o, b1, b2, b3⟩ := body p e s m args below meth c s₁ B hml hP s₁ hh0 (Stand.of_body B)
    exact ⟨t, o, a1, b1, b2, b3⟩
variable {p : Program} {l : Launch} {e : Env} {R : Room} {s : State} {m : MethodId} {args : Array Value} {below : List Frame} {meth : Method} {c : Code} {H : Heap} {locs : List Loc} {cells slots : Nat} {Q : State → Prop} {D : va_G} {cy : Nat → Nat} {A : Nat → Prop} {wc wr : va_W} {V : Option Value} {S : Type} {ok : S → Prop} {wd' : S → va_W}
variable {y : MethodName} {bytes cc : ByteArray} {maxL nL mc ms n index pc : Nat} {ret : Option FieldType} {ws : List Cond} {rm : Room} {Ts : List Cond} {own C : String} {b : Nat} {As rest st0 : List Value} {ls : Array Slot} {bad : Prop} {ex : String}
/-- a call on a part of the world, of a method that may throw -/
theorem zf_x (Sx : CallFix p m c cc nL s args Ts own) (hM : vx_Met l y ws rm (ct_P D cy (.ref b :: As) wc H.size) (ct_Q D cy wc H.size V ok wd') (ct_X D cy wc H.size bad ex) mc ms (va_A wc H.size)) (cw : CallW R s args own C index y bytes maxL ret ws rm mc ms n)
    (hK : va_K D zz_cl (zz_ty cy) s) (hP : va_P D zz_cl (wc ++ wr) H) (hD : va_D A (wc ++ wr)) (hS : va_S A s.heap H locs) (hA : ∀ q, s.heap.size ≤ q → A q) (hE : ev_ok A s) (hrc : ∃ cellB : Cell, H[b]? = some cellB ∧ cellB.vm.isStatics = false ∧ s.vm.findClass C = some cellB.cls)
    (hn : As.length = n) (hl : ls.size = nL) (hst : st0 = As.reverse ++ .ref b :: rest) (hR : (rest.map fun v => v.category).sum ≤ 8) (hdg : decode cc pc = .ok (.invokevirtual index, 3)) (hf : cells + mc ≤ R.cells ∧ slots + ms ≤ R.slots)
    (kx : bad → ∀ (ce : Cell) (q9 : Addr) (H1 : Heap) (locs1 : List Loc), va_P D zz_cl (wc ++ wr) H1 → va_D A (wc ++ wr) → va_S A s.heap H1 locs1 → H1[q9]? = some ce → ce.vm = .none → s.vm.findClass ex = some ce.cls → vx_W p l e R s m args below meth c H1 locs1 (cells + mc) (slots + ms) Q (F0 m pc ls rest) q9)
    (kk : ∀ (u : S) (H1 : Heap) (locs1 : List Loc), ok u → va_P D zz_cl (wd' u ++ wr) H1 → va_D A (wd' u ++ wr) → va_S A s.heap H1 locs1 → W p l e R s m args below meth c H1 locs1 (cells + mc) (slots + ms) Q (F0 m (pc + 3) ls (V.toList ++ rest))) : W p l e R s m args below meth c H locs cells slots Q (F0 m pc ls st0) := by
  have hr := vx_runV (g := F0 m pc ls st0) (H := H) (locs := locs) (cells := cells) (slots := slots) (below := below) (meth := meth) (e := e) (As := As) (rest := rest) Sx hM cw ⟨ct_blind, hrc, ct_pre (fr_Pl hP) hK (fr_Dl hD) hS hA hE⟩ rfl hn hl hst (lv_room hR) hdg hf
  intro T hT X
  have hfr := ct_fr (fr_Dl hD) hS hA
  rcases hr T hT X with ⟨v, st₀, t, T', L, h0, X', hL, e1, e2, hq, st⟩ | ⟨q, st₀, t, T', L, E, ce, h0, X', hL, e1, e2, hq, hce, hcv, hcl, st⟩
  · obtain ⟨hv, ⟨u, hu, hP1, hK1, hD1⟩, hF⟩ := hq
    have hv : v = V := Outcome.returned.inj hv
    subst hv
    obtain ⟨k1, k2, k3⟩ := vx_keep h0 e1 hS (fun q _ h => hfr q h) hfr hL hF
    obtain ⟨q1, q2⟩ := fr_join hP hD k2 hfr (by rw [e1]; exact hP1) hD1
    obtain ⟨t2, a1, b1⟩ := kk u T'.heap (locs ++ L) hu q1 q2 k3 T' rfl X'
    exact ⟨t2, st t2 a1, b1⟩
  · obtain ⟨rfl, hbad, ⟨hP1, hK1, hD1⟩, hF⟩ := hq
    obtain ⟨k1, k2, k3⟩ := vx_keep h0 e1 hS (fun q _ h => hfr q h) hfr hL hF
    obtain ⟨q1, q2⟩ := fr_join hP hD k2 hfr (by rw [e1]; exact hP1) hD1
    obtain ⟨t2, a1, b1⟩ := kx hbad ce q T'.heap (locs ++ L) q1 q2 k3 (by rw [e1]; exact hce) hcv hcl T' rfl X'
    exact ⟨t2, st.trans a1, b1⟩
/-- a static call, on a part of the world, of a method with an exception table -/
theorem zf_w {hh : List (Nat × Nat × Nat × Nat)} (Sx : CallFix p m c cc nL s args Ts own) (hM : Met l y ws rm (ct_P D cy As wc H.size) (ct_Q D cy wc H.size V ok wd') mc ms (va_A wc H.size)) (cw : vx_CSW R s args own index y bytes maxL ret hh ws rm mc ms n)
    (hK : va_K D zz_cl (zz_ty cy) s) (hP : va_P D zz_cl (wc ++ wr) H) (hD : va_D A (wc ++ wr)) (hS : va_S A s.heap H locs) (hA : ∀ q, s.heap.size ≤ q → A q) (hE : ev_ok A s)
    (hn : As.length = n) (hl : ls.size = nL) (hst : st0 = As.reverse ++ rest) (hR : (rest.map fun v => v.category).sum ≤ 8) (hdg : decode cc pc = .ok (.invokestatic index, 3)) (hf : cells + mc ≤ R.cells ∧ slots + ms ≤ R.slots)
    (kk : ∀ (u : S) (H1 : Heap) (locs1 : List Loc), ok u → va_P D zz_cl (wd' u ++ wr) H1 → va_D A (wd' u ++ wr) → va_S A s.heap H1 locs1 → W p l e R s m args below meth c H1 locs1 (cells + mc) (slots + ms) Q (F0 m (pc + 3) ls (V.toList ++ rest))) : W p l e R s m args below meth c H locs cells slots Q (F0 m pc ls st0) :=
  zf_back (vx_runSW (As := As) (rest := rest) Sx hM cw ⟨ct_blind, ct_pre (fr_Pl hP) hK (fr_Dl hD) hS hA hE⟩ rfl hn hl hst (lv_room hR) hdg hf) (fun _ _ _ h => h) hP hD hS hA kk
theorem zz_last (hx : p.tables.exec = Jvm.exec) (hb : c.code = cc) {o : Nat} {g : Nat → Int64} {v : Int64} {H0 : Heap} (hK : va_K D zz_cl (zz_ty cy) s) (hP : va_P D zz_cl (wc ++ ow_ cy o g) H) (hD : va_D A (wc ++ ow_ cy o g)) (hS : va_S A H0 H locs) (hdg : decode cc pc = .ok (.lastore, 1))
    (kk : ∀ (g' : Nat → Int64) (H1 : Heap) (locs1 : List Loc), g' 0 = v → va_P D zz_cl (wc ++ ow_ cy o g') H1 → va_D A (wc ++ ow_ cy o g') → va_S A H0 H1 locs1 → W p l e R s m args below meth c H1 locs1 cells slots Q (F0 m (pc + 1) ls rest)) : W p l e R s m args below meth c H locs cells slots Q (F0 m pc ls (.long v :: .int (zz_i 0) :: .ref o :: rest)) :=
  va_last hx hb hK hP hD hS _ 3 (ow_at wc cy o g) rfl (zz_in (n := 1) (show 0 ≤ (0 : Int) ∧ (0 : Int) < ((1 : Nat) : Int) by omega) (by omega)) hdg (fun H1 locs1 h1 h2 h3 => kk (vp_updL g (zz_i 0).toNatClampNeg v) H1 locs1 (by rw [zz_nat (a := 0) (by omega)]; simp [vp_updL]) (by rw [ow_set] at h1; exact h1) (by rw [ow_set] at h2; exact h2) h3)
theorem zz_lald (hx : p.tables.exec = Jvm.exec) (hb : c.code = cc) {o : Nat} {g : Nat → Int64} {w9 : va_W} (q0 : Nat) (hw : w9[q0]? = some (o, .inl (cy 3, 1, .inr (.inl g)))) (hK : va_K D zz_cl (zz_ty cy) s) (hP : va_P D zz_cl w9 H) (hdg : decode cc pc = .ok (.laload, 1))
    (kk : W p l e R s m args below meth c H locs cells slots Q (F0 m (pc + 1) ls (.long (g 0) :: rest))) : W p l e R s m args below meth c H locs cells slots Q (F0 m pc ls (.int (zz_i 0) :: .ref o :: rest)) :=
  va_lald hx hb hK hP q0 3 hw rfl (zz_in (n := 1) (show 0 ≤ (0 : Int) ∧ (0 : Int) < ((1 : Nat) : Int) by omega) (by omega)) hdg (by rw [zz_nat (a := 0) (by omega)]; exact kk)
theorem lv_lcmpE (hx : p.tables.exec = Jvm.exec) (hb : c.code = cc) {a b : Int64} (hab : a = b) (hdg : decode cc pc = .ok (.lcmp, 1)) (kk : W p l e R s m args below meth c H locs cells slots Q (F0 m (pc + 1) ls (.int (zz_i 0) :: rest))) : W p l e R s m args below meth c H locs cells slots Q (F0 m pc ls (.long b :: .long a :: rest)) := by
  subst hab
  intro T hT X
  obtain ⟨t, a1, b1⟩ := kk T hT X
  refine ⟨t, ?_, b1⟩
  jvm_step X.here [X.here.top, hx, hb, hdg]
  exact a1
/-- a script's int, as an integer -/
theorem zz_sld (hx : p.tables.exec = Jvm.exec) (hb : c.code = cc) {b9 L : Nat} {xs : Nat → Int32} {H0 : Heap} (hX : va_X b9 L xs s H0) (hbl : b9 < H0.size) (hbA : ¬ A b9) (hS : va_S A H0 H locs) {a : Int} (hi : 0 ≤ a ∧ a < L) (hn : L < 2147483648) (hdg : decode cc pc = .ok (.iaload, 1))
    (kk : W p l e R s m args below meth c H locs cells slots Q (F0 m (pc + 1) ls (.int (zz_i (xs a.toNat).toInt) :: rest))) : W p l e R s m args below meth c H locs cells slots Q (F0 m pc ls (.int (zz_i a) :: .ref b9 :: rest)) :=
  va_sld hx hb hX hbl hbA hS (zz_in hi hn) hdg (by rw [zz_nat (by omega), ← zz_self (xs a.toNat)]; exact kk)
theorem zz_an (x : Int32) : ∃ v : Int, (0 ≤ v ∧ v ≤ 15) ∧ x &&& 15 = zz_i v := by
  refine ⟨(x &&& 15).toInt, ?_, (zz_self _).symm⟩
  have h1 : (x &&& 15).toBitVec = x.toBitVec &&& 15#32 := Int32.toBitVec_and x 15
  have h2 : (x &&& 15).toBitVec.toNat ≤ 15 := by
    rw [h1, BitVec.toNat_and]; exact Nat.and_le_right
  have h3 : (x &&& 15).toInt = ((x &&& 15).toBitVec.toNat : Int) := by
    show (x &&& 15).toBitVec.toInt = _
    rw [BitVec.toInt_eq_toNat_of_lt (by omega)]
  omega
end LB
section CE
def sc_ (xs : Nat → Int32) (L : Nat) (k : Int) : Int := if k < L then (xs k.toNat).toInt else 0
theorem sc_b (xs : Nat → Int32) (L : Nat) (k : Int) : -2147483648 ≤ sc_ xs L k ∧ sc_ xs L k < 2147483648 := by
  unfold sc_; split
  · exact zz_bd _
  · omega
set_option maxHeartbeats 4000000 in
set_option maxRecDepth 100000 in
theorem h_cell (l : Launch) (b L : Nat) (xs : Nat → Int32) (hL : L < 2147483648) (k : Int) (hk : 0 ≤ k ∧ k < 2147483648) : Met l yL_cell wsL_cell ({ frames := 0, cells := 0, slots := 0, locals := 0 }) (va_Pc [.ref b, .int (zz_i k)] (fun U => va_X b L xs U U.heap ∧ b < U.heap.size)) (fun _ st o t => o = .returned (some (.int (zz_i (sc_ xs L k)))) ∧ t.heap = st.heap) 0 0 (fun _ => False) := by
  refine Met.ofW (cc := cL_cell) (maxL := 2) (ret := (some .int)) (by decide) rfl ?_
  intro p e s m args below meth c s₁ B hml hv
  obtain ⟨rfl, hX, hbl⟩ := hv
  have hx := B.exec
  have hb := B.bytes
  have hr := B.returns
  have hS : va_S (fun _ => False) s.heap s.heap [] := va_S.rf
  have hl := lv_entry ([.ref b, .int (zz_i k)]) (n := 2) (Nat.le_of_ble_eq_true rfl)
  rw [lg_entry_eq]
  generalize (lg_sl ([.ref b, .int (zz_i k)]) ++ List.replicate (2 - (lg_sl ([.ref b, .int (zz_i k)])).length) Slot.unset).toArray = ls at hl ⊢
  have hl : lv_has ls 2 [(0, .ref b), (1, .int (zz_i k))] := hl
  have hLn : Int32.ofNat L = zz_i (L : Int) := zz_len (a := (L : Int)) (by omega)
  refine lv_iload_n hx hb dL_cell_0 rfl (lv_at hl 1 rfl) ?_
  refine lv_aload_n hx hb dL_cell_1 rfl (lv_at hl 0 rfl) ?_
  refine va_slen hx hb hX hbl (fun h => h) hS dL_cell_2 ?_
  rw [hLn]
  refine zz_icmp_ge (tgt := 12) hx hb dL_cell_3 (by decide) (by omega) (by omega) (fun c1 => ?_) (fun c1 => ?_)
  · refine lv_iconst (v := zz_i (0)) hx hb dL_cell_12 rfl ?_
    have hv9 : sc_ xs L k = 0 := if_neg (by omega)
    exact W.iret (v := zz_i 0) hx hb hr (fun t ht hW => ⟨by rw [hv9], ht⟩) hS.2.2 dL_cell_13
  · refine lv_aload_n hx hb dL_cell_6 rfl (lv_at hl 0 rfl) ?_
    refine lv_iload_n hx hb dL_cell_7 rfl (lv_at hl 1 rfl) ?_
    refine zz_sld hx hb hX hbl (fun h => h) hS (show 0 ≤ k ∧ k < L by omega) hL dL_cell_8 ?_
    refine lv_goto (tgt := 13) hx hb dL_cell_9 (by decide) ?_
    have hv9 : sc_ xs L k = (xs k.toNat).toInt := if_pos (by omega)
    exact W.iret (v := zz_i (xs k.toNat).toInt) hx hb hr (fun t ht hW => ⟨by rw [hv9], ht⟩) hS.2.2 dL_cell_13
variable {p : Program} {l : Launch} {e : Env} {R : Room} {s : State} {m : MethodId} {args : Array Value} {below : List Frame} {meth : Method} {c : Code} {H : Heap} {locs : List Loc} {cells slots : Nat} {Q : State → Prop} {A : Nat → Prop} {cc : ByteArray} {nL index pc : Nat} {ret : Option FieldType} {Ts : List Cond} {own : String} {b L : Nat} {xs : Nat → Int32} {k : Int} {rest st0 : List Value} {ls : Array Slot}
theorem z_cell (hL : L < 2147483648) (hk : 0 ≤ k ∧ k < 2147483648) (Sx : CallFix p m c cc nL s args Ts own) (cw : CallB R s args own index yL_cell cL_cell 2 (some .int) wsL_cell ({ frames := 0, cells := 0, slots := 0, locals := 0 }) 0 0 2 ∧ (Cond.static yL_cell).before args s = true)
    (hX : va_X b L xs s s.heap) (hbl : b < s.heap.size) (hbA : ¬ A b) (hS : va_S A s.heap H locs) (hl : ls.size = nL) (hst : st0 = .int (zz_i k) :: .ref b :: rest) (hR : (rest.map fun v => v.category).sum ≤ 8) (hdg : decode cc pc = .ok (.invokestatic index, 3)) (hf : cells + 0 ≤ R.cells ∧ slots + 0 ≤ R.slots)
    (kk : ∀ locs1 : List Loc, va_S A s.heap H locs1 → W p l e R s m args below meth c H locs1 cells slots Q (F0 m (pc + 3) ls (.int (zz_i (sc_ xs L k)) :: rest))) : W p l e R s m args below meth c H locs cells slots Q (F0 m pc ls st0) := by
  have hr := va_runS (g := F0 m pc ls st0) (H := H) (locs := locs) (cells := cells) (slots := slots) (below := below) (meth := meth) (e := e) (As := [.ref b, .int (zz_i k)]) (rest := rest) Sx (h_cell l b L xs hL k hk) cw
    ⟨fun a U g mk q => ⟨q.1, va_X.moved (u := U) (U := U.calling g mk a) (Vm.Alike.refl U.vm) q.2.1, q.2.2⟩, fun U hU hW => ⟨rfl, by rw [hU]; exact (hX.kept (hS.2.1 b hbl hbA)).moved hW.alike, by rw [hU]; exact Nat.lt_of_lt_of_le hbl hS.1⟩⟩ rfl rfl hl hst (lv_room hR) hdg hf
  intro T hT X
  obtain ⟨v, st₀, t, T', L9, h0, X', hL9, e1, e2, hq, st⟩ := hr T hT X
  obtain ⟨hv, hh⟩ := hq
  have hv : v = some (.int (zz_i (sc_ xs L k))) := Outcome.returned.inj hv
  subst hv
  obtain ⟨t2, a1, b1⟩ := kk (locs ++ L9) ⟨hS.1, hS.2.1, fun q h => by
    rcases List.mem_append.mp h with h | h
    · exact hS.2.2 q h
    · exact (hL9 q h).elim⟩ T' (by rw [e1, hh, h0]) X'
  exact ⟨t2, st t2 a1, b1⟩
end CE
