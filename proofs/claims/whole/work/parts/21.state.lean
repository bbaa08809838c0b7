/-! the worlds: the class's cells, the reference's cells, what a call needs beside them -/
section ST
abbrev zz_cl : List vw_C := [(RX0, TX0, 12), (RX1, TX1, 2), (RX2, TX2, 10), (RX3, TX3, 23)]
abbrev zz_ty (cy : Nat → Nat) : List (ClassId × FieldType) := [(cy 0, .int), (cy 1, .boolean), (cy 2, .object RX0), (cy 3, .long)]
def aq_ (ad : Int → Nat) (i : Int) : Option Nat := if i = 0 then none else some (ad i)
theorem aq_0 (ad : Int → Nat) : aq_ ad 0 = none := rfl
theorem aq_n {ad : Int → Nat} {i : Int} (h : i ≠ 0) : aq_ ad i = some (ad i) := if_neg h
/-- an item's fields: number, length, state, code, rounds, tray, retries, code after them, doubted, found, left to, left at step -/
def it_v (σ : zz_S) (i : Int) : List Value := [.int (zz_i i), .int (zz_i (σ 12 i)), .int (zz_i (σ 13 i)), .int (zz_i (σ 14 i)), .int (zz_i (σ 15 i)), .int (zz_i (σ 18 i)), .int (zz_i (σ 16 i)), .int (zz_i (σ 17 i)), .int (zz_i (σ 19 i)), .int (zz_i (σ 20 i)), .int (zz_i (σ 21 i)), .int (zz_i (σ 22 i))]
def it_w (ad : Int → Nat) (σ : zz_S) : va_W := (List.range (σ 4 0).toNat).map (fun j : Nat => (ad ((j : Int) + 1), .inr (0, it_v σ ((j : Int) + 1))))
/-- the class's fixed cells -/
def cw_x (cy ga : Nat → Nat) (ad : Int → Nat) (σ : zz_S) : va_W := [
  (ga 0, .inr (2, [.ref (ga 1), .ref (ga 2), .ref (ga 3), .ref (ga 4), .ref (ga 5), .int (zz_i (σ 1 0)), .int (zz_i (σ 3 0)), .int (zz_i (σ 2 0)), .int (zz_i (σ 8 0)), .int (zz_i (σ 6 0))])),
  (ga 1, .inl (cy 2, (σ 0 0).toNat, .inr (.inr (.inr (.inr (fun j : Nat => aq_ ad (σ 10 j))))))),
  (ga 2, .inl (cy 1, (σ 28 0 + 1).toNat, .inl (fun j : Nat => zz_i (σ 11 j)))),
  (ga 3, .inr (1, [.ref (ga 6), .int (zz_i (σ 4 0))])),
  (ga 4, .inr (1, [.ref (ga 7), .int (zz_i (σ 5 0))])),
  (ga 5, .inr (1, [.ref (ga 8), .int (zz_i (σ 7 0))])),
  (ga 6, .inl (cy 2, 60, .inr (.inr (.inr (.inr (fun j : Nat => if (j : Int) < σ 4 0 then some (ad ((j : Int) + 1)) else none)))))),
  (ga 7, .inl (cy 2, 60, .inr (.inr (.inr (.inr (fun j : Nat => aq_ ad (σ 23 j))))))),
  (ga 8, .inl (cy 2, 40, .inr (.inr (.inr (.inr (fun j : Nat => aq_ ad (σ 27 j)))))))]
def cw_ (cy ga : Nat → Nat) (ad : Int → Nat) (σ : zz_S) : va_W := cw_x cy ga ad σ ++ it_w ad σ
/-- the reference's cells -/
def rw_ (cy gr : Nat → Nat) (σ : zz_S) : va_W := [
  (gr 0, .inr (3, [.int (zz_i (σ 9 0)), .int (zz_i (σ 0 0)), .int (zz_i (σ 1 0)), .int (zz_i (σ 2 0)), .int (zz_i (σ 3 0)), .ref (gr 1), .ref (gr 2), .int (zz_i (σ 4 0)), .ref (gr 3), .ref (gr 4), .ref (gr 5), .ref (gr 6), .ref (gr 7), .ref (gr 8), .int (zz_i (σ 5 0)), .ref (gr 9), .ref (gr 10), .ref (gr 11), .ref (gr 12), .int (zz_i (σ 6 0)), .int (zz_i (σ 7 0)), .ref (gr 13), .ref (gr 14)])),
  (gr 1, .inl (cy 0, 40, .inl (fun j : Nat => zz_i (σ 10 j)))),
  (gr 2, .inl (cy 1, 7, .inl (fun j : Nat => zz_i (σ 11 j)))),
  (gr 3, .inl (cy 0, 61, .inl (fun j : Nat => zz_i (σ 12 j)))),
  (gr 4, .inl (cy 0, 61, .inl (fun j : Nat => zz_i (σ 13 j)))),
  (gr 5, .inl (cy 0, 61, .inl (fun j : Nat => zz_i (σ 14 j)))),
  (gr 6, .inl (cy 0, 61, .inl (fun j : Nat => zz_i (σ 15 j)))),
  (gr 7, .inl (cy 0, 61, .inl (fun j : Nat => zz_i (σ 16 j)))),
  (gr 8, .inl (cy 0, 61, .inl (fun j : Nat => zz_i (σ 17 j)))),
  (gr 9, .inl (cy 0, 60, .inl (fun j : Nat => zz_i (σ 23 j)))),
  (gr 10, .inl (cy 0, 60, .inl (fun j : Nat => zz_i (σ 24 j)))),
  (gr 11, .inl (cy 0, 60, .inl (fun j : Nat => zz_i (σ 25 j)))),
  (gr 12, .inl (cy 0, 60, .inl (fun j : Nat => zz_i (σ 26 j)))),
  (gr 13, .inl (cy 0, 40, .inl (fun j : Nat => zz_i (σ 27 j)))),
  (gr 14, .inl (cy 1, 61, .inl (fun j : Nat => zz_i (σ 20 j))))]
def ev_ws : List Cond := [.castable "java/lang/IllegalArgumentException" "java/lang/IllegalArgumentException", .castable "java/lang/IllegalStateException" "java/lang/IllegalStateException", .castable "java/lang/UnsupportedOperationException" "java/lang/UnsupportedOperationException", .castable "java/lang/ArrayIndexOutOfBoundsException" "java/lang/ArrayIndexOutOfBoundsException",
  .declares ⟨"java/lang/RuntimeException", "<init>", "(Ljava/lang/String;)V"⟩, .declares ⟨"java/lang/Exception", "<init>", "(Ljava/lang/String;)V"⟩, .declares ⟨"java/lang/Throwable", "<init>", "(Ljava/lang/String;)V"⟩, .declares ⟨"java/lang/IndexOutOfBoundsException", "<init>", "(Ljava/lang/String;)V"⟩]
def ev_st : List (Nat × String) := [(59, "there are sixty items"), (84, "no such induct"), (101, "the tray is not empty"), (121, "no such number of retries"), (126, "the item is not on a tray"), (128, "the item has a code"), (136, "no such number of steps"), (144, "not so many items left their trays"), (155, "no such what"), (171, "no such positions"), (185, "the item is not doubted"), (193, "it is not jammed"), (201, "the item is neither manual nor lost"), (205, "no such tray"), (221, "no such item"), (223, "no such length"), (228, "no such chute"), (230, "no such code"), (232, "it is jammed"), (234, "the item is not new"), (236, "the item is longer than the trays")]
/-- what a throw needs, and a catch: the statics of Throwable, words of the tables, the texts -/
def ev_ok (A : Nat → Prop) (U : State) : Prop := vx_Zq Bundle.tN "UNASSIGNED_STACK" Bundle.steD A U U.heap ∧ vx_Zq Bundle.tN "SUPPRESSED_SENTINEL" Bundle.listD A U U.heap ∧ (∀ w ∈ ev_ws, va_Nw w U) ∧ (∀ q ∈ ev_st, ∃ a, vk_R RX2 q.1 q.2 a U) ∧ va_Nc "java/lang/IllegalStateException" "java/lang/IllegalArgumentException" U ∧ va_Nc "java/lang/UnsupportedOperationException" "java/lang/IllegalArgumentException" U ∧ va_AO RX0 U
theorem ev_warm {s U : State} (hW : s.WarmedH U.vm) (h : ∀ w ∈ ev_ws, va_Nw w s) : ∀ w ∈ ev_ws, va_Nw w U := by
  intro w hw
  have h1 := h w hw
  simp only [ev_ws, List.mem_cons, List.not_mem_nil, or_false] at hw
  rcases hw with rfl | rfl | rfl | rfl | rfl | rfl | rfl | rfl
  · exact va_Nw.warmC hW h1
  · exact va_Nw.warmC hW h1
  · exact va_Nw.warmC hW h1
  · exact va_Nw.warmC hW h1
  · exact va_Nw.warmD hW h1
  · exact va_Nw.warmD hW h1
  · exact va_Nw.warmD hW h1
  · exact va_Nw.warmD hW h1
theorem ev_call {A B : Nat → Prop} {s U : State} {H : Heap} {locs : List Loc} (h : ev_ok A s) (hS : va_S A s.heap H locs) (hU : U.heap = H) (hW : s.WarmedH U.vm) (hB : ∀ q, B q → A q) : ev_ok B U := by
  obtain ⟨h1, h2, h3, h4, h5, h6, h7⟩ := h
  refine ⟨?_, ?_, ev_warm hW h3, fun q hq => ?_, h5.moved hW.alike, h6.moved hW.alike, h7.moved hW.alike⟩
  · rw [hU]; exact vx_Zq.moved hW.alike (vx_Zq.narrow (h1.kept hS.2.1) hB)
  · rw [hU]; exact vx_Zq.moved hW.alike (vx_Zq.narrow (h2.kept hS.2.1) hB)
  · obtain ⟨a, ha⟩ := h4 q hq
    exact ⟨a, ha.warm hW⟩
theorem ev_blind {A : Nat → Prop} {U : State} {g : JFrame} {mk : MethodId} {a : Array Value} (h : ev_ok A U) : ev_ok A (U.calling g mk a) := by
  obtain ⟨h1, h2, h3, h4, h5, h6, h7⟩ := h
  refine ⟨vx_Zq.moved (u := U) (U := U.calling g mk a) (Vm.Alike.refl U.vm) h1, vx_Zq.moved (u := U) (U := U.calling g mk a) (Vm.Alike.refl U.vm) h2, ev_warm (s := U) (U := U.calling g mk a) (State.WarmedH.refl U) h3, fun q hq => ?_, h5.moved (u := U) (U := U.calling g mk a) (Vm.Alike.refl U.vm), h6.moved (u := U) (U := U.calling g mk a) (Vm.Alike.refl U.vm), h7.moved (u := U) (U := U.calling g mk a) (Vm.Alike.refl U.vm)⟩
  obtain ⟨b, hb⟩ := h4 q hq
  exact ⟨b, vk_R.same (u := U) rfl hb⟩
/-- a contract's start: the arguments, the world, the size of the heap -/
def ct_P (D : va_G) (cy : Nat → Nat) (av : List Value) (wd : va_W) (sz : Nat) : Array Value → State → Prop := va_Pc av (fun U => U.heap.size = sz ∧ va_P D zz_cl wd U.heap ∧ va_K D zz_cl (zz_ty cy) U ∧ va_D (fun _ => True) wd ∧ ev_ok (va_A wd sz) U)
def ct_B (D : va_G) (cy : Nat → Nat) (A : Nat → Prop) (wd : va_W) (t : State) : Prop := va_P D zz_cl wd t.heap ∧ va_K D zz_cl (zz_ty cy) t ∧ va_D A wd
/-- its end: what it answers, the world behind it -/
def ct_Q (D : va_G) (cy : Nat → Nat) (wd : va_W) (sz : Nat) (V : Option Value) {S : Type} (ok : S → Prop) (wd' : S → va_W) : Array Value → State → Outcome → State → Prop := fun _ st o t =>
  o = .returned V ∧ (∃ u : S, ok u ∧ ct_B D cy (va_A wd sz) (wd' u) t) ∧ va_F (va_A wd sz) st t
/-- its other end: what it throws, the world as it was -/
def ct_X (D : va_G) (cy : Nat → Nat) (wd : va_W) (sz : Nat) (bad : Prop) (ex : String) : String → State → State → Prop := fun E st t => E = ex ∧ bad ∧ ct_B D cy (va_A wd sz) wd t ∧ va_F (va_A wd sz) st t
theorem ct_blind {D : va_G} {cy : Nat → Nat} {av : List Value} {wd : va_W} {sz : Nat} : FrameBlind (ct_P D cy av wd sz) := by
  intro a U g mk q
  obtain ⟨q0, q1, qP, qK, qD, qE⟩ := q
  exact ⟨q0, q1, qP, va_K.moved (u := U) (U := U.calling g mk a) (Vm.Alike.refl U.vm) qK, qD, ev_blind qE⟩
theorem ct_fr {A : Nat → Prop} {wd : va_W} {H0 H : Heap} {locs : List Loc} (hD : va_D A wd) (hS : va_S A H0 H locs) (hA : ∀ q, H0.size ≤ q → A q) : ∀ q, va_A wd H.size q → A q := by
  intro q h
  rcases h with ⟨k, e, hk⟩ | h
  · exact hD.2 k _ hk
  · exact hA q (Nat.le_trans hS.1 h)
theorem ct_pre {D : va_G} {cy : Nat → Nat} {av : List Value} {wd : va_W} {A : Nat → Prop} {s : State} {H : Heap} {locs : List Loc} (hP : va_P D zz_cl wd H) (hK : va_K D zz_cl (zz_ty cy) s) (hD : va_D A wd) (hS : va_S A s.heap H locs) (hA : ∀ q, s.heap.size ≤ q → A q) (hE : ev_ok A s) :
    ∀ U : State, U.heap = H → s.WarmedH U.vm → ct_P D cy av wd H.size av.toArray U := fun U hU hW =>
  ⟨rfl, by rw [hU], by rw [hU]; exact hP, va_K.moved hW.alike hK, hD.weaken (fun _ _ _ _ => trivial), ev_call hE hS hU hW (ct_fr hD hS hA)⟩
end ST
section CR
variable {p : Program} {l : Launch} {e : Env} {R : Room} {s : State} {m : MethodId} {args : Array Value} {below : List Frame} {meth : Method} {c : Code} {H : Heap} {locs : List Loc} {cells slots : Nat} {Q : State → Prop} {D : va_G} {cy : Nat → Nat} {A : Nat → Prop} {wd : va_W} {V : Option Value} {S : Type} {ok : S → Prop} {wd' : S → va_W}
variable {y : MethodName} {bytes cc : ByteArray} {maxL nL mc ms n index pc : Nat} {ret : Option FieldType} {ws : List Cond} {rm : Room} {Ts : List Cond} {own C : String} {b : Nat} {As rest st0 : List Value} {ls : Array Slot} {bad : Prop} {ex : String}
/-- behind a call that returns -/
theorem zc_back {Qa : State → Outcome → State → Prop} (hr : va_Run p l e R s m args below meth c H locs cells slots mc ms (F0 m pc ls st0) rest Qa (va_A wd H.size)) (hQ : ∀ st o t, Qa st o t → o = .returned V ∧ (∃ u : S, ok u ∧ ct_B D cy (va_A wd H.size) (wd' u) t) ∧ va_F (va_A wd H.size) st t)
    (hD : va_D A wd) (hS : va_S A s.heap H locs) (hA : ∀ q, s.heap.size ≤ q → A q)
    (kk : ∀ (u : S) (H1 : Heap) (locs1 : List Loc), ok u → va_P D zz_cl (wd' u) H1 → va_D A (wd' u) → va_S A s.heap H1 locs1 → W p l e R s m args below meth c H1 locs1 (cells + mc) (slots + ms) Q (F0 m (pc + 3) ls (V.toList ++ rest))) : W p l e R s m args below meth c H locs cells slots Q (F0 m pc ls st0) := by
  intro T hT X
  obtain ⟨v, st₀, t, T', L, h0, X', hL, e1, e2, hq, st⟩ := hr T hT X
  obtain ⟨hv, ⟨u, hu, hP1, hK1, hD1⟩, hF⟩ := hQ _ _ _ hq
  have hv : v = V := Outcome.returned.inj hv
  subst hv
  have hf := ct_fr hD hS hA
  obtain ⟨k1, k2, k3⟩ := vx_keep h0 e1 hS (fun q _ h => hf q h) hf hL hF
  obtain ⟨t2, a1, b1⟩ := kk u T'.heap (locs ++ L) hu (by rw [e1]; exact hP1) (hD1.weaken (fun _ _ _ h => hf _ h)) k3 T' rfl X'
  exact ⟨t2, st t2 a1, b1⟩
/-- a call of a method of this world that returns -/
theorem zc_v (Sx : CallFix p m c cc nL s args Ts own) (hM : Met l y ws rm (ct_P D cy (.ref b :: As) wd H.size) (ct_Q D cy wd H.size V ok wd') mc ms (va_A wd H.size)) (cw : CallW R s args own C index y bytes maxL ret ws rm mc ms n)
    (hK : va_K D zz_cl (zz_ty cy) s) (hP : va_P D zz_cl wd H) (hD : va_D A wd) (hS : va_S A s.heap H locs) (hA : ∀ q, s.heap.size ≤ q → A q) (hE : ev_ok A s) (hrc : ∃ cellB : Cell, H[b]? = some cellB ∧ cellB.vm.isStatics = false ∧ s.vm.findClass C = some cellB.cls)
    (hn : As.length = n) (hl : ls.size = nL) (hst : st0 = As.reverse ++ .ref b :: rest) (hR : (rest.map fun v => v.category).sum ≤ 8) (hdg : decode cc pc = .ok (.invokevirtual index, 3)) (hf : cells + mc ≤ R.cells ∧ slots + ms ≤ R.slots)
    (kk : ∀ (u : S) (H1 : Heap) (locs1 : List Loc), ok u → va_P D zz_cl (wd' u) H1 → va_D A (wd' u) → va_S A s.heap H1 locs1 → W p l e R s m args below meth c H1 locs1 (cells + mc) (slots + ms) Q (F0 m (pc + 3) ls (V.toList ++ rest))) : W p l e R s m args below meth c H locs cells slots Q (F0 m pc ls st0) :=
  zc_back (va_runV (As := As) (rest := rest) Sx hM cw ⟨ct_blind, hrc, ct_pre hP hK hD hS hA hE⟩ rfl hn hl hst (lv_room hR) hdg hf) (fun _ _ _ h => h) hD hS hA kk
theorem zc_s (Sx : CallFix p m c cc nL s args Ts own) (hM : Met l y ws rm (ct_P D cy As wd H.size) (ct_Q D cy wd H.size V ok wd') mc ms (va_A wd H.size)) (cw : CallB R s args own index y bytes maxL ret ws rm mc ms n ∧ (Cond.static y).before args s = true)
    (hK : va_K D zz_cl (zz_ty cy) s) (hP : va_P D zz_cl wd H) (hD : va_D A wd) (hS : va_S A s.heap H locs) (hA : ∀ q, s.heap.size ≤ q → A q) (hE : ev_ok A s)
    (hn : As.length = n) (hl : ls.size = nL) (hst : st0 = As.reverse ++ rest) (hR : (rest.map fun v => v.category).sum ≤ 8) (hdg : decode cc pc = .ok (.invokestatic index, 3)) (hf : cells + mc ≤ R.cells ∧ slots + ms ≤ R.slots)
    (kk : ∀ (u : S) (H1 : Heap) (locs1 : List Loc), ok u → va_P D zz_cl (wd' u) H1 → va_D A (wd' u) → va_S A s.heap H1 locs1 → W p l e R s m args below meth c H1 locs1 (cells + mc) (slots + ms) Q (F0 m (pc + 3) ls (V.toList ++ rest))) : W p l e R s m args below meth c H locs cells slots Q (F0 m pc ls st0) :=
  zc_back (va_runS (As := As) (rest := rest) Sx hM cw ⟨ct_blind, ct_pre hP hK hD hS hA hE⟩ rfl hn hl hst (lv_room hR) hdg hf) (fun _ _ _ h => h) hD hS hA kk
/-- a call of a method of this world that may throw -/
theorem zc_x (Sx : CallFix p m c cc nL s args Ts own) (hM : vx_Met l y ws rm (ct_P D cy (.ref b :: As) wd H.size) (ct_Q D cy wd H.size V ok wd') (ct_X D cy wd H.size bad ex) mc ms (va_A wd H.size)) (cw : CallW R s args own C index y bytes maxL ret ws rm mc ms n)
    (hK : va_K D zz_cl (zz_ty cy) s) (hP : va_P D zz_cl wd H) (hD : va_D A wd) (hS : va_S A s.heap H locs) (hA : ∀ q, s.heap.size ≤ q → A q) (hE : ev_ok A s) (hrc : ∃ cellB : Cell, H[b]? = some cellB ∧ cellB.vm.isStatics = false ∧ s.vm.findClass C = some cellB.cls)
    (hn : As.length = n) (hl : ls.size = nL) (hst : st0 = As.reverse ++ .ref b :: rest) (hR : (rest.map fun v => v.category).sum ≤ 8) (hdg : decode cc pc = .ok (.invokevirtual index, 3)) (hf : cells + mc ≤ R.cells ∧ slots + ms ≤ R.slots)
    (kx : bad → ∀ (ce : Cell) (q9 : Addr) (H1 : Heap) (locs1 : List Loc), va_P D zz_cl wd H1 → va_D A wd → va_S A s.heap H1 locs1 → H1[q9]? = some ce → ce.vm = .none → s.vm.findClass ex = some ce.cls → vx_W p l e R s m args below meth c H1 locs1 (cells + mc) (slots + ms) Q (F0 m pc ls rest) q9)
    (kk : ∀ (u : S) (H1 : Heap) (locs1 : List Loc), ok u → va_P D zz_cl (wd' u) H1 → va_D A (wd' u) → va_S A s.heap H1 locs1 → W p l e R s m args below meth c H1 locs1 (cells + mc) (slots + ms) Q (F0 m (pc + 3) ls (V.toList ++ rest))) : W p l e R s m args below meth c H locs cells slots Q (F0 m pc ls st0) := by
  have hr := vx_runV (g := F0 m pc ls st0) (H := H) (locs := locs) (cells := cells) (slots := slots) (below := below) (meth := meth) (e := e) (As := As) (rest := rest) Sx hM cw ⟨ct_blind, hrc, ct_pre hP hK hD hS hA hE⟩ rfl hn hl hst (lv_room hR) hdg hf
  intro T hT X
  have hfr := ct_fr hD hS hA
  rcases hr T hT X with ⟨v, st₀, t, T', L, h0, X', hL, e1, e2, hq, st⟩ | ⟨q, st₀, t, T', L, E, ce, h0, X', hL, e1, e2, hq, hce, hcv, hcl, st⟩
  · obtain ⟨hv, ⟨u, hu, hP1, hK1, hD1⟩, hF⟩ := hq
    have hv : v = V := Outcome.returned.inj hv
    subst hv
    obtain ⟨k1, k2, k3⟩ := vx_keep h0 e1 hS (fun q _ h => hfr q h) hfr hL hF
    obtain ⟨t2, a1, b1⟩ := kk u T'.heap (locs ++ L) hu (by rw [e1]; exact hP1) (hD1.weaken (fun _ _ _ h => hfr _ h)) k3 T' rfl X'
    exact ⟨t2, st t2 a1, b1⟩
  · obtain ⟨rfl, hbad, ⟨hP1, hK1, hD1⟩, hF⟩ := hq
    obtain ⟨k1, k2, k3⟩ := vx_keep h0 e1 hS (fun q _ h => hfr q h) hfr hL hF
    obtain ⟨t2, a1, b1⟩ := kx hbad ce q T'.heap (locs ++ L) (by rw [e1]; exact hP1) hD k3 (by rw [e1]; exact hce) hcv hcl T' rfl X'
    exact ⟨t2, st.trans a1, b1⟩
end CR
