/-! a call on a part of the world: the rest stays as it is -/
section FR
theorem fr_l {α : Type} {a b : List α} {k : Nat} {q : α} (h : a[k]? = some q) : (a ++ b)[k]? = some q := by
  have hl : k < a.length := (List.getElem?_eq_some_iff.mp h).1
  rw [List.getElem?_append_left hl]; exact h
theorem fr_r {α : Type} {a b : List α} {k : Nat} {q : α} (h : b[k]? = some q) : (a ++ b)[a.length + k]? = some q := by
  rw [List.getElem?_append_right (Nat.le_add_right _ _), Nat.add_sub_cancel_left]; exact h
theorem fr_c {α : Type} {a b : List α} {k : Nat} {q : α} (h : (a ++ b)[k]? = some q) : (k < a.length ∧ a[k]? = some q) ∨ (a.length ≤ k ∧ b[k - a.length]? = some q) := by
  by_cases hl : k < a.length
  · rw [List.getElem?_append_left hl] at h; exact Or.inl ⟨hl, h⟩
  · rw [List.getElem?_append_right (by omega)] at h; exact Or.inr ⟨by omega, h⟩
theorem fr_Pl {D : va_G} {cl : List vw_C} {a b : va_W} {H : Heap} (h : va_P D cl (a ++ b) H) : va_P D cl a H := fun k q hk => h k q (fr_l hk)
theorem fr_Pr {D : va_G} {cl : List vw_C} {a b : va_W} {H : Heap} (h : va_P D cl (a ++ b) H) : va_P D cl b H := fun _ q hk => h _ q (fr_r hk)
theorem fr_Dl {A : Nat → Prop} {a b : va_W} (h : va_D A (a ++ b)) : va_D A a := ⟨fun i j p q hi hj e => h.1 i j p q (fr_l hi) (fr_l hj) e, fun k q hk => h.2 k q (fr_l hk)⟩
theorem fr_Dr {A : Nat → Prop} {a b : va_W} (h : va_D A (a ++ b)) : va_D A b := ⟨fun i j p q hi hj e => by have := h.1 _ _ p q (fr_r (a := a) hi) (fr_r hj) e; omega, fun _ q hk => h.2 _ q (fr_r hk)⟩
theorem fr_ne {A : Nat → Prop} {a b : va_W} (h : va_D A (a ++ b)) {i j : Nat} {p q : Nat × va_E} (hi : a[i]? = some p) (hj : b[j]? = some q) : p.1 ≠ q.1 := fun e => by
  have h1 := h.1 _ _ p q (fr_l hi) (fr_r hj) e
  have h2 : i < a.length := (List.getElem?_eq_some_iff.mp hi).1
  omega
theorem fr_Pc {D : va_G} {cl : List vw_C} {a b : va_W} {H : Heap} (h : va_P D cl (a ++ b) H) : va_P D cl (b ++ a) H := (fr_Pr h).app (fr_Pl h)
theorem fr_Dc {A : Nat → Prop} {a b : va_W} (h : va_D A (a ++ b)) : va_D A (b ++ a) := (fr_Dr h).app (fr_Dl h) (fun _ _ _ _ hi hj e => fr_ne h hj hi e.symm)
theorem fr_join {A : Nat → Prop} {D : va_G} {cl : List vw_C} {wc wr wc' : va_W} {H H1 : Heap} (hP : va_P D cl (wc ++ wr) H) (hD : va_D A (wc ++ wr)) (hk : ∀ q : Nat, q < H.size → ¬ va_A wc H.size q → H1[q]? = H[q]?) (hf : ∀ q, va_A wc H.size q → A q)
    (hP1 : va_P D cl wc' H1) (hD1 : va_D (va_A wc H.size) wc') : va_P D cl (wc' ++ wr) H1 ∧ va_D A (wc' ++ wr) := by
  have hn : ∀ (k : Nat) (q : Nat × va_E), wr[k]? = some q → ¬ va_A wc H.size q.1 := fun k q hq h => by
    rcases h with ⟨i, e, hi⟩ | h
    · exact fr_ne hD hi hq rfl
    · exact absurd (fr_Pr hP k q hq).lt (by omega)
  refine ⟨hP1.app ((fr_Pr hP).kept (fun k q hq => hk q.1 (fr_Pr hP k q hq).lt (hn k q hq))), (hD1.weaken (fun _ _ _ h => hf _ h)).app (fr_Dr hD) (fun i j x y hi hj e => ?_)⟩
  exact hn j y hj (by rw [← e]; exact hD1.2 i x hi)
variable {p : Program} {l : Launch} {e : Env} {R : Room} {s : State} {m : MethodId} {args : Array Value} {below : List Frame} {meth : Method} {c : Code} {H : Heap} {locs : List Loc} {cells slots : Nat} {Q : State → Prop} {D : va_G} {cy : Nat → Nat} {A : Nat → Prop} {wc wr : va_W} {V : Option Value} {S : Type} {ok : S → Prop} {wd' : S → va_W}
variable {y : MethodName} {bytes cc : ByteArray} {maxL nL mc ms n index pc : Nat} {ret : Option FieldType} {ws : List Cond} {rm : Room} {Ts : List Cond} {own C : String} {b : Nat} {As rest st0 : List Value} {ls : Array Slot} {bad : Prop} {ex : String}
theorem zf_back {Qa : State → Outcome → State → Prop} (hr : va_Run p l e R s m args below meth c H locs cells slots mc ms (F0 m pc ls st0) rest Qa (va_A wc H.size)) (hQ : ∀ st o t, Qa st o t → o = .returned V ∧ (∃ u : S, ok u ∧ ct_B D cy (va_A wc H.size) (wd' u) t) ∧ va_F (va_A wc H.size) st t)
    (hP : va_P D zz_cl (wc ++ wr) H) (hD : va_D A (wc ++ wr)) (hS : va_S A s.heap H locs) (hA : ∀ q, s.heap.size ≤ q → A q)
    (kk : ∀ (u : S) (H1 : Heap) (locs1 : List Loc), ok u → va_P D zz_cl (wd' u ++ wr) H1 → va_D A (wd' u ++ wr) → va_S A s.heap H1 locs1 → W p l e R s m args below meth c H1 locs1 (cells + mc) (slots + ms) Q (F0 m (pc + 3) ls (V.toList ++ rest))) : W p l e R s m args below meth c H locs cells slots Q (F0 m pc ls st0) := by
  intro T hT X
  obtain ⟨v, st₀, t, T', L, h0, X', hL, e1, e2, hq, st⟩ := hr T hT X
  obtain ⟨hv, ⟨u, hu, hP1, hK1, hD1⟩, hF⟩ := hQ _ _ _ hq
  have hv : v = V := Outcome.returned.inj hv
  subst hv
  have hf := ct_fr (fr_Dl hD) hS hA
  obtain ⟨k1, k2, k3⟩ := vx_keep h0 e1 hS (fun q _ h => hf q h) hf hL hF
  obtain ⟨q1, q2⟩ := fr_join hP hD k2 hf (by rw [e1]; exact hP1) hD1
  obtain ⟨t2, a1, b1⟩ := kk u T'.heap (locs ++ L) hu q1 q2 k3 T' rfl X'
  exact ⟨t2, st t2 a1, b1⟩
theorem zf_v (Sx : CallFix p m c cc nL s args Ts own) (hM : Met l y ws rm (ct_P D cy (.ref b :: As) wc H.size) (ct_Q D cy wc H.size V ok wd') mc ms (va_A wc H.size)) (cw : CallW R s args own C index y bytes maxL ret ws rm mc ms n)
    (hK : va_K D zz_cl (zz_ty cy) s) (hP : va_P D zz_cl (wc ++ wr) H) (hD : va_D A (wc ++ wr)) (hS : va_S A s.heap H locs) (hA : ∀ q, s.heap.size ≤ q → A q) (hE : ev_ok A s) (hrc : ∃ cellB : Cell, H[b]? = some cellB ∧ cellB.vm.isStatics = false ∧ s.vm.findClass C = some cellB.cls)
    (hn : As.length = n) (hl : ls.size = nL) (hst : st0 = As.reverse ++ .ref b :: rest) (hR : (rest.map fun v => v.category).sum ≤ 8) (hdg : decode cc pc = .ok (.invokevirtual index, 3)) (hf : cells + mc ≤ R.cells ∧ slots + ms ≤ R.slots)
    (kk : ∀ (u : S) (H1 : Heap) (locs1 : List Loc), ok u → va_P D zz_cl (wd' u ++ wr) H1 → va_D A (wd' u ++ wr) → va_S A s.heap H1 locs1 → W p l e R s m args below meth c H1 locs1 (cells + mc) (slots + ms) Q (F0 m (pc + 3) ls (V.toList ++ rest))) : W p l e R s m args below meth c H locs cells slots Q (F0 m pc ls st0) :=
  zf_back (va_runV (As := As) (rest := rest) Sx hM cw ⟨ct_blind, hrc, ct_pre (fr_Pl hP) hK (fr_Dl hD) hS hA hE⟩ rfl hn hl hst (lv_room hR) hdg hf) (fun _ _ _ h => h) hP hD hS hA kk
theorem zf_s (Sx : CallFix p m c cc nL s args Ts own) (hM : Met l y ws rm (ct_P D cy As wc H.size) (ct_Q D cy wc H.size V ok wd') mc ms (va_A wc H.size)) (cw : CallB R s args own index y bytes maxL ret ws rm mc ms n ∧ (Cond.static y).before args s = true)
    (hK : va_K D zz_cl (zz_ty cy) s) (hP : va_P D zz_cl (wc ++ wr) H) (hD : va_D A (wc ++ wr)) (hS : va_S A s.heap H locs) (hA : ∀ q, s.heap.size ≤ q → A q) (hE : ev_ok A s)
    (hn : As.length = n) (hl : ls.size = nL) (hst : st0 = As.reverse ++ rest) (hR : (rest.map fun v => v.category).sum ≤ 8) (hdg : decode cc pc = .ok (.invokestatic index, 3)) (hf : cells + mc ≤ R.cells ∧ slots + ms ≤ R.slots)
    (kk : ∀ (u : S) (H1 : Heap) (locs1 : List Loc), ok u → va_P D zz_cl (wd' u ++ wr) H1 → va_D A (wd' u ++ wr) → va_S A s.heap H1 locs1 → W p l e R s m args below meth c H1 locs1 (cells + mc) (slots + ms) Q (F0 m (pc + 3) ls (V.toList ++ rest))) : W p l e R s m args below meth c H locs cells slots Q (F0 m pc ls st0) :=
  zf_back (va_runS (As := As) (rest := rest) Sx hM cw ⟨ct_blind, ct_pre (fr_Pl hP) hK (fr_Dl hD) hS hA hE⟩ rfl hn hl hst (lv_room hR) hdg hf) (fun _ _ _ h => h) hP hD hS hA kk
theorem zf_i (Sx : CallFix p m c cc nL s args Ts own) (hM : Met l y ws rm (ct_P D cy (.ref b :: As) wc H.size) (ct_Q D cy wc H.size V ok wd') mc ms (va_A wc H.size)) (cw : CallB R s args own index y bytes maxL none ws rm mc ms n ∧ y.name = "<init>" ∧ (Cond.instanceMethod y).before args s = true)
    (hK : va_K D zz_cl (zz_ty cy) s) (hP : va_P D zz_cl (wc ++ wr) H) (hD : va_D A (wc ++ wr)) (hS : va_S A s.heap H locs) (hA : ∀ q, s.heap.size ≤ q → A q) (hE : ev_ok A s)
    (hn : As.length = n) (hl : ls.size = nL) (hst : st0 = As.reverse ++ .ref b :: rest) (hR : (rest.map fun v => v.category).sum ≤ 8) (hdg : decode cc pc = .ok (.invokespecial index, 3)) (hf : cells + mc ≤ R.cells ∧ slots + ms ≤ R.slots)
    (kk : ∀ (u : S) (H1 : Heap) (locs1 : List Loc), ok u → va_P D zz_cl (wd' u ++ wr) H1 → va_D A (wd' u ++ wr) → va_S A s.heap H1 locs1 → W p l e R s m args below meth c H1 locs1 (cells + mc) (slots + ms) Q (F0 m (pc + 3) ls (V.toList ++ rest))) : W p l e R s m args below meth c H locs cells slots Q (F0 m pc ls st0) :=
  zf_back (va_runI (As := As) (rest := rest) Sx hM cw ⟨ct_blind, ct_pre (fr_Pl hP) hK (fr_Dl hD) hS hA hE⟩ rfl hn hl hst (lv_room hR) hdg hf) (fun _ _ _ h => h) hP hD hS hA kk
end FR
