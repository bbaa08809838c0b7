/-! throws of the class's own, and a callee's throw that goes on to the caller -/
section TH
variable {p : Program} {l : Launch} {e : Env} {R : Room} {s : State} {m : MethodId} {args : Array Value} {below : List Frame} {meth : Method} {c : Code} {H : Heap} {locs : List Loc} {cells slots : Nat} {cc : ByteArray} {pc : Nat} {ls : Array Slot} {rest : List Value} {D : va_G} {cy : Nat → Nat} {A : Nat → Prop} {wd : va_W} {bad : Prop} {Qc : Array Value → State → Outcome → State → Prop} {mc ms : Nat}
theorem ev_ot : ∀ w ∈ ev_ws, w.onTables = true := by decide +kernel
theorem th_row (hx : p.tables.exec = Jvm.exec) (hb : c.code = cc) (hl9 : l.stackTraces = false) {own cls text : String} {names : List String} {ik is ic : Nat}
    (hown : s.vm.findClass own = some m.cls) (hcls : Bundle.fit cls = true) (hnames : ∀ n ∈ names, Bundle.fit n = true)
    (hk : (Cond.classLink own ik cls).before args s = true) (hini : (Cond.initialized cls).before args s = true) (hstr : ∃ sa, vk_R own is text sa s) (hat : ∀ w ∈ vx_atS own ic cls names, w.before args s = true)
    (hgood : ∀ w ∈ Cond.classLink own ik cls :: Cond.initialized cls :: vx_atS own ic cls names, vx_ot w = true)
    (hAe : A = va_A wd s.heap.size) (hE : ev_ok A s) (hK : va_K D zz_cl (zz_ty cy) s) (hP : va_P D zz_cl wd H) (hD : va_D A wd) (hS : va_S A s.heap H locs) (hsize : ls.size = c.maxLocals)
    (d0 : decode cc pc = .ok (.new ik, 3)) (d3 : decode cc (pc + 3) = .ok (.dup, 1)) (d4 : decode cc (pc + 4) = .ok (.ldc is, 2)) (d6 : decode cc (pc + 6) = .ok (.invokespecial ic, 3)) (d9 : decode cc (pc + 9) = .ok (.athrow, 1))
    (htb : ∀ x ∈ c.exceptionTable.toList, False)
    (hRframes : names.length + 3 < R.frames) (hRlocals : (rest.map fun v => v.category).sum + (13 * (names.length + 1) + 43) ≤ R.locals) (hRcells : cells + 1 ≤ R.cells) (hRslots : slots + 6 ≤ R.slots) (hlocks : meth.locks = false) (hbad : bad) (hc : cells + 1 ≤ mc) (hs : slots + 6 ≤ ms) :
    W p l e R s m args below meth c H locs cells slots (vx_MQ below Qc (ct_X D cy wd s.heap.size bad cls) args s mc ms (va_A wd s.heap.size)) (F0 m pc ls rest) := by
  obtain ⟨sa, hstr⟩ := hstr
  subst hAe
  exact vx_throwS (own := own) (cls := cls) (names := names) hx hb hl9 hown hcls hnames hk hini hstr hat hgood hE.1 hE.2.1 hS hsize d0 d3 d4 d6 d9 (fun x h => (htb x h).elim) hRframes hRlocals hRcells hRslots hlocks
    (fun t ha hsz hk => ⟨rfl, hbad, ⟨hP.kept (fun k q hq => hk q.1 (hP k q hq).lt), va_K.moved ha hK, hD⟩, Nat.le_trans hS.1 hsz, fun q h1 h2 => (hk q (Nat.lt_of_lt_of_le h1 hS.1)).trans (hS.2.1 q h1 h2)⟩) hS.2.2 hc hs
theorem th_out {E : String} {ce : Cell} {q9 : Addr} (hAe : A = va_A wd s.heap.size) (htb : ∀ x ∈ c.exceptionTable.toList, False) (hlocks : meth.locks = false) (hK : va_K D zz_cl (zz_ty cy) s) (hP : va_P D zz_cl wd H) (hD : va_D A wd) (hS : va_S A s.heap H locs)
    (hce : H[q9]? = some ce) (hcv : ce.vm = .none) (hcl : s.vm.findClass E = some ce.cls) (hbad : bad) (hc : cells ≤ mc) (hs : slots ≤ ms) :
    vx_W p l e R s m args below meth c H locs cells slots (vx_MQ below Qc (ct_X D cy wd s.heap.size bad E) args s mc ms (va_A wd s.heap.size)) (F0 m pc ls rest) q9 := by
  subst hAe
  exact vx_out (E := E) (fun x h => (htb x h).elim) hlocks hce hcv hcl (fun t ht ha => ⟨rfl, hbad, ⟨by rw [ht]; exact hP, va_K.moved ha hK, hD⟩, hS.F ht⟩) hS.2.2 hc hs
end TH
theorem at_IAE {args : Array Value} {s : State} {Ts : List Cond} {A : Nat → Prop} (hts : ∀ w ∈ Ts, w.before args s = true) (hg : ∀ w ∈ (vx_atS RX2 86 "java/lang/IllegalArgumentException" ["java/lang/RuntimeException", "java/lang/Exception"]).filter goodWord, w ∈ Ts) (hE : ev_ok A s) : ∀ w ∈ vx_atS RX2 86 "java/lang/IllegalArgumentException" ["java/lang/RuntimeException", "java/lang/Exception"], w.before args s = true :=
  vx_hat (B := ev_ws) (fun w hw => hts w (hg w hw)) (by decide +kernel) (fun w hw => va_Nw.use (ev_ot w hw) (hE.2.2.1 w hw))
theorem go_IAE : ∀ w ∈ Cond.classLink RX2 82 "java/lang/IllegalArgumentException" :: Cond.initialized "java/lang/IllegalArgumentException" :: vx_atS RX2 86 "java/lang/IllegalArgumentException" ["java/lang/RuntimeException", "java/lang/Exception"], vx_ot w = true := by decide +kernel
theorem at_ISE {args : Array Value} {s : State} {Ts : List Cond} {A : Nat → Prop} (hts : ∀ w ∈ Ts, w.before args s = true) (hg : ∀ w ∈ (vx_atS RX2 103 "java/lang/IllegalStateException" ["java/lang/RuntimeException", "java/lang/Exception"]).filter goodWord, w ∈ Ts) (hE : ev_ok A s) : ∀ w ∈ vx_atS RX2 103 "java/lang/IllegalStateException" ["java/lang/RuntimeException", "java/lang/Exception"], w.before args s = true :=
  vx_hat (B := ev_ws) (fun w hw => hts w (hg w hw)) (by decide +kernel) (fun w hw => va_Nw.use (ev_ot w hw) (hE.2.2.1 w hw))
theorem go_ISE : ∀ w ∈ Cond.classLink RX2 99 "java/lang/IllegalStateException" :: Cond.initialized "java/lang/IllegalStateException" :: vx_atS RX2 103 "java/lang/IllegalStateException" ["java/lang/RuntimeException", "java/lang/Exception"], vx_ot w = true := by decide +kernel
theorem at_UOE {args : Array Value} {s : State} {Ts : List Cond} {A : Nat → Prop} (hts : ∀ w ∈ Ts, w.before args s = true) (hg : ∀ w ∈ (vx_atS RX2 61 "java/lang/UnsupportedOperationException" ["java/lang/RuntimeException", "java/lang/Exception"]).filter goodWord, w ∈ Ts) (hE : ev_ok A s) : ∀ w ∈ vx_atS RX2 61 "java/lang/UnsupportedOperationException" ["java/lang/RuntimeException", "java/lang/Exception"], w.before args s = true :=
  vx_hat (B := ev_ws) (fun w hw => hts w (hg w hw)) (by decide +kernel) (fun w hw => va_Nw.use (ev_ot w hw) (hE.2.2.1 w hw))
theorem go_UOE : ∀ w ∈ Cond.classLink RX2 57 "java/lang/UnsupportedOperationException" :: Cond.initialized "java/lang/UnsupportedOperationException" :: vx_atS RX2 61 "java/lang/UnsupportedOperationException" ["java/lang/RuntimeException", "java/lang/Exception"], vx_ot w = true := by decide +kernel
theorem at_AIO {args : Array Value} {s : State} {Ts : List Cond} {A : Nat → Prop} (hts : ∀ w ∈ Ts, w.before args s = true) (hg : ∀ w ∈ (vx_atS RX2 207 "java/lang/ArrayIndexOutOfBoundsException" ["java/lang/IndexOutOfBoundsException", "java/lang/RuntimeException", "java/lang/Exception"]).filter goodWord, w ∈ Ts) (hE : ev_ok A s) : ∀ w ∈ vx_atS RX2 207 "java/lang/ArrayIndexOutOfBoundsException" ["java/lang/IndexOutOfBoundsException", "java/lang/RuntimeException", "java/lang/Exception"], w.before args s = true :=
  vx_hat (B := ev_ws) (fun w hw => hts w (hg w hw)) (by decide +kernel) (fun w hw => va_Nw.use (ev_ot w hw) (hE.2.2.1 w hw))
theorem go_AIO : ∀ w ∈ Cond.classLink RX2 203 "java/lang/ArrayIndexOutOfBoundsException" :: Cond.initialized "java/lang/ArrayIndexOutOfBoundsException" :: vx_atS RX2 207 "java/lang/ArrayIndexOutOfBoundsException" ["java/lang/IndexOutOfBoundsException", "java/lang/RuntimeException", "java/lang/Exception"], vx_ot w = true := by decide +kernel
def wsX2_trayB : List Cond := wsX2_tray ++ (vx_atS RX2 207 "java/lang/ArrayIndexOutOfBoundsException" ["java/lang/IndexOutOfBoundsException", "java/lang/RuntimeException", "java/lang/Exception"]).filter goodWord
theorem gX2_trayB_X2_isInLoop : GoodIn wsX2_trayB (wsV RX2 168 RX2 yX2_isInLoop wsX2_isInLoop) := fun w h => ⟨List.mem_append_left _ (gX2_tray_X2_isInLoop w h).1, (gX2_tray_X2_isInLoop w h).2⟩
