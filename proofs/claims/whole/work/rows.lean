section
-- ===== PART A: goes FIRST, ahead of the names: the tables' words, and 'selects' of the private methods out of them =====
/-- a private method of a class that the tables say can be made, by its rows of tables_1 -/
def lw_okq (q : MethodName × Nat) : Prop := (q.1.cls ≠ "java/lang/invoke/MethodHandle" ∧ q.1.cls ≠ "java/lang/invoke/VarHandle") ∧ Cond.instantiable q.1.cls q.2 ∈ tables_1 ∧ Cond.privateMethod q.1 ∈ tables_1 ∧ Cond.instanceMethod q.1 ∈ tables_1
theorem lw_p0 : lw_okq (⟨"SorterSteps", "countEmptyTrays", "()I"⟩, 10) := ⟨⟨by decide +kernel, by decide +kernel⟩, List.mem_of_getElem? (i := 15) (by decide +kernel), List.mem_of_getElem? (i := 94) (by decide +kernel), List.mem_of_getElem? (i := 95) (by decide +kernel)⟩
theorem lw_p1 : lw_okq (⟨"SorterSteps", "countOut", "()I"⟩, 10) := ⟨⟨by decide +kernel, by decide +kernel⟩, List.mem_of_getElem? (i := 15) (by decide +kernel), List.mem_of_getElem? (i := 98) (by decide +kernel), List.mem_of_getElem? (i := 99) (by decide +kernel)⟩
theorem lw_p2 : lw_okq (⟨"SorterSteps", "requireLength", "(I)V"⟩, 10) := ⟨⟨by decide +kernel, by decide +kernel⟩, List.mem_of_getElem? (i := 15) (by decide +kernel), List.mem_of_getElem? (i := 114) (by decide +kernel), List.mem_of_getElem? (i := 115) (by decide +kernel)⟩
theorem lw_p3 : lw_okq (⟨"java/lang/Throwable", "fillInStackTrace", "(I)Ljava/lang/Throwable;"⟩, 6) := ⟨⟨by decide +kernel, by decide +kernel⟩, List.mem_of_getElem? (i := 157) (by decide +kernel), List.mem_of_getElem? (i := 155) (by decide +kernel), List.mem_of_getElem? (i := 156) (by decide +kernel)⟩
theorem lw_p4 : lw_okq (⟨"SorterSteps", "itemNumbered", "(I)LSorterSteps$Item;"⟩, 10) := ⟨⟨by decide +kernel, by decide +kernel⟩, List.mem_of_getElem? (i := 15) (by decide +kernel), List.mem_of_getElem? (i := 267) (by decide +kernel), List.mem_of_getElem? (i := 268) (by decide +kernel)⟩
theorem lw_p5 : lw_okq (⟨"SorterSteps", "requireCode", "(I)V"⟩, 10) := ⟨⟨by decide +kernel, by decide +kernel⟩, List.mem_of_getElem? (i := 15) (by decide +kernel), List.mem_of_getElem? (i := 273) (by decide +kernel), List.mem_of_getElem? (i := 274) (by decide +kernel)⟩
theorem lw_p6 : lw_okq (⟨"SorterSteps", "isChute", "(I)Z"⟩, 10) := ⟨⟨by decide +kernel, by decide +kernel⟩, List.mem_of_getElem? (i := 15) (by decide +kernel), List.mem_of_getElem? (i := 277) (by decide +kernel), List.mem_of_getElem? (i := 278) (by decide +kernel)⟩
theorem lw_p7 : lw_okq (⟨"SorterSteps", "requireNotJammed", "()V"⟩, 10) := ⟨⟨by decide +kernel, by decide +kernel⟩, List.mem_of_getElem? (i := 15) (by decide +kernel), List.mem_of_getElem? (i := 282) (by decide +kernel), List.mem_of_getElem? (i := 283) (by decide +kernel)⟩
theorem lw_p8 : lw_okq (⟨"SorterSteps", "requireFit", "(LSorterSteps$Item;)V"⟩, 10) := ⟨⟨by decide +kernel, by decide +kernel⟩, List.mem_of_getElem? (i := 15) (by decide +kernel), List.mem_of_getElem? (i := 302) (by decide +kernel), List.mem_of_getElem? (i := 303) (by decide +kernel)⟩
theorem lw_p9 : lw_okq (⟨"SorterSteps", "itemAt", "(I)LSorterSteps$Item;"⟩, 10) := ⟨⟨by decide +kernel, by decide +kernel⟩, List.mem_of_getElem? (i := 15) (by decide +kernel), List.mem_of_getElem? (i := 308) (by decide +kernel), List.mem_of_getElem? (i := 309) (by decide +kernel)⟩
theorem lw_p10 : lw_okq (⟨"SorterSteps", "trayAt", "(I)I"⟩, 10) := ⟨⟨by decide +kernel, by decide +kernel⟩, List.mem_of_getElem? (i := 15) (by decide +kernel), List.mem_of_getElem? (i := 312) (by decide +kernel), List.mem_of_getElem? (i := 313) (by decide +kernel)⟩
theorem lw_p11 : lw_okq (⟨"SorterSteps", "intoLoop", "(I)I"⟩, 10) := ⟨⟨by decide +kernel, by decide +kernel⟩, List.mem_of_getElem? (i := 15) (by decide +kernel), List.mem_of_getElem? (i := 316) (by decide +kernel), List.mem_of_getElem? (i := 317) (by decide +kernel)⟩
theorem lw_p12 : lw_okq (⟨"SorterSteps", "isInLoop", "(I)Z"⟩, 10) := ⟨⟨by decide +kernel, by decide +kernel⟩, List.mem_of_getElem? (i := 15) (by decide +kernel), List.mem_of_getElem? (i := 320) (by decide +kernel), List.mem_of_getElem? (i := 321) (by decide +kernel)⟩
theorem lw_p13 : lw_okq (⟨"SorterSteps", "putOnTray", "(LSorterSteps$Item;I)V"⟩, 10) := ⟨⟨by decide +kernel, by decide +kernel⟩, List.mem_of_getElem? (i := 15) (by decide +kernel), List.mem_of_getElem? (i := 325) (by decide +kernel), List.mem_of_getElem? (i := 326) (by decide +kernel)⟩
theorem lw_p14 : lw_okq (⟨"SorterSteps", "makeOneStep", "()V"⟩, 10) := ⟨⟨by decide +kernel, by decide +kernel⟩, List.mem_of_getElem? (i := 15) (by decide +kernel), List.mem_of_getElem? (i := 354) (by decide +kernel), List.mem_of_getElem? (i := 355) (by decide +kernel)⟩
theorem lw_p15 : lw_okq (⟨"SorterSteps", "passChute", "(I)V"⟩, 10) := ⟨⟨by decide +kernel, by decide +kernel⟩, List.mem_of_getElem? (i := 15) (by decide +kernel), List.mem_of_getElem? (i := 358) (by decide +kernel), List.mem_of_getElem? (i := 359) (by decide +kernel)⟩
def lw_privs_1 : List (MethodName × Nat) := [(⟨"SorterSteps", "countEmptyTrays", "()I"⟩, 10), (⟨"SorterSteps", "countOut", "()I"⟩, 10), (⟨"SorterSteps", "requireLength", "(I)V"⟩, 10), (⟨"java/lang/Throwable", "fillInStackTrace", "(I)Ljava/lang/Throwable;"⟩, 6), (⟨"SorterSteps", "itemNumbered", "(I)LSorterSteps$Item;"⟩, 10), (⟨"SorterSteps", "requireCode", "(I)V"⟩, 10), (⟨"SorterSteps", "isChute", "(I)Z"⟩, 10), (⟨"SorterSteps", "requireNotJammed", "()V"⟩, 10), (⟨"SorterSteps", "requireFit", "(LSorterSteps$Item;)V"⟩, 10), (⟨"SorterSteps", "itemAt", "(I)LSorterSteps$Item;"⟩, 10), (⟨"SorterSteps", "trayAt", "(I)I"⟩, 10), (⟨"SorterSteps", "intoLoop", "(I)I"⟩, 10), (⟨"SorterSteps", "isInLoop", "(I)Z"⟩, 10), (⟨"SorterSteps", "putOnTray", "(LSorterSteps$Item;I)V"⟩, 10), (⟨"SorterSteps", "makeOneStep", "()V"⟩, 10), (⟨"SorterSteps", "passChute", "(I)V"⟩, 10)]
theorem lw_r1 : ∀ q ∈ lw_privs_1, lw_okq q := List.forall_mem_cons.mpr ⟨lw_p0, List.forall_mem_cons.mpr ⟨lw_p1, List.forall_mem_cons.mpr ⟨lw_p2, List.forall_mem_cons.mpr ⟨lw_p3, List.forall_mem_cons.mpr ⟨lw_p4, List.forall_mem_cons.mpr ⟨lw_p5, List.forall_mem_cons.mpr ⟨lw_p6, List.forall_mem_cons.mpr ⟨lw_p7, List.forall_mem_cons.mpr ⟨lw_p8, List.forall_mem_cons.mpr ⟨lw_p9, List.forall_mem_cons.mpr ⟨lw_p10, List.forall_mem_cons.mpr ⟨lw_p11, List.forall_mem_cons.mpr ⟨lw_p12, List.forall_mem_cons.mpr ⟨lw_p13, List.forall_mem_cons.mpr ⟨lw_p14, List.forall_mem_cons.mpr ⟨lw_p15, fun _ h => absurd h List.not_mem_nil⟩⟩⟩⟩⟩⟩⟩⟩⟩⟩⟩⟩⟩⟩⟩⟩
theorem lw_p16 : lw_okq (⟨"SorterSteps", "isFull", "(I)Z"⟩, 10) := ⟨⟨by decide +kernel, by decide +kernel⟩, List.mem_of_getElem? (i := 15) (by decide +kernel), List.mem_of_getElem? (i := 362) (by decide +kernel), List.mem_of_getElem? (i := 363) (by decide +kernel)⟩
theorem lw_p17 : lw_okq (⟨"SorterSteps", "takeOffTray", "(LSorterSteps$Item;II)V"⟩, 10) := ⟨⟨by decide +kernel, by decide +kernel⟩, List.mem_of_getElem? (i := 15) (by decide +kernel), List.mem_of_getElem? (i := 366) (by decide +kernel), List.mem_of_getElem? (i := 367) (by decide +kernel)⟩
theorem lw_p18 : lw_okq (⟨"SorterSteps", "readAgainAtStart", "()V"⟩, 10) := ⟨⟨by decide +kernel, by decide +kernel⟩, List.mem_of_getElem? (i := 15) (by decide +kernel), List.mem_of_getElem? (i := 370) (by decide +kernel), List.mem_of_getElem? (i := 371) (by decide +kernel)⟩
theorem lw_p19 : lw_okq (⟨"SorterSteps", "requireChute", "(I)V"⟩, 10) := ⟨⟨by decide +kernel, by decide +kernel⟩, List.mem_of_getElem? (i := 15) (by decide +kernel), List.mem_of_getElem? (i := 390) (by decide +kernel), List.mem_of_getElem? (i := 391) (by decide +kernel)⟩
theorem lw_p20 : lw_okq (⟨"SorterSteps", "setFull", "(IZ)V"⟩, 10) := ⟨⟨by decide +kernel, by decide +kernel⟩, List.mem_of_getElem? (i := 15) (by decide +kernel), List.mem_of_getElem? (i := 395) (by decide +kernel), List.mem_of_getElem? (i := 396) (by decide +kernel)⟩
theorem lw_p21 : lw_okq (⟨"SorterSteps", "doubtItemAt", "(I)V"⟩, 10) := ⟨⟨by decide +kernel, by decide +kernel⟩, List.mem_of_getElem? (i := 15) (by decide +kernel), List.mem_of_getElem? (i := 407) (by decide +kernel), List.mem_of_getElem? (i := 408) (by decide +kernel)⟩
theorem lw_p22 : lw_okq (⟨"SorterSteps", "countNotFound", "()I"⟩, 10) := ⟨⟨by decide +kernel, by decide +kernel⟩, List.mem_of_getElem? (i := 15) (by decide +kernel), List.mem_of_getElem? (i := 419) (by decide +kernel), List.mem_of_getElem? (i := 420) (by decide +kernel)⟩
theorem lw_p23 : lw_okq (⟨"SorterSteps", "endDoubt", "(LSorterSteps$Item;)V"⟩, 10) := ⟨⟨by decide +kernel, by decide +kernel⟩, List.mem_of_getElem? (i := 15) (by decide +kernel), List.mem_of_getElem? (i := 431) (by decide +kernel), List.mem_of_getElem? (i := 432) (by decide +kernel)⟩
theorem lw_p24 : lw_okq (⟨"SorterSteps", "positionOf", "(LSorterSteps$Item;)I"⟩, 10) := ⟨⟨by decide +kernel, by decide +kernel⟩, List.mem_of_getElem? (i := 15) (by decide +kernel), List.mem_of_getElem? (i := 483) (by decide +kernel), List.mem_of_getElem? (i := 484) (by decide +kernel)⟩
theorem lw_p25 : lw_okq (⟨"SorterStepsModel", "isItem", "(I)Z"⟩, 23) := ⟨⟨by decide +kernel, by decide +kernel⟩, List.mem_of_getElem? (i := 487) (by decide +kernel), List.mem_of_getElem? (i := 579) (by decide +kernel), List.mem_of_getElem? (i := 580) (by decide +kernel)⟩
theorem lw_p26 : lw_okq (⟨"SorterStepsModel", "isCode", "(I)Z"⟩, 23) := ⟨⟨by decide +kernel, by decide +kernel⟩, List.mem_of_getElem? (i := 487) (by decide +kernel), List.mem_of_getElem? (i := 583) (by decide +kernel), List.mem_of_getElem? (i := 584) (by decide +kernel)⟩
theorem lw_p27 : lw_okq (⟨"SorterStepsModel", "isChute", "(I)Z"⟩, 23) := ⟨⟨by decide +kernel, by decide +kernel⟩, List.mem_of_getElem? (i := 487) (by decide +kernel), List.mem_of_getElem? (i := 587) (by decide +kernel), List.mem_of_getElem? (i := 588) (by decide +kernel)⟩
theorem lw_p28 : lw_okq (⟨"SorterStepsModel", "chutes", "()I"⟩, 23) := ⟨⟨by decide +kernel, by decide +kernel⟩, List.mem_of_getElem? (i := 487) (by decide +kernel), List.mem_of_getElem? (i := 591) (by decide +kernel), List.mem_of_getElem? (i := 592) (by decide +kernel)⟩
theorem lw_p29 : lw_okq (⟨"SorterStepsModel", "trayAt", "(I)I"⟩, 23) := ⟨⟨by decide +kernel, by decide +kernel⟩, List.mem_of_getElem? (i := 487) (by decide +kernel), List.mem_of_getElem? (i := 595) (by decide +kernel), List.mem_of_getElem? (i := 596) (by decide +kernel)⟩
theorem lw_p30 : lw_okq (⟨"SorterStepsModel", "atChute", "(I)V"⟩, 23) := ⟨⟨by decide +kernel, by decide +kernel⟩, List.mem_of_getElem? (i := 487) (by decide +kernel), List.mem_of_getElem? (i := 611) (by decide +kernel), List.mem_of_getElem? (i := 612) (by decide +kernel)⟩
theorem lw_p31 : lw_okq (⟨"SorterStepsModel", "leave", "(III)V"⟩, 23) := ⟨⟨by decide +kernel, by decide +kernel⟩, List.mem_of_getElem? (i := 487) (by decide +kernel), List.mem_of_getElem? (i := 615) (by decide +kernel), List.mem_of_getElem? (i := 616) (by decide +kernel)⟩
def lw_privs_2 : List (MethodName × Nat) := [(⟨"SorterSteps", "isFull", "(I)Z"⟩, 10), (⟨"SorterSteps", "takeOffTray", "(LSorterSteps$Item;II)V"⟩, 10), (⟨"SorterSteps", "readAgainAtStart", "()V"⟩, 10), (⟨"SorterSteps", "requireChute", "(I)V"⟩, 10), (⟨"SorterSteps", "setFull", "(IZ)V"⟩, 10), (⟨"SorterSteps", "doubtItemAt", "(I)V"⟩, 10), (⟨"SorterSteps", "countNotFound", "()I"⟩, 10), (⟨"SorterSteps", "endDoubt", "(LSorterSteps$Item;)V"⟩, 10), (⟨"SorterSteps", "positionOf", "(LSorterSteps$Item;)I"⟩, 10), (⟨"SorterStepsModel", "isItem", "(I)Z"⟩, 23), (⟨"SorterStepsModel", "isCode", "(I)Z"⟩, 23), (⟨"SorterStepsModel", "isChute", "(I)Z"⟩, 23), (⟨"SorterStepsModel", "chutes", "()I"⟩, 23), (⟨"SorterStepsModel", "trayAt", "(I)I"⟩, 23), (⟨"SorterStepsModel", "atChute", "(I)V"⟩, 23), (⟨"SorterStepsModel", "leave", "(III)V"⟩, 23)]
theorem lw_r2 : ∀ q ∈ lw_privs_2, lw_okq q := List.forall_mem_cons.mpr ⟨lw_p16, List.forall_mem_cons.mpr ⟨lw_p17, List.forall_mem_cons.mpr ⟨lw_p18, List.forall_mem_cons.mpr ⟨lw_p19, List.forall_mem_cons.mpr ⟨lw_p20, List.forall_mem_cons.mpr ⟨lw_p21, List.forall_mem_cons.mpr ⟨lw_p22, List.forall_mem_cons.mpr ⟨lw_p23, List.forall_mem_cons.mpr ⟨lw_p24, List.forall_mem_cons.mpr ⟨lw_p25, List.forall_mem_cons.mpr ⟨lw_p26, List.forall_mem_cons.mpr ⟨lw_p27, List.forall_mem_cons.mpr ⟨lw_p28, List.forall_mem_cons.mpr ⟨lw_p29, List.forall_mem_cons.mpr ⟨lw_p30, List.forall_mem_cons.mpr ⟨lw_p31, fun _ h => absurd h List.not_mem_nil⟩⟩⟩⟩⟩⟩⟩⟩⟩⟩⟩⟩⟩⟩⟩⟩
theorem lw_p32 : lw_okq (⟨"SorterStepsModel", "atReader", "()V"⟩, 23) := ⟨⟨by decide +kernel, by decide +kernel⟩, List.mem_of_getElem? (i := 487) (by decide +kernel), List.mem_of_getElem? (i := 619) (by decide +kernel), List.mem_of_getElem? (i := 620) (by decide +kernel)⟩
theorem lw_p33 : lw_okq (⟨"SorterStepsModel", "trayOf", "(I)I"⟩, 23) := ⟨⟨by decide +kernel, by decide +kernel⟩, List.mem_of_getElem? (i := 487) (by decide +kernel), List.mem_of_getElem? (i := 647) (by decide +kernel), List.mem_of_getElem? (i := 648) (by decide +kernel)⟩
def lw_privs_3 : List (MethodName × Nat) := [(⟨"SorterStepsModel", "atReader", "()V"⟩, 23), (⟨"SorterStepsModel", "trayOf", "(I)I"⟩, 23)]
theorem lw_r3 : ∀ q ∈ lw_privs_3, lw_okq q := List.forall_mem_cons.mpr ⟨lw_p32, List.forall_mem_cons.mpr ⟨lw_p33, fun _ h => absurd h List.not_mem_nil⟩⟩
def lw_privs : List (MethodName × Nat) := lw_privs_1 ++ (lw_privs_2 ++ (lw_privs_3))
def lw_tbl : List Cond := k2_sels lw_privs ++ tables_1
theorem lw_privs_ok : ∀ q ∈ lw_privs, lw_okq q := by
  show ∀ q ∈ lw_privs_1 ++ (lw_privs_2 ++ (lw_privs_3)), lw_okq q
  exact List.forall_mem_append.mpr ⟨lw_r1, List.forall_mem_append.mpr ⟨lw_r2, lw_r3⟩⟩
end
section
/-! an exception that a callee threw, taken by a row of this method's own table behind rows that do not take it: the search through the table, one row after the other, each row's type linked or not yet -/
section CT
/-- what the search finds, and the tables that it leaves -/
def ct_Finds (e : Env) (s : State) (f : JFrame) (a : Addr) (h : Handler) (vm' : Vm) : Prop :=
  ∀ (Q : Handler → Pre) (E : CtlPost) (d : Bool) (acts : List Action), wp (findHandler f a) Q E e d acts s ↔ Q h d acts (s.setVm vm')
theorem ct_take {Q : Handler → Pre} {E : CtlPost} {e : Env} {d : Bool} {acts : List Action} {s : State} {f : JFrame} {a : Addr} {x : ExceptionTableEntry} {t : List ExceptionTableEntry} {c : ClassId} {cell : Cell} (hx : covers x f.pc = true) (h0 : x.catchType ≠ 0)
    (hl : s.vm.ClassLinks e.platform f.method.cls x.catchType c) (hcell : s.heap[a]? = some cell) (hobj : ∀ k, cell.vm ≠ .statics k)
    (hk : ∃ k, s.vm.classes[cell.cls]? = some k) (hc : ∃ k, s.vm.classes[c]? = some k) (hfit : s.vm.assignable cell.cls c = true) :
    wp (findHandler.go f a (x :: t)) Q E e d acts s ↔ Q (.found x.handlerPc) d acts (s.setVm (s.vm.noted f.method.cls x.catchType (.cls c))) := by
  simp only [covers] at hx
  obtain ⟨ha, ht⟩ := (resolveClass_links e.toSetting hl).op (op := VmOp.resolveClass f.method.cls x.catchType) rfl
  have hal : s.vm.Alike (s.vm.noted f.method.cls x.catchType (.cls c)) := (Vm.Alike.refl s.vm).noted _ _ _
  obtain ⟨k1, hk1⟩ := hk
  obtain ⟨k2, hk2⟩ := hc
  obtain ⟨k1', hk1', -⟩ := hal.2.2 _ _ hk1
  obtain ⟨k2', hk2', -⟩ := hal.2.2 _ _ hk2
  have hfit' : (s.vm.noted f.method.cls x.catchType (.cls c)).assignable cell.cls c = true := by rw [hal.assignable]; exact hfit
  simp [findHandler.go, hx, h0, ha, ht, hcell, hobj, hk1', hk2', hfit', VmOp.dirties, VmOp.acts]
theorem ct_pass {Q : Handler → Pre} {E : CtlPost} {e : Env} {d : Bool} {acts : List Action} {s : State} {f : JFrame} {a : Addr} {x : ExceptionTableEntry} {t : List ExceptionTableEntry} {c : ClassId} {cell : Cell} (hx : covers x f.pc = true) (h0 : x.catchType ≠ 0)
    (hl : s.vm.ClassLinks e.platform f.method.cls x.catchType c) (hcell : s.heap[a]? = some cell) (hobj : ∀ k, cell.vm ≠ .statics k)
    (hk : ∃ k, s.vm.classes[cell.cls]? = some k) (hc : ∃ k, s.vm.classes[c]? = some k) (hno : s.vm.assignable cell.cls c = false) :
    wp (findHandler.go f a (x :: t)) Q E e d acts s ↔ wp (findHandler.go f a t) Q E e d acts (s.setVm (s.vm.noted f.method.cls x.catchType (.cls c))) := by
  simp only [covers] at hx
  obtain ⟨ha, ht⟩ := (resolveClass_links e.toSetting hl).op (op := VmOp.resolveClass f.method.cls x.catchType) rfl
  have hal : s.vm.Alike (s.vm.noted f.method.cls x.catchType (.cls c)) := (Vm.Alike.refl s.vm).noted _ _ _
  obtain ⟨k1, hk1⟩ := hk
  obtain ⟨k2, hk2⟩ := hc
  obtain ⟨k1', hk1', -⟩ := hal.2.2 _ _ hk1
  obtain ⟨k2', hk2', -⟩ := hal.2.2 _ _ hk2
  have hno' : (s.vm.noted f.method.cls x.catchType (.cls c)).assignable cell.cls c = false := by rw [hal.assignable]; exact hno
  simp [findHandler.go, hx, h0, ha, ht, hcell, hobj, hk1', hk2', hno', VmOp.dirties, VmOp.acts]
/-- a row that is passed: it lies elsewhere, or its class doesn't take the object -/
def ct_Passed (pl : Platform) (s₀ : State) (d : ClassId) (pc : Nat) (thrown : ClassId) (y : ExceptionTableEntry) : Prop :=
  covers y pc = false ∨ (y.catchType ≠ 0 ∧ ∃ c, s₀.vm.ClassLinks pl d y.catchType c ∧ s₀.vm.assignable thrown c = false)
theorem ct_through {e : Env} {s₀ : State} {f : JFrame} {a : Addr} {cell : Cell} (hobj : ∀ k, cell.vm ≠ .statics k) (hk0 : ∃ k, s₀.vm.classes[cell.cls]? = some k)
    (x : ExceptionTableEntry) (rest : List ExceptionTableEntry) (hx : covers x f.pc = true) (h0 : x.catchType ≠ 0) {c : ClassId} (hl : s₀.vm.ClassLinks e.platform f.method.cls x.catchType c) (hfit : s₀.vm.assignable cell.cls c = true) :
    ∀ (pre : List ExceptionTableEntry) (S : State), s₀.WarmedH S.vm → S.heap[a]? = some cell → (∀ y ∈ pre, ct_Passed e.platform s₀ f.method.cls f.pc cell.cls y) →
      ∃ vm', s₀.WarmedH vm' ∧ ∀ (Q : Handler → Pre) (E : CtlPost) (d : Bool) (acts : List Action), wp (findHandler.go f a (pre ++ x :: rest)) Q E e d acts S ↔ Q (.found x.handlerPc) d acts (S.setVm vm') := by
  obtain ⟨k0, hk0⟩ := hk0
  intro pre
  induction pre with
  | nil =>
    intro S hW hcell _
    obtain ⟨k0', hk0', -⟩ := hW.alike.2.2 _ _ hk0
    obtain ⟨dk, _, _, kt, hd, _, _, _, _, hkt, _, hopen⟩ := hl.here
    obtain ⟨kt', hkt', -⟩ := hW.alike.2.2 _ _ hkt
    exact ⟨_, hW.noted hd hopen (State.rightAt_cls hl), fun Q E d acts => by
      rw [List.nil_append]
      exact ct_take hx h0 (hW.classLinks hl) hcell hobj ⟨k0', hk0'⟩ ⟨kt', hkt'⟩ (by rw [hW.alike.assignable]; exact hfit)⟩
  | cons y ys ih =>
    intro S hW hcell hpass
    obtain ⟨k0', hk0', -⟩ := hW.alike.2.2 _ _ hk0
    have hrest : ∀ z ∈ ys, ct_Passed e.platform s₀ f.method.cls f.pc cell.cls z := fun z hz => hpass z (List.mem_cons_of_mem _ hz)
    by_cases hcov : covers y f.pc = true
    · rcases hpass y List.mem_cons_self with h | ⟨h1, c1, hl1, hno⟩
      · rw [h] at hcov; cases hcov
      · obtain ⟨dk, _, _, kt, hd, _, _, _, _, hkt, _, hopen⟩ := hl1.here
        obtain ⟨kt', hkt', -⟩ := hW.alike.2.2 _ _ hkt
        obtain ⟨vm', hW', hq⟩ := ih (S.setVm (S.vm.noted f.method.cls y.catchType (.cls c1))) (hW.noted hd hopen (State.rightAt_cls hl1)) hcell hrest
        exact ⟨vm', hW', fun Q E d acts => by
          rw [List.cons_append, ct_pass hcov h1 (hW.classLinks hl1) hcell hobj ⟨k0', hk0'⟩ ⟨kt', hkt'⟩ (by rw [hW.alike.assignable]; exact hno)]
          exact hq Q E d acts⟩
    · obtain ⟨vm', hW', hq⟩ := ih S hW hcell hrest
      exact ⟨vm', hW', fun Q E d acts => by
        rw [List.cons_append, Jvm.W.findHandler_go_skip (by simpa using hcov)]
        exact hq Q E d acts⟩
theorem ct_stepTo {e : Env} {s : State} {a : Addr} {f : JFrame} {r : List Frame} {pc : Nat} {vm' : Vm} (hfind : ct_Finds e s f a (.found pc) vm') :
    (stepThrowing e s a (.java f :: r)).Is ((s.setVm vm').setFrames (.java { f with pc := pc, stack := [.ref a] } :: r)) [] := by
  simp only [stepThrowing, searchFrame, vmDo]
  generalize hr : Sem.go _ e false [] s = res
  obtain ⟨as, rfl, ha⟩ := Sem.eq_ok_of hr (a := Handler.found pc) (s' := s.setVm vm') (acts' := []) (by simp [hfind _ _ _ _])
  exact ⟨rfl, ha⟩
theorem ct_frames (u : State) (vm' : Vm) (F G : List Frame) : ((u.setFrames F).setVm vm').setFrames G = (u.setVm vm').setFrames G := by
  have h1 : (u.setFrames F).setVm vm' = (u.setVm vm').setFrames F := rfl
  rw [h1, State.setFrames_setFrames]
theorem ct_stepsTo {tb : Tables} {e : Env} {s target : State} {g : JFrame} {c : Code} {below : List Frame} {a : Addr} (h : At s g.method c below) {pc : Nat} {vm' : Vm}
    (hfind : ct_Finds e ((s.setTop g).pushFrame (.throwing a)) g a (.found pc) vm') (hrest : Steps tb e below ((s.setVm vm').setTop { g with pc := pc, stack := [.ref a] }) target) :
    Steps tb e below ((s.setTop g).pushFrame (.throwing a)) target := by
  obtain ⟨hgo, hw⟩ := h.throwing a
  refine Steps.head hgo hw ?_
  rw [stepThread_throwing (frames_entered h.top _), (ct_stepTo (s := (s.setTop g).pushFrame (.throwing a)) hfind).1]
  obtain ⟨g₀, hg⟩ := Option.isSome_iff_exists.mp h.top
  obtain ⟨r, hr⟩ := State.topJava?_eq_some.mp hg
  have hr' : (s.setVm vm').frames = .java g₀ :: r := hr
  rw [State.setTop_of_frames _ hr'] at hrest
  rw [hr, List.tail_cons, State.pushFrame, ct_frames, State.setTop_of_frames _ hr, ct_frames]
  exact hrest
theorem ct_caught {p : Program} {l : Launch} {e : Env} {R : Room} {s : State} {m₀ : MethodId} {args : Array Value} {below : List Frame} {meth : Method} {c : Code} {T : State} {locs : List Loc} {cells slots : Nat} (X : Stand p l e R s m₀ args below meth c T locs cells slots) (a : Addr) {g : JFrame} (hg : g.method = m₀)
    {cell : Cell} (hcell : T.heap[a]? = some cell) (hobj : cell.vm.isStatics = false) (hk0 : ∃ k, s.vm.classes[cell.cls]? = some k)
    (pre : List ExceptionTableEntry) (x : ExceptionTableEntry) (rest : List ExceptionTableEntry) (hsplit : c.exceptionTable.toList = pre ++ x :: rest)
    (hpass : ∀ y ∈ pre, ct_Passed e.platform s m₀.cls g.pc cell.cls y) (hx : covers x g.pc = true) (h0 : x.catchType ≠ 0) {cT : ClassId} (hl : s.vm.ClassLinks e.platform m₀.cls x.catchType cT) (hfit : s.vm.assignable cell.cls cT = true) :
    ∃ vm', Stand p l e R s m₀ args below meth c (T.setVm vm') locs cells slots ∧ ∀ target, Steps p.tables e below ((T.setVm vm').setTop { g with pc := x.handlerPc, stack := [.ref a] }) target → Steps p.tables e below ((T.setTop g).pushFrame (.throwing a)) target := by
  subst hg
  obtain ⟨vm', hW', hq⟩ := ct_through (e := e) (s₀ := s) (f := g) (a := a) (cell := cell) (VmData.ne_statics_of hobj) hk0 x rest hx h0 hl hfit pre ((T.setTop g).pushFrame (.throwing a)) X.warmed hcell hpass
  have hf : ct_Finds e ((T.setTop g).pushFrame (.throwing a)) g a (.found x.handlerPc) vm' := fun Q E d acts => by
    rw [Jvm.W.findHandler_eq (s := (T.setTop g).pushFrame (.throwing a)) (meth := meth) (code := c) X.method' X.code, hsplit]
    exact hq Q E d acts
  exact ⟨vm', X.noted hW', fun target hrest => ct_stepsTo X.here hf hrest⟩
end CT
/-! ===== BEGIN words of one list among another's, by their places ===== -/
theorem goodIn_r {big : List Cond} (ws : List Cond) (ps : List Nat) (hp : ws = ps.filterMap (fun i => big[i]?)) (h : ws.all goodWord = true) : GoodIn big ws := by
  intro w hw
  have h1 := List.all_eq_true.mp h w hw
  rw [hp] at hw
  obtain ⟨i, -, hi⟩ := List.mem_filterMap.mp hw
  have hm : w ∈ big := by first | exact List.mem_of_getElem? hi | exact List.getElem?_mem hi
  exact ⟨hm, good_of_word h1⟩
theorem goodIn_app {big a b : List Cond} (ha : GoodIn big a) (hb : GoodIn big b) : GoodIn big (a ++ b) := fun w h => (List.mem_append.mp h).elim (ha w) (hb w)
theorem goodIn_ca {big a b : List Cond} {c : Cond} (ha : GoodIn big (c :: a)) (hb : GoodIn big b) : GoodIn big (c :: (a ++ b)) := fun w h => (List.mem_cons.mp h).elim (fun e => ha w (List.mem_cons.mpr (Or.inl e))) (fun h => (List.mem_append.mp h).elim (fun h => ha w (List.mem_cons.mpr (Or.inr h))) (hb w))
theorem goodIn_sub {big ws : List Cond} (hm : ∀ w ∈ ws, w ∈ big) (h : ws.all goodWord = true) : GoodIn big ws := fun w hw => ⟨hm w hw, good_of_word (List.all_eq_true.mp h w hw)⟩
/-! ===== END ===== -/

/-! ===== BEGIN exceptions that leave a method, and their catching by the caller (launches without stack traces) ===== -/
section VXA
/-! The laws vx_back, vx_callV, vx_callS, vx_callSW, vx_throw0, vx_throwS follow proofs of the library, with one case more: JvmDerived/Free/Laws.lean (Back.of_free), Shelf42/LK1.lean (callV, callS), Shelf/KitTraced.lean (throwNew0V, throwNewS). -/
/-- where a method has thrown q: the class by its name, the cell, what was written, the world -/
def vx_T (XC : String → State → State → Prop) (st : State) (q : Addr) (t : State) (mc ms : Nat) (free : Addr → Prop) : Prop :=
  ∃ (E : String) (ce : Cell) (L : List Loc), XC E st t ∧ t.heap[q]? = some ce ∧ ce.vm = .none ∧ st.vm.findClass E = some ce.cls ∧ st.WarmedH t.vm ∧ st.sameButNew ({ t with vm := st.vm } : State) L mc ms ∧ ∀ z ∈ L, free z.base
def vx_Q (Qc : Array Value → State → Outcome → State → Prop) (XC : String → State → State → Prop) (mc ms : Nat) (free : Addr → Prop) : Array Value → State → Outcome → State → Prop := fun a st o t =>
  (Qc a st o t ∧ ∃ L, FrameEnd st o t L mc ms ∧ ∀ q ∈ L, free q.base) ∨ ∃ q, o = .threw q ∧ vx_T XC st q t mc ms free
/-- a callee that returns or throws -/
def vx_Met (l : Launch) (y : MethodName) (ws : List Cond) (rm : Room) (Pc : Array Value → State → Prop) (Qc : Array Value → State → Outcome → State → Prop) (XC : String → State → State → Prop) (mc ms : Nat) (free : Addr → Prop) : Prop :=
  MetFree l y (headSpec ws rm) Pc (fun _ _ _ _ _ => True) (vx_Q Qc XC mc ms free)
def vx_Post (XC : String → State → State → Prop) (mc ms : Nat) (free : Addr → Prop) : Pt → Array Value → Addr → Pt → Prop := fun A a q B =>
  ∃ (g : JFrame) (mk : MethodId) (t : State) (L : List Loc) (E : String) (ce : Cell), B.U.heap = t.heap ∧ B.U.vm = t.vm ∧ XC E (A.U.calling g mk a) t ∧ t.heap[q]? = some ce ∧ ce.vm = .none ∧ A.U.vm.findClass E = some ce.cls ∧ B.locs = A.locs ++ L ∧ (∀ z ∈ L, free z.base) ∧ B.cells = A.cells + mc ∧ B.slots = A.slots + ms
def vx_Back (l : Launch) (R : Room) (p : Program) (e : Env) (below : List Frame) (s : State) (sargs : Array Value) (y : MethodName) (len W9 : Nat)
    (Pre : Pt → Array Value → Prop) (Post : Pt → Array Value → Option Value → Pt → Prop) (PostX : Pt → Array Value → Addr → Pt → Prop) : Prop :=
  ∀ (m : MethodId) (meth : Method) (c : Code) (A : Pt) (g : JFrame) (ig : Instr) (mk : MethodId) (a : Array Value),
    Stand p l e R s m sargs below meth c A.U A.locs A.cells A.slots → g.method = m → g.locals.size = c.maxLocals → decode c.code g.pc = .ok (ig, len) →
    2 * g.monitorRoom + (g.stack.map fun v => v.category).sum ≤ W9 → A.U.methodNamed? y = some mk → Pre A a →
    (∃ (v : Option Value) (B : Pt), Stand p l e R s m sargs below meth c B.U B.locs B.cells B.slots ∧ Post A a v B ∧
      Steps p.tables e below (doInvoke e (A.U.setTop g) [] mk a).1 (B.U.setTop { g with pc := g.pc + len, stack := v.toList ++ g.stack })) ∨
    (∃ (q : Addr) (B : Pt), Stand p l e R s m sargs below meth c B.U B.locs B.cells B.slots ∧ PostX A a q B ∧
      Steps p.tables e below (doInvoke e (A.U.setTop g) [] mk a).1 ((B.U.setTop g).pushFrame (.throwing q)))
section Payer
variable {l : Launch} {R : Room} {p : Program} {e : Env} {below : List Frame} {s : State} {sargs : Array Value} {y : MethodName} {len W9 : Nat}
theorem vx_back {ws : List Cond} {rm : Room} {Pc : Array Value → State → Prop} {Qc : Array Value → State → Outcome → State → Prop} {XC : String → State → State → Prop} {mc ms : Nat} {free : Addr → Prop} {bytes : ByteArray} {maxL : Nat} {ret : Option FieldType}
    (hM : vx_Met l y ws rm Pc Qc XC mc ms free) (hblind : FrameBlind Pc) (hrc : rm.cells = mc) (hrs : rm.slots = ms)
    (hframes : rm.frames + 1 ≤ R.frames) (hlocals : W9 + (maxL + 11) + rm.locals ≤ R.locals)
    (hws : ∀ w ∈ ws, ∀ a' U, s.WarmedH U.vm → w.before a' U = true) (hcode : Cond.code y bytes maxL ret ∈ ws) (hinit : ∀ a' U, s.WarmedH U.vm → (Cond.initialized y.cls).before a' U = true) :
    vx_Back l R p e below s sargs y len W9 (PreOf R mc ms Pc) (PostOf Qc mc ms free) (vx_Post XC mc ms free) := by
  intro m meth c A g ig mk a X hg hsize hdg hW hn hp
  have h1 : (headSpec ws rm).pre.before a A.U = true := atoms_intro fun w hw => hws w hw _ _ X.warmed
  have h2 : (Cond.code y bytes maxL ret).before a A.U = true := hws _ hcode _ _ X.warmed
  have h3 : (Cond.initialized y.cls).before a A.U = true := hinit _ _ X.warmed
  have h4 : A.cells + (headSpec ws rm).room.cells ≤ R.cells := by rw [show (headSpec ws rm).room.cells = mc from hrc]; exact hp.1
  have h5 : A.slots + (headSpec ws rm).room.slots ≤ R.slots := by rw [show (headSpec ws rm).room.slots = ms from hrs]; exact hp.2.1
  have hPc : Pc a (A.U.calling g mk a) := hblind _ _ _ _ hp.2.2
  obtain ⟨U, Ls, c0, s0⟩ := A
  dsimp only [Pt.U, Pt.locs, Pt.cells, Pt.slots] at h1 h2 h3 h4 h5 X hn hPc ⊢
  obtain ⟨methY, cY, hmY, hcY, -, hlY, -, -, -, -⟩ := Cond.code_spec hn h2
  obtain ⟨kY, hkY, -⟩ := className_of_methodNamed hn
  have hinitY : kY.init = .initialized := Cond.initialized_spec (findClass_of_methodNamed hn) hkY h3
  have h : At U g.method c below := by rw [hg]; exact X.here
  have hlocals9 : W9 + (maxL + 11) + (headSpec ws rm).room.locals ≤ R.locals := hlocals
  have happ : (headSpec ws rm).appliesLoose y e.platform (U.calling g mk a) = true :=
    Spec.appliesLoose_calling (g := g) h hdg hn hkY hinitY
      (X.room_calling (g := g) (R' := (headSpec ws rm).room) hsize hmY hcY hframes (by rw [hlY]; omega) h4 h5) h1
  obtain ⟨mid, hmid⟩ := h.above
  have hfr : (U.setTop g).frames = (.java g :: mid) ++ below := by rw [State.frames_setTop' g h.top, hmid]; rfl
  obtain ⟨o, s₂, hsteps, -, hend, hq⟩ := Steps.callFree hM p X.admits X.cas X.clock (acts := []) hfr happ hPc trivial
  have hq' : vx_Q Qc XC mc ms free a (U.calling g mk a) o s₂ := hq
  rw [State.frames_setTop' g h.top] at hend
  obtain ⟨g₀, hg0⟩ := Option.isSome_iff_exists.mp h.top
  obtain ⟨r, hr⟩ := State.topJava?_eq_some.mp hg0
  have hr' : (({ U with heap := s₂.heap, slotsUsed := s₂.slotsUsed } : State).setVm s₂.vm).frames = .java g₀ :: r := hr
  rcases hq' with ⟨hqc, L, hfe, hL⟩ | ⟨q, rfl, E, ce, L, hx, hce, hcv, hcl, hW₂, hsm, hL⟩
  · obtain ⟨⟨v, rfl⟩, hW₂, e2, q2, q3, q4, q5, q6⟩ := id hfe
    have e3 : s₂ = ({ (U.calling g mk a).setFrames s₂.frames with heap := s₂.heap, slotsUsed := s₂.slotsUsed } : State).setVm s₂.vm := by
      have : s₂ = ({ s₂ with vm := (U.calling g mk a).vm } : State).setVm s₂.vm := rfl
      rw [e2] at this
      exact this
    obtain ⟨c₂, i₂, len₂, hc₂, hd₂, hf₂⟩ := hend
    have hW' : U.WarmedH s₂.vm := hW₂
    have hcc : c₂ = c := by
      have h1 : s₂.code? g.method = U.code? g.method := by
        rw [State.code?_eq, State.code?_eq, hW'.alike.method?]
      exact Option.some.inj (hc₂.symm.trans (h1.trans h.code))
    subst hcc
    have hlen : len₂ = len := by rw [hdg] at hd₂; cases hd₂; rfl
    subst hlen
    have hs₂ : s₂ = (({ U with heap := s₂.heap, slotsUsed := s₂.slotsUsed } : State).setVm s₂.vm).setTop { g with pc := g.pc + len₂, stack := v.toList ++ g.stack } := by
      refine e3.trans ?_
      rw [hf₂, State.calling_eq h.top, State.setFrames_setFrames, State.setTop_of_frames _ hr', hr]
      rfl
    have hsame : U.sameButNew ({ U with heap := s₂.heap, slotsUsed := s₂.slotsUsed } : State) L mc ms := by
      refine ⟨?_, q2, q3, q4, q5, q6⟩
      obtain ⟨t, ht, -⟩ := State.frames_cons hr
      show ({ U with heap := s₂.heap, slotsUsed := s₂.slotsUsed } : State) = { U.setFrames U.frames with heap := s₂.heap, slotsUsed := s₂.slotsUsed }
      rw [State.setFrames_self ht]
    subst hg
    refine Or.inl ⟨v, ⟨(({ U with heap := s₂.heap, slotsUsed := s₂.slotsUsed } : State).setVm s₂.vm), Ls ++ L, c0 + mc, s0 + ms⟩,
      ⟨X.admits, X.cas, X.clock, X.frames, X.room, X.hears, X.method, X.code, (X.here.setHeapUsed s₂.heap s₂.slotsUsed).setVm hW'.alike, X.tail, State.WarmedH.trans X.warmed hW', X.limits, X.bytes, X.same.trans (hsame.setVm s.vm)⟩,
      ⟨g, mk, s₂, L, rfl, rfl, hqc, rfl, hL, rfl, rfl⟩, ?_⟩
    show Steps p.tables e below _ ((({ U with heap := s₂.heap, slotsUsed := s₂.slotsUsed } : State).setVm s₂.vm).setTop { g with pc := g.pc + len₂, stack := v.toList ++ g.stack })
    rw [← hs₂]
    exact hsteps
  · obtain ⟨e2, q2, q3, q4, q5, q6⟩ := id hsm
    have e3 : s₂ = ({ (U.calling g mk a).setFrames s₂.frames with heap := s₂.heap, slotsUsed := s₂.slotsUsed } : State).setVm s₂.vm := by
      have : s₂ = ({ s₂ with vm := (U.calling g mk a).vm } : State).setVm s₂.vm := rfl
      rw [e2] at this
      exact this
    have hf₂ : s₂.frames = .throwing q :: .java g :: U.frames.tail := hend
    have hW' : U.WarmedH s₂.vm := hW₂
    have hs₂ : s₂ = ((({ U with heap := s₂.heap, slotsUsed := s₂.slotsUsed } : State).setVm s₂.vm).setTop g).pushFrame (.throwing q) := by
      refine e3.trans ?_
      rw [hf₂, State.calling_eq h.top, State.setFrames_setFrames, State.pushFrame, State.frames_setTop _ hr', State.setTop_of_frames _ hr', State.setFrames_setFrames, hr]
      rfl
    have hsame : U.sameButNew ({ U with heap := s₂.heap, slotsUsed := s₂.slotsUsed } : State) L mc ms := by
      refine ⟨?_, q2, q3, q4, q5, q6⟩
      obtain ⟨t, ht, -⟩ := State.frames_cons hr
      show ({ U with heap := s₂.heap, slotsUsed := s₂.slotsUsed } : State) = { U.setFrames U.frames with heap := s₂.heap, slotsUsed := s₂.slotsUsed }
      rw [State.setFrames_self ht]
    subst hg
    refine Or.inr ⟨q, ⟨(({ U with heap := s₂.heap, slotsUsed := s₂.slotsUsed } : State).setVm s₂.vm), Ls ++ L, c0 + mc, s0 + ms⟩,
      ⟨X.admits, X.cas, X.clock, X.frames, X.room, X.hears, X.method, X.code, (X.here.setHeapUsed s₂.heap s₂.slotsUsed).setVm hW'.alike, X.tail, State.WarmedH.trans X.warmed hW', X.limits, X.bytes, X.same.trans (hsame.setVm s.vm)⟩,
      ⟨g, mk, s₂, L, E, ce, rfl, rfl, hx, hce, hcv, hcl, rfl, hL, rfl, rfl⟩, ?_⟩
    show Steps p.tables e below _ (((({ U with heap := s₂.heap, slotsUsed := s₂.slotsUsed } : State).setVm s₂.vm).setTop g).pushFrame (.throwing q))
    rw [← hs₂]
    exact hsteps
end Payer
section Calls
variable {p : Program} {l : Launch} {e : Env} {R : Room} {s : State} {m : MethodId} {args : Array Value} {below : List Frame} {meth : Method} {c : Code} {T : State} {locs : List Loc} {cells slots : Nat}
theorem vx_callV (X : Stand p l e R s m args below meth c T locs cells slots) (hexec : p.tables.exec = Jvm.exec) {own C : String} {index : Nat} {y : MethodName} {bytes : ByteArray} {maxL : Nat} {ret : Option FieldType}
    (hown : s.vm.findClass own = some m.cls) (hlink : (Cond.methodLink own index y).before args s = true) (hinst : (Cond.instanceMethod y).before args s = true) (hsel : (Cond.selects C y y).before args s = true)
    (hcode : (Cond.code y bytes maxL ret).before args s = true) (hy : y.cls ≠ "java/lang/invoke/MethodHandle" ∧ y.cls ≠ "java/lang/invoke/VarHandle")
    {W9 : Nat} {Pre : Pt → Array Value → Prop} {Post : Pt → Array Value → Option Value → Pt → Prop} {PostX : Pt → Array Value → Addr → Pt → Prop} (hK : vx_Back l R p e below s args y 3 W9 Pre Post PostX)
    {b : Addr} {cellB : Cell} (hcell : T.heap[b]? = some cellB) (hobj : cellB.vm.isStatics = false) (hcls : s.vm.findClass C = some cellB.cls)
    {g : JFrame} (hg : g.method = m) (hsize : g.locals.size = c.maxLocals) {argsL rest : List Value} (hlen : ∀ sig, parseMethodDescriptor y.desc = some sig → argsL.length = sig.parameters.length)
    (hstack : g.stack = argsL.reverse ++ .ref b :: rest) (hW : 2 * g.monitorRoom + (rest.map fun v => v.category).sum ≤ W9) (hdg : decode c.code g.pc = .ok (.invokevirtual index, 3))
    (hpre : ∀ vm₁, s.WarmedH vm₁ → Pre ⟨T.setVm vm₁, locs, cells, slots⟩ (Value.ref b :: argsL).toArray) :
    (∃ (v : Option Value) (vm₁ : Vm) (B : Pt), s.WarmedH vm₁ ∧ Stand p l e R s m args below meth c B.U B.locs B.cells B.slots ∧ Post ⟨T.setVm vm₁, locs, cells, slots⟩ (Value.ref b :: argsL).toArray v B ∧
      ∀ target, Steps p.tables e below (B.U.setTop { g with pc := g.pc + 3, stack := v.toList ++ rest }) target → Steps p.tables e below (T.setTop g) target) ∨
    (∃ (q : Addr) (vm₁ : Vm) (B : Pt), s.WarmedH vm₁ ∧ Stand p l e R s m args below meth c B.U B.locs B.cells B.slots ∧ PostX ⟨T.setVm vm₁, locs, cells, slots⟩ (Value.ref b :: argsL).toArray q B ∧
      Steps p.tables e below (T.setTop g) ((B.U.setTop { g with stack := rest }).pushFrame (.throwing q))) := by
  obtain ⟨mk, methM, hnamed, hmethM, hstM, habM⟩ := Cond.instanceMethod_spec hinst
  obtain ⟨methM', cM, hmethM', -, -, -, -, -, -, hsigM⟩ := Cond.code_spec hnamed hcode
  cases hmethM.symm.trans hmethM'
  obtain ⟨c2, r2, m2, q1, q2, q3, q4, kP, hkP, hkPi⟩ := Cond.selects_spec hsel
  cases hcls.symm.trans q1
  cases (State.methodFound?_of_named hnamed hy).symm.trans q2
  cases hnamed.symm.trans q3
  have hselP : selectMethod e.platform s.vm cellB.cls mk = .method mk := by rw [Launch.admits_selectMethod X.admits]; exact q4
  obtain ⟨vm₁, X₁, hstep₁⟩ := X.invokevirtual hexec hown hlink hnamed hmethM hstM hkP hkPi hy (a := b) (cell := cellB) hcell
    (fun z h => by rw [h] at hobj; cases hobj) hselP hmethM habM hkP hkPi (g := g) hg (argsL := argsL) (rest := rest) (hlen _ hsigM) hstack hdg
  rcases hK m meth c ⟨T.setVm vm₁, locs, cells, slots⟩ { g with stack := rest } (.invokevirtual index) mk (Value.ref b :: argsL).toArray X₁ hg hsize hdg hW (X₁.named hnamed) (hpre vm₁ X₁.warmed) with ⟨v, B, X', hpost, hsteps⟩ | ⟨q, B, X', hpost, hsteps⟩
  · exact Or.inl ⟨v, vm₁, B, X₁.warmed, X', hpost, fun target h => hstep₁ _ fun acts => by rw [doInvoke_state]; exact hsteps.trans h⟩
  · exact Or.inr ⟨q, vm₁, B, X₁.warmed, X', hpost, hstep₁ _ fun acts => by rw [doInvoke_state]; exact hsteps⟩
theorem vx_callS (X : Stand p l e R s m args below meth c T locs cells slots) (hexec : p.tables.exec = Jvm.exec) {own : String} {index : Nat} {y : MethodName} {bytes : ByteArray} {maxL : Nat} {ret : Option FieldType}
    (hown : s.vm.findClass own = some m.cls) (hlink : (Cond.methodLink own index y).before args s = true) (hstat : (Cond.static y).before args s = true) (hinit : (Cond.initialized y.cls).before args s = true)
    (hcode : (Cond.code y bytes maxL ret).before args s = true) (hy : y.cls ≠ "java/lang/invoke/MethodHandle" ∧ y.cls ≠ "java/lang/invoke/VarHandle")
    {W9 : Nat} {Pre : Pt → Array Value → Prop} {Post : Pt → Array Value → Option Value → Pt → Prop} {PostX : Pt → Array Value → Addr → Pt → Prop} (hK : vx_Back l R p e below s args y 3 W9 Pre Post PostX)
    {g : JFrame} (hg : g.method = m) (hsize : g.locals.size = c.maxLocals) {argsL rest : List Value} (hlen : ∀ sig, parseMethodDescriptor y.desc = some sig → argsL.length = sig.parameters.length)
    (hstack : g.stack = argsL.reverse ++ rest) (hW : 2 * g.monitorRoom + (rest.map fun v => v.category).sum ≤ W9) (hdg : decode c.code g.pc = .ok (.invokestatic index, 3))
    (hpre : ∀ vm₁, s.WarmedH vm₁ → Pre ⟨T.setVm vm₁, locs, cells, slots⟩ argsL.toArray) :
    (∃ (v : Option Value) (vm₁ : Vm) (B : Pt), s.WarmedH vm₁ ∧ Stand p l e R s m args below meth c B.U B.locs B.cells B.slots ∧ Post ⟨T.setVm vm₁, locs, cells, slots⟩ argsL.toArray v B ∧
      ∀ target, Steps p.tables e below (B.U.setTop { g with pc := g.pc + 3, stack := v.toList ++ rest }) target → Steps p.tables e below (T.setTop g) target) ∨
    (∃ (q : Addr) (vm₁ : Vm) (B : Pt), s.WarmedH vm₁ ∧ Stand p l e R s m args below meth c B.U B.locs B.cells B.slots ∧ PostX ⟨T.setVm vm₁, locs, cells, slots⟩ argsL.toArray q B ∧
      Steps p.tables e below (T.setTop g) ((B.U.setTop { g with stack := rest }).pushFrame (.throwing q))) := by
  obtain ⟨mk, hnamed⟩ := Cond.code_named hcode
  obtain ⟨methM, cM, hmethM, -, -, -, -, -, -, hsigM⟩ := Cond.code_spec hnamed hcode
  have hstatic : methM.isStatic = true := Cond.static_spec hnamed hmethM hstat
  obtain ⟨kP, hkP, -⟩ := className_of_methodNamed hnamed
  have hinitP : kP.init = .initialized := Cond.initialized_spec (findClass_of_methodNamed hnamed) hkP hinit
  obtain ⟨vm₁, X₁, hstep₁⟩ := X.invokestatic hexec hown hlink hnamed hmethM hstatic hkP hinitP hy (g := g) hg (argsL := argsL) (rest := rest) (hlen _ hsigM) hstack hdg
  rcases hK m meth c ⟨T.setVm vm₁, locs, cells, slots⟩ { g with stack := rest } (.invokestatic index) mk argsL.toArray X₁ hg hsize hdg hW (X₁.named hnamed) (hpre vm₁ X₁.warmed) with ⟨v, B, X', hpost, hsteps⟩ | ⟨q, B, X', hpost, hsteps⟩
  · exact Or.inl ⟨v, vm₁, B, X₁.warmed, X', hpost, fun target h => hstep₁ _ fun acts => by rw [doInvoke_state]; exact hsteps.trans h⟩
  · exact Or.inr ⟨q, vm₁, B, X₁.warmed, X', hpost, hstep₁ _ fun acts => by rw [doInvoke_state]; exact hsteps⟩
end Calls
theorem vx_cls {s : State} {T : State} {vm₁ : Vm} {E : String} {k : ClassId} (hW : s.WarmedH vm₁) (h : (T.setVm vm₁).vm.findClass E = some k) : s.vm.findClass E = some k := by
  have h1 : vm₁.findClass E = some k := h
  rw [hW.alike.findClass] at h1
  exact h1
/-- the method's frame g, with q thrown over it -/
def vx_W (p : Program) (l : Launch) (e : Env) (R : Room) (s : State) (m : MethodId) (args : Array Value) (below : List Frame) (meth : Method) (c : Code) (H : Heap) (locs : List Loc) (cells slots : Nat) (Q : State → Prop) (g : JFrame) (q : Addr) : Prop :=
  ∀ T : State, T.heap = H → Stand p l e R s m args below meth c T locs cells slots → ∃ t, Steps p.tables e below ((T.setTop g).pushFrame (.throwing q)) t ∧ Q t
def vx_Run (p : Program) (l : Launch) (e : Env) (R : Room) (s : State) (m : MethodId) (args : Array Value) (below : List Frame) (meth : Method) (c : Code) (H : Heap) (locs : List Loc) (cells slots mc ms : Nat) (g : JFrame) (rest : List Value) (Qa : State → Outcome → State → Prop) (XC : String → State → State → Prop) (free : Addr → Prop) : Prop :=
  ∀ T : State, T.heap = H → Stand p l e R s m args below meth c T locs cells slots →
    (∃ (v : Option Value) (st₀ t T' : State) (L : List Loc), st₀.heap = H ∧ Stand p l e R s m args below meth c T' (locs ++ L) (cells + mc) (slots + ms) ∧ (∀ q ∈ L, free q.base) ∧ T'.heap = t.heap ∧ T'.vm = t.vm ∧ Qa st₀ (.returned v) t ∧
      Goes p e below T g T' { g with pc := g.pc + 3, stack := v.toList ++ rest }) ∨
    (∃ (q : Addr) (st₀ t T' : State) (L : List Loc) (E : String) (ce : Cell), st₀.heap = H ∧ Stand p l e R s m args below meth c T' (locs ++ L) (cells + mc) (slots + ms) ∧ (∀ z ∈ L, free z.base) ∧ T'.heap = t.heap ∧ T'.vm = t.vm ∧ XC E st₀ t ∧ t.heap[q]? = some ce ∧ ce.vm = .none ∧ s.vm.findClass E = some ce.cls ∧
      Steps p.tables e below (T.setTop g) ((T'.setTop { g with stack := rest }).pushFrame (.throwing q)))
def vx_X {S : Type} (px : S → Prop) (B : String → S → State → Prop) (A : Nat → Prop) : String → State → State → Prop := fun E st t => ∃ u : S, px u ∧ B E u t ∧ va_F A st t
section Runs
variable {p : Program} {l : Launch} {e : Env} {R : Room} {s : State} {m : MethodId} {args : Array Value} {below : List Frame} {meth : Method} {c : Code} {H : Heap} {locs : List Loc} {cells slots : Nat}
variable {y : MethodName} {bytes cc : ByteArray} {maxL nL mc ms n index : Nat} {ret : Option FieldType} {ws : List Cond} {rm : Room} {Pc : Array Value → State → Prop} {Qc : Array Value → State → Outcome → State → Prop} {XC : String → State → State → Prop} {free : Addr → Prop} {Ts : List Cond} {own C : String} {b : Addr} {As rest : List Value} {g : JFrame}
theorem vx_callBack (cb : CallB R s args own index y bytes maxL ret ws rm mc ms n) (hM : vx_Met l y ws rm Pc Qc XC mc ms free) (hbl : FrameBlind Pc) : vx_Back l R p e below s args y 3 8 (PreOf R mc ms Pc) (PostOf Qc mc ms free) (vx_Post XC mc ms free) := by
  obtain ⟨hrc, hrs, hfr, hlo, hws, hcw, -, hini, -⟩ := cb
  exact vx_back (bytes := bytes) (maxL := maxL) (ret := ret) hM hbl hrc hrs hfr hlo hws hcw (fun a' U hW => word_at hW (Or.inl (by first | rfl | simp [Cond.onTables, Cond.keeps, Cond.steady])) hini)
theorem vx_runV (S : CallFix p m c cc nL s args Ts own) (hM : vx_Met l y ws rm Pc Qc XC mc ms free) (cw : CallW R s args own C index y bytes maxL ret ws rm mc ms n) (hp : PreV s H C b Pc As)
    (hg : g.method = m) (hn : As.length = n) (hsize : g.locals.size = nL) (hstack : g.stack = As.reverse ++ .ref b :: rest) (hW : 2 * g.monitorRoom + (rest.map fun v => v.category).sum ≤ 8) (hdg : decode cc g.pc = .ok (.invokevirtual index, 3)) (hf : cells + mc ≤ R.cells ∧ slots + ms ≤ R.slots) :
    vx_Run p l e R s m args below meth c H locs cells slots mc ms g rest (Qc (Value.ref b :: As).toArray) XC free := by
  have hK : vx_Back l R p e below s args y 3 8 (PreOf R mc ms Pc) (PostOf Qc mc ms free) (vx_Post XC mc ms free) := vx_callBack cw.1 hM hp.1
  obtain ⟨⟨-, -, -, -, -, -, hcode, -, hy, hlen, hl⟩, hin, hse⟩ := cw
  obtain ⟨hx, hb, hml, ho, -⟩ := S
  obtain ⟨-, ⟨cellB, hcB, hoB, hclB⟩, hPc⟩ := hp
  intro T hT X
  rcases vx_callV X hx (C := C) (bytes := bytes) (maxL := maxL) (ret := ret) ho hl hin hse hcode hy hK (by rw [hT]; exact hcB) hoB hclB hg (hsize.trans hml.symm) (argsL := As) (rest := rest) (fun sig h => hn.trans (hlen sig h)) hstack hW (by rw [hb]; exact hdg)
    (fun vm₁ hW₁ => ⟨hf.1, hf.2, hPc (T.setVm vm₁) hT hW₁⟩) with ⟨v, vm₁, ⟨U', l2, c2, s2⟩, hW₁, X', ⟨g', mk, t, L, e1, e2, hq, h1, hL, h2, h3⟩, st⟩ | ⟨q, vm₁, ⟨U', l2, c2, s2⟩, hW₁, X', ⟨g', mk, t, L, E, ce, e1, e2, hq, hce, hcv, hcl, h1, hL, h2, h3⟩, st⟩
  · dsimp only [Pt.U, Pt.locs, Pt.cells, Pt.slots] at X' e1 e2 h1 h2 h3 st
    subst h1; subst h2; subst h3
    exact Or.inl ⟨v, (T.setVm vm₁).calling g' mk (Value.ref b :: As).toArray, t, U', L, hT, X', hL, e1, e2, hq, st⟩
  · dsimp only [Pt.U, Pt.locs, Pt.cells, Pt.slots] at X' e1 e2 h1 h2 h3 st hcl
    subst h1; subst h2; subst h3
    exact Or.inr ⟨q, (T.setVm vm₁).calling g' mk (Value.ref b :: As).toArray, t, U', L, E, ce, hT, X', hL, e1, e2, hq, hce, hcv, vx_cls hW₁ hcl, st⟩
theorem vx_runS (S : CallFix p m c cc nL s args Ts own) (hM : vx_Met l y ws rm Pc Qc XC mc ms free) (cw : CallB R s args own index y bytes maxL ret ws rm mc ms n ∧ (Cond.static y).before args s = true) (hp : PreS s H Pc As)
    (hg : g.method = m) (hn : As.length = n) (hsize : g.locals.size = nL) (hstack : g.stack = As.reverse ++ rest) (hW : 2 * g.monitorRoom + (rest.map fun v => v.category).sum ≤ 8) (hdg : decode cc g.pc = .ok (.invokestatic index, 3)) (hf : cells + mc ≤ R.cells ∧ slots + ms ≤ R.slots) :
    vx_Run p l e R s m args below meth c H locs cells slots mc ms g rest (Qc As.toArray) XC free := by
  have hK : vx_Back l R p e below s args y 3 8 (PreOf R mc ms Pc) (PostOf Qc mc ms free) (vx_Post XC mc ms free) := vx_callBack cw.1 hM hp.1
  obtain ⟨⟨-, -, -, -, -, -, hcode, hini, hy, hlen, hl⟩, hstt⟩ := cw
  obtain ⟨hx, hb, hml, ho, -⟩ := S
  intro T hT X
  rcases vx_callS X hx (bytes := bytes) (maxL := maxL) (ret := ret) ho hl hstt hini hcode hy hK hg (hsize.trans hml.symm) (argsL := As) (rest := rest) (fun sig h => hn.trans (hlen sig h)) hstack hW (by rw [hb]; exact hdg)
    (fun vm₁ hW₁ => ⟨hf.1, hf.2, hp.2 (T.setVm vm₁) hT hW₁⟩) with ⟨v, vm₁, ⟨U', l2, c2, s2⟩, hW₁, X', ⟨g', mk, t, L, e1, e2, hq, h1, hL, h2, h3⟩, st⟩ | ⟨q, vm₁, ⟨U', l2, c2, s2⟩, hW₁, X', ⟨g', mk, t, L, E, ce, e1, e2, hq, hce, hcv, hcl, h1, hL, h2, h3⟩, st⟩
  · dsimp only [Pt.U, Pt.locs, Pt.cells, Pt.slots] at X' e1 e2 h1 h2 h3 st
    subst h1; subst h2; subst h3
    exact Or.inl ⟨v, (T.setVm vm₁).calling g' mk As.toArray, t, U', L, hT, X', hL, e1, e2, hq, st⟩
  · dsimp only [Pt.U, Pt.locs, Pt.cells, Pt.slots] at X' e1 e2 h1 h2 h3 st hcl
    subst h1; subst h2; subst h3
    exact Or.inr ⟨q, (T.setVm vm₁).calling g' mk As.toArray, t, U', L, E, ce, hT, X', hL, e1, e2, hq, hce, hcv, vx_cls hW₁ hcl, st⟩
end Runs
section Rows
variable {p : Program} {l : Launch} {e : Env} {R : Room} {s : State} {m : MethodId} {args : Array Value} {below : List Frame} {meth : Method} {c : Code} {H : Heap} {locs : List Loc} {cells slots : Nat} {Q : State → Prop}
variable {mc ms : Nat} {free : Addr → Prop} {A0 A1 : Nat → Prop} {H0 : Heap} {a : Array Value} {pc : Nat} {ls : Array Slot} {st0 rest : List Value}
theorem vx_keep {st₀ t T' : State} {L : List Loc} (h0 : st₀.heap = H) (e1 : T'.heap = t.heap) (hS : va_S A0 H0 H locs) (hA : ∀ q, q < H.size → A1 q → A0 q) (hf : ∀ q, free q → A0 q) (hL : ∀ q ∈ L, free q.base) (hF : va_F A1 st₀ t) :
    H.size ≤ T'.heap.size ∧ (∀ q : Nat, q < H.size → ¬ A1 q → T'.heap[q]? = H[q]?) ∧ va_S A0 H0 T'.heap (locs ++ L) := by
  obtain ⟨hz, hk⟩ := hF
  rw [h0] at hz hk
  exact ⟨by rw [e1]; exact hz, fun q h1 h2 => by rw [e1]; exact hk q h1 h2,
    ⟨Nat.le_trans hS.1 (by rw [e1]; exact hz), fun q h1 h2 => by rw [e1, hk q (Nat.lt_of_lt_of_le h1 hS.1) (fun z => h2 (hA q (Nat.lt_of_lt_of_le h1 hS.1) z))]; exact hS.2.1 q h1 h2, fun q hq => by
      rcases List.mem_append.mp hq with h | h
      · exact hS.2.2 q h
      · exact hf _ (hL q h)⟩⟩
theorem vx_calli {S SX : Type} {post : Int32 → S → Prop} {px : SX → Prop} {B : S → State → Prop} {BX : String → SX → State → Prop} {AX : Nat → Prop} (hr : vx_Run p l e R s m args below meth c H locs cells slots mc ms (F0 m pc ls st0) rest (va_Qi post B A1 a) (vx_X px BX AX) free) (hS : va_S A0 H0 H locs) (hA : ∀ q, q < H.size → A1 q → A0 q) (hf : ∀ q, free q → A0 q) (hAX : ∀ q, q < H.size → AX q → A0 q)
    (kx : ∀ (E : String) (ce : Cell) (q9 : Addr) (u : SX) (t : State) (H1 : Heap) (locs1 : List Loc), t.heap = H1 → s.vm.Alike t.vm → px u → BX E u t → H.size ≤ H1.size → (∀ q : Nat, q < H.size → ¬ AX q → H1[q]? = H[q]?) → va_S A0 H0 H1 locs1 → H1[q9]? = some ce → ce.vm = .none → s.vm.findClass E = some ce.cls → vx_W p l e R s m args below meth c H1 locs1 (cells + mc) (slots + ms) Q (F0 m pc ls rest) q9)
    (kk : ∀ (r : Int32) (u : S) (t : State) (H1 : Heap) (locs1 : List Loc), t.heap = H1 → s.vm.Alike t.vm → post r u → B u t → H.size ≤ H1.size → (∀ q : Nat, q < H.size → ¬ A1 q → H1[q]? = H[q]?) → va_S A0 H0 H1 locs1 → W p l e R s m args below meth c H1 locs1 (cells + mc) (slots + ms) Q (F0 m (pc + 3) ls (.int r :: rest))) : W p l e R s m args below meth c H locs cells slots Q (F0 m pc ls st0) := by
  intro T hT X
  rcases hr T hT X with ⟨v, st₀, t, T', L, h0, X', hL, e1, e2, ⟨⟨r, u, hv, hp, hb⟩, hF⟩, st⟩ | ⟨q, st₀, t, T', L, E, ce, h0, X', hL, e1, e2, ⟨u, hp, hb, hF⟩, hce, hcv, hcl, st⟩
  · cases hv
    obtain ⟨k1, k2, k3⟩ := vx_keep h0 e1 hS hA hf hL hF
    obtain ⟨t2, a1, b1⟩ := kk r u t T'.heap (locs ++ L) e1.symm (by rw [← e2]; exact X'.warmed.alike) hp hb k1 k2 k3 T' rfl X'
    exact ⟨t2, st t2 a1, b1⟩
  · obtain ⟨k1, k2, k3⟩ := vx_keep h0 e1 hS hAX hf hL hF
    obtain ⟨t2, a1, b1⟩ := kx E ce q u t T'.heap (locs ++ L) e1.symm (by rw [← e2]; exact X'.warmed.alike) hp hb k1 k2 k3 (by rw [e1]; exact hce) hcv hcl T' rfl X'
    exact ⟨t2, st.trans a1, b1⟩
theorem vx_calll {S SX : Type} {post : Int64 → S → Prop} {px : SX → Prop} {B : S → State → Prop} {BX : String → SX → State → Prop} {AX : Nat → Prop} (hr : vx_Run p l e R s m args below meth c H locs cells slots mc ms (F0 m pc ls st0) rest (va_Ql post B A1 a) (vx_X px BX AX) free) (hS : va_S A0 H0 H locs) (hA : ∀ q, q < H.size → A1 q → A0 q) (hf : ∀ q, free q → A0 q) (hAX : ∀ q, q < H.size → AX q → A0 q)
    (kx : ∀ (E : String) (ce : Cell) (q9 : Addr) (u : SX) (t : State) (H1 : Heap) (locs1 : List Loc), t.heap = H1 → s.vm.Alike t.vm → px u → BX E u t → H.size ≤ H1.size → (∀ q : Nat, q < H.size → ¬ AX q → H1[q]? = H[q]?) → va_S A0 H0 H1 locs1 → H1[q9]? = some ce → ce.vm = .none → s.vm.findClass E = some ce.cls → vx_W p l e R s m args below meth c H1 locs1 (cells + mc) (slots + ms) Q (F0 m pc ls rest) q9)
    (kk : ∀ (r : Int64) (u : S) (t : State) (H1 : Heap) (locs1 : List Loc), t.heap = H1 → s.vm.Alike t.vm → post r u → B u t → H.size ≤ H1.size → (∀ q : Nat, q < H.size → ¬ A1 q → H1[q]? = H[q]?) → va_S A0 H0 H1 locs1 → W p l e R s m args below meth c H1 locs1 (cells + mc) (slots + ms) Q (F0 m (pc + 3) ls (.long r :: rest))) : W p l e R s m args below meth c H locs cells slots Q (F0 m pc ls st0) := by
  intro T hT X
  rcases hr T hT X with ⟨v, st₀, t, T', L, h0, X', hL, e1, e2, ⟨⟨r, u, hv, hp, hb⟩, hF⟩, st⟩ | ⟨q, st₀, t, T', L, E, ce, h0, X', hL, e1, e2, ⟨u, hp, hb, hF⟩, hce, hcv, hcl, st⟩
  · cases hv
    obtain ⟨k1, k2, k3⟩ := vx_keep h0 e1 hS hA hf hL hF
    obtain ⟨t2, a1, b1⟩ := kk r u t T'.heap (locs ++ L) e1.symm (by rw [← e2]; exact X'.warmed.alike) hp hb k1 k2 k3 T' rfl X'
    exact ⟨t2, st t2 a1, b1⟩
  · obtain ⟨k1, k2, k3⟩ := vx_keep h0 e1 hS hAX hf hL hF
    obtain ⟨t2, a1, b1⟩ := kx E ce q u t T'.heap (locs ++ L) e1.symm (by rw [← e2]; exact X'.warmed.alike) hp hb k1 k2 k3 (by rw [e1]; exact hce) hcv hcl T' rfl X'
    exact ⟨t2, st.trans a1, b1⟩
theorem vx_callf {S SX : Type} {post : UInt32 → S → Prop} {px : SX → Prop} {B : S → State → Prop} {BX : String → SX → State → Prop} {AX : Nat → Prop} (hr : vx_Run p l e R s m args below meth c H locs cells slots mc ms (F0 m pc ls st0) rest (va_Qf post B A1 a) (vx_X px BX AX) free) (hS : va_S A0 H0 H locs) (hA : ∀ q, q < H.size → A1 q → A0 q) (hf : ∀ q, free q → A0 q) (hAX : ∀ q, q < H.size → AX q → A0 q)
    (kx : ∀ (E : String) (ce : Cell) (q9 : Addr) (u : SX) (t : State) (H1 : Heap) (locs1 : List Loc), t.heap = H1 → s.vm.Alike t.vm → px u → BX E u t → H.size ≤ H1.size → (∀ q : Nat, q < H.size → ¬ AX q → H1[q]? = H[q]?) → va_S A0 H0 H1 locs1 → H1[q9]? = some ce → ce.vm = .none → s.vm.findClass E = some ce.cls → vx_W p l e R s m args below meth c H1 locs1 (cells + mc) (slots + ms) Q (F0 m pc ls rest) q9)
    (kk : ∀ (r : UInt32) (u : S) (t : State) (H1 : Heap) (locs1 : List Loc), t.heap = H1 → s.vm.Alike t.vm → post r u → B u t → H.size ≤ H1.size → (∀ q : Nat, q < H.size → ¬ A1 q → H1[q]? = H[q]?) → va_S A0 H0 H1 locs1 → W p l e R s m args below meth c H1 locs1 (cells + mc) (slots + ms) Q (F0 m (pc + 3) ls (.float r :: rest))) : W p l e R s m args below meth c H locs cells slots Q (F0 m pc ls st0) := by
  intro T hT X
  rcases hr T hT X with ⟨v, st₀, t, T', L, h0, X', hL, e1, e2, ⟨⟨r, u, hv, hp, hb⟩, hF⟩, st⟩ | ⟨q, st₀, t, T', L, E, ce, h0, X', hL, e1, e2, ⟨u, hp, hb, hF⟩, hce, hcv, hcl, st⟩
  · cases hv
    obtain ⟨k1, k2, k3⟩ := vx_keep h0 e1 hS hA hf hL hF
    obtain ⟨t2, a1, b1⟩ := kk r u t T'.heap (locs ++ L) e1.symm (by rw [← e2]; exact X'.warmed.alike) hp hb k1 k2 k3 T' rfl X'
    exact ⟨t2, st t2 a1, b1⟩
  · obtain ⟨k1, k2, k3⟩ := vx_keep h0 e1 hS hAX hf hL hF
    obtain ⟨t2, a1, b1⟩ := kx E ce q u t T'.heap (locs ++ L) e1.symm (by rw [← e2]; exact X'.warmed.alike) hp hb k1 k2 k3 (by rw [e1]; exact hce) hcv hcl T' rfl X'
    exact ⟨t2, st.trans a1, b1⟩
theorem vx_calld {S SX : Type} {post : UInt64 → S → Prop} {px : SX → Prop} {B : S → State → Prop} {BX : String → SX → State → Prop} {AX : Nat → Prop} (hr : vx_Run p l e R s m args below meth c H locs cells slots mc ms (F0 m pc ls st0) rest (va_Qd post B A1 a) (vx_X px BX AX) free) (hS : va_S A0 H0 H locs) (hA : ∀ q, q < H.size → A1 q → A0 q) (hf : ∀ q, free q → A0 q) (hAX : ∀ q, q < H.size → AX q → A0 q)
    (kx : ∀ (E : String) (ce : Cell) (q9 : Addr) (u : SX) (t : State) (H1 : Heap) (locs1 : List Loc), t.heap = H1 → s.vm.Alike t.vm → px u → BX E u t → H.size ≤ H1.size → (∀ q : Nat, q < H.size → ¬ AX q → H1[q]? = H[q]?) → va_S A0 H0 H1 locs1 → H1[q9]? = some ce → ce.vm = .none → s.vm.findClass E = some ce.cls → vx_W p l e R s m args below meth c H1 locs1 (cells + mc) (slots + ms) Q (F0 m pc ls rest) q9)
    (kk : ∀ (r : UInt64) (u : S) (t : State) (H1 : Heap) (locs1 : List Loc), t.heap = H1 → s.vm.Alike t.vm → post r u → B u t → H.size ≤ H1.size → (∀ q : Nat, q < H.size → ¬ A1 q → H1[q]? = H[q]?) → va_S A0 H0 H1 locs1 → W p l e R s m args below meth c H1 locs1 (cells + mc) (slots + ms) Q (F0 m (pc + 3) ls (.double r :: rest))) : W p l e R s m args below meth c H locs cells slots Q (F0 m pc ls st0) := by
  intro T hT X
  rcases hr T hT X with ⟨v, st₀, t, T', L, h0, X', hL, e1, e2, ⟨⟨r, u, hv, hp, hb⟩, hF⟩, st⟩ | ⟨q, st₀, t, T', L, E, ce, h0, X', hL, e1, e2, ⟨u, hp, hb, hF⟩, hce, hcv, hcl, st⟩
  · cases hv
    obtain ⟨k1, k2, k3⟩ := vx_keep h0 e1 hS hA hf hL hF
    obtain ⟨t2, a1, b1⟩ := kk r u t T'.heap (locs ++ L) e1.symm (by rw [← e2]; exact X'.warmed.alike) hp hb k1 k2 k3 T' rfl X'
    exact ⟨t2, st t2 a1, b1⟩
  · obtain ⟨k1, k2, k3⟩ := vx_keep h0 e1 hS hAX hf hL hF
    obtain ⟨t2, a1, b1⟩ := kx E ce q u t T'.heap (locs ++ L) e1.symm (by rw [← e2]; exact X'.warmed.alike) hp hb k1 k2 k3 (by rw [e1]; exact hce) hcv hcl T' rfl X'
    exact ⟨t2, st.trans a1, b1⟩
theorem vx_callv {S SX : Type} {post : S → Prop} {px : SX → Prop} {B : S → State → Prop} {BX : String → SX → State → Prop} {AX : Nat → Prop} (hr : vx_Run p l e R s m args below meth c H locs cells slots mc ms (F0 m pc ls st0) rest (va_Qv post B A1 a) (vx_X px BX AX) free) (hS : va_S A0 H0 H locs) (hA : ∀ q, q < H.size → A1 q → A0 q) (hf : ∀ q, free q → A0 q) (hAX : ∀ q, q < H.size → AX q → A0 q)
    (kx : ∀ (E : String) (ce : Cell) (q9 : Addr) (u : SX) (t : State) (H1 : Heap) (locs1 : List Loc), t.heap = H1 → s.vm.Alike t.vm → px u → BX E u t → H.size ≤ H1.size → (∀ q : Nat, q < H.size → ¬ AX q → H1[q]? = H[q]?) → va_S A0 H0 H1 locs1 → H1[q9]? = some ce → ce.vm = .none → s.vm.findClass E = some ce.cls → vx_W p l e R s m args below meth c H1 locs1 (cells + mc) (slots + ms) Q (F0 m pc ls rest) q9)
    (kk : ∀ (u : S) (t : State) (H1 : Heap) (locs1 : List Loc), t.heap = H1 → s.vm.Alike t.vm → post u → B u t → H.size ≤ H1.size → (∀ q : Nat, q < H.size → ¬ A1 q → H1[q]? = H[q]?) → va_S A0 H0 H1 locs1 → W p l e R s m args below meth c H1 locs1 (cells + mc) (slots + ms) Q (F0 m (pc + 3) ls (rest))) : W p l e R s m args below meth c H locs cells slots Q (F0 m pc ls st0) := by
  intro T hT X
  rcases hr T hT X with ⟨v, st₀, t, T', L, h0, X', hL, e1, e2, ⟨⟨u, hv, hp, hb⟩, hF⟩, st⟩ | ⟨q, st₀, t, T', L, E, ce, h0, X', hL, e1, e2, ⟨u, hp, hb, hF⟩, hce, hcv, hcl, st⟩
  · cases hv
    obtain ⟨k1, k2, k3⟩ := vx_keep h0 e1 hS hA hf hL hF
    obtain ⟨t2, a1, b1⟩ := kk u t T'.heap (locs ++ L) e1.symm (by rw [← e2]; exact X'.warmed.alike) hp hb k1 k2 k3 T' rfl X'
    exact ⟨t2, st t2 a1, b1⟩
  · obtain ⟨k1, k2, k3⟩ := vx_keep h0 e1 hS hAX hf hL hF
    obtain ⟨t2, a1, b1⟩ := kx E ce q u t T'.heap (locs ++ L) e1.symm (by rw [← e2]; exact X'.warmed.alike) hp hb k1 k2 k3 (by rw [e1]; exact hce) hcv hcl T' rfl X'
    exact ⟨t2, st.trans a1, b1⟩
/-- caught by the row x of this method's table; the rows ahead don't take it -/
theorem vx_catch {own name : String} {E : String} {ce : Cell} {q : Addr} (hown : s.vm.findClass own = some m.cls) (pre : List ExceptionTableEntry) (x : ExceptionTableEntry) (suf : List ExceptionTableEntry) (hsplit : c.exceptionTable.toList = pre ++ x :: suf)
    (hpass : ∀ z ∈ pre, covers z pc = false ∨ (z.catchType ≠ 0 ∧ ∃ nm : String, (Cond.classLink own z.catchType nm).before args s = true ∧ va_Nc E nm s)) (hx : covers x pc = true) (h0 : x.catchType ≠ 0)
    (hlink : (Cond.classLink own x.catchType name).before args s = true) (hcast : (Cond.castable E name).before args s = true) (hcell : H[q]? = some ce) (hv : ce.vm = .none) (hcl : s.vm.findClass E = some ce.cls)
    (kk : W p l e R s m args below meth c H locs cells slots Q (F0 m x.handlerPc ls [.ref q])) : vx_W p l e R s m args below meth c H locs cells slots Q (F0 m pc ls rest) q := by
  intro T hT X
  have hpl : e.platform.magicAccessors = ({} : Platform).magicAccessors := by rw [X.admits.platform]
  obtain ⟨c3, c4, hc3, hc4, hasg⟩ := Cond.castable_spec hcast
  cases Option.some.inj (hc3.symm.trans hcl)
  obtain ⟨c5, hc5, hcl5⟩ := Cond.classLink_spec hown hlink e.platform hpl
  cases Option.some.inj (hc4.symm.trans hc5)
  obtain ⟨vm', X', st⟩ := ct_caught X q (g := F0 m pc ls rest) rfl (by rw [hT]; exact hcell) (by rw [hv]; rfl) (by obtain ⟨k9, h9, -⟩ := Vm.findClass_spec hcl; exact ⟨k9, h9⟩) pre x suf hsplit
    (fun z hz => by
      rcases hpass z hz with h | ⟨hz0, nm, hl1, hn1⟩
      · exact Or.inl h
      · obtain ⟨c6, hc6, hcl6⟩ := Cond.classLink_spec hown hl1 e.platform hpl
        obtain ⟨a8, b8, h1, h2, h3⟩ := hn1
        cases Option.some.inj (h1.symm.trans hcl)
        cases Option.some.inj (h2.symm.trans hc6)
        exact Or.inr ⟨hz0, _, hcl6, h3⟩) hx h0 hcl5 hasg
  obtain ⟨t, a1, b1⟩ := kk (T.setVm vm') hT X'
  exact ⟨t, st _ a1, b1⟩
end Rows
section Ends
variable {p : Program} {l : Launch} {e : Env} {R : Room} {s : State} {m : MethodId} {args : Array Value} {below : List Frame} {meth : Method} {c : Code} {H : Heap} {locs : List Loc} {cells slots : Nat} {Q : State → Prop}
variable {mc ms : Nat} {free : Addr → Prop} {A0 A1 : Nat → Prop} {H0 : Heap} {a : Array Value} {ls : Array Slot} {st0 rest : List Value}
variable {Qc : Array Value → State → Outcome → State → Prop} {XC : String → State → State → Prop}
/-- what a body that may throw owes at its end -/
def vx_MQ (below : List Frame) (Qc : Array Value → State → Outcome → State → Prop) (XC : String → State → State → Prop) (a : Array Value) (s : State) (mc ms : Nat) (free : Addr → Prop) : State → Prop := fun t =>
  ∃ o, t.status = .running ∧ Ended t below o ∧ vx_Q Qc XC mc ms free a s o t
theorem vx_ret {g : JFrame} {mc ms : Nat} (k : W p l e R s m args below meth c H locs cells slots (MQ below Qc args s mc ms free) g) : W p l e R s m args below meth c H locs cells slots (vx_MQ below Qc XC args s mc ms free) g := by
  intro T hT X
  obtain ⟨t, a1, o, b1, b2, b3, b4⟩ := k T hT X
  exact ⟨t, a1, o, b1, b2, Or.inl ⟨b3, b4⟩⟩
/-- not caught here: it goes on to the caller -/
theorem vx_widen {g : JFrame} {q : Addr} {k n : Nat} (h1 : cells ≤ k) (h2 : slots ≤ n) (kk : vx_W p l e R s m args below meth c H locs k n Q g q) : vx_W p l e R s m args below meth c H locs cells slots Q g q := fun T hT X => kk T hT (stand_widen X h1 h2)
theorem vx_out {pc : Nat} {E : String} {ce : Cell} {q : Addr} {mc ms : Nat} (hout : ∀ x ∈ c.exceptionTable.toList, covers x pc = false) (hlocks : meth.locks = false) (hcell : H[q]? = some ce) (hv : ce.vm = .none) (hcl : s.vm.findClass E = some ce.cls)
    (hx : ∀ t : State, t.heap = H → s.vm.Alike t.vm → XC E s t) (hf : ∀ z ∈ locs, free z.base) (hc : cells ≤ mc) (hs : slots ≤ ms) :
    vx_W p l e R s m args below meth c H locs cells slots (vx_MQ below Qc XC args s mc ms free) (F0 m pc ls rest) q := by
  intro T hT X
  obtain ⟨st1, hrun, hend, hW, hsm⟩ := X.leaveThrown q (g := F0 m pc ls rest) rfl rfl rfl hout hlocks
  have hcell9 : (T.setFrames (.throwing q :: below)).heap[q]? = some ce := by
    show T.heap[q]? = some ce
    rw [hT]; exact hcell
  exact ⟨_, st1, .threw q, hrun, hend, Or.inr ⟨q, rfl, E, ce, locs, hx _ hT hW.alike, hcell9, hv, hcl, hW, hsm.mono hc hs, hf⟩⟩
theorem vx_frame {U : State} {k n : Nat} (h : s.sameButNew ({ U with vm := s.vm } : State) locs k n) : s.heap.size ≤ U.heap.size ∧ ∀ q : Nat, q < s.heap.size → (∀ z ∈ locs, z.base ≠ q) → U.heap[q]? = s.heap[q]? := by
  obtain ⟨-, h2, -, -, -, h6⟩ := h
  refine ⟨h2, fun q hq hz => ?_⟩
  obtain ⟨c9, e1, e2, e3, e4⟩ := h6 q _ (Array.getElem?_eq_getElem hq)
  have hs : c9.slots = (s.heap[q]).slots := Array.ext_getElem? fun i => e4 i fun hm => hz _ hm rfl
  have h9 : c9 = s.heap[q] := by
    rw [hs] at e2
    exact e2
  have e5 : U.heap[q]? = some c9 := e1
  rw [e5, h9, Array.getElem?_eq_getElem hq]
/-- the words of a throw but the four that speak of the heap -/
def vx_no (w : Cond) : Bool := decide (w ≠ .isRef (.static Bundle.tN "UNASSIGNED_STACK" Bundle.steD)) && decide (w ≠ .isRef (.static Bundle.tN "SUPPRESSED_SENTINEL" Bundle.listD)) && decide (w ≠ .laysStatic Bundle.tN "UNASSIGNED_STACK" Bundle.steD) && decide (w ≠ .laysStatic Bundle.tN "SUPPRESSED_SENTINEL" Bundle.listD)
def vx_at0 (own : String) (ic : Nat) (X : String) (names : List String) : List Cond := (Bundle.ownAtoms0 own ic X names).filter vx_no
def vx_atS (own : String) (ic : Nat) (X : String) (names : List String) : List Cond := (Bundle.ownAtoms own ic X names).filter vx_no
/-- a word that the tables alone decide, or a good one -/
def vx_ot (w : Cond) : Bool := w.onTables || goodWord w
theorem vx_ot_at {args a' : Array Value} {s U : State} {w : Cond} (hW : s.WarmedH U.vm) (hvm : s.vm = U.vm) (hg : vx_ot w = true) (h : w.before args s = true) : w.before a' U = true := by
  simp only [vx_ot, Bool.or_eq_true] at hg
  rcases hg with hg | hg
  · exact va_tabs hg hvm h
  · exact word_at hW (good_of_word hg) h
/-- a list's words: the good ones out of the method's own list, the others by premises of their own -/
theorem vx_hat {args : Array Value} {s : State} {L B : List Cond} (h1 : ∀ w ∈ L.filter goodWord, w.before args s = true) (h2 : ∀ w ∈ L.filter (fun w => !goodWord w), w ∈ B) (h3 : ∀ w ∈ B, w.before args s = true) : ∀ w ∈ L, w.before args s = true := by
  intro w hw
  by_cases g : goodWord w = true
  · exact h1 w (List.mem_filter.mpr ⟨hw, g⟩)
  · refine h3 w (h2 w (List.mem_filter.mpr ⟨hw, ?_⟩))
    show (!goodWord w) = true
    cases hgw : goodWord w
    · rfl
    · exact absurd hgw g
theorem vx_c {args : Array Value} {s : State} {w : Cond} {B : List Cond} (h : w.before args s = true) (t : ∀ w ∈ B, w.before args s = true) : ∀ w' ∈ w :: B, w'.before args s = true := fun w' h' => (List.mem_cons.mp h').elim (fun e => by rw [e]; exact h) (t w')
theorem vx_n {args : Array Value} {s : State} : ∀ w ∈ ([] : List Cond), w.before args s = true := fun _ h => nomatch h
theorem vx_own {args : Array Value} {s : State} {L : List Cond} (h1 : ∀ w ∈ L.filter vx_no, w.before args s = true)
    (hU : (Cond.isRef (.static Bundle.tN "UNASSIGNED_STACK" Bundle.steD)).before args s = true) (hN : (Cond.isRef (.static Bundle.tN "SUPPRESSED_SENTINEL" Bundle.listD)).before args s = true)
    (lU : (Cond.laysStatic Bundle.tN "UNASSIGNED_STACK" Bundle.steD).before args s = true) (lN : (Cond.laysStatic Bundle.tN "SUPPRESSED_SENTINEL" Bundle.listD).before args s = true) : ∀ w ∈ L, w.before args s = true := by
  intro w hw
  by_cases e1 : w = .isRef (.static Bundle.tN "UNASSIGNED_STACK" Bundle.steD)
  · rw [e1]; exact hU
  · by_cases e2 : w = .isRef (.static Bundle.tN "SUPPRESSED_SENTINEL" Bundle.listD)
    · rw [e2]; exact hN
    · by_cases e3 : w = .laysStatic Bundle.tN "UNASSIGNED_STACK" Bundle.steD
      · rw [e3]; exact lU
      · by_cases e4 : w = .laysStatic Bundle.tN "SUPPRESSED_SENTINEL" Bundle.listD
        · rw [e4]; exact lN
        · exact h1 w (List.mem_filter.mpr ⟨hw, by unfold vx_no; rw [decide_eq_true e1, decide_eq_true e2, decide_eq_true e3, decide_eq_true e4]; rfl⟩)
/-- where a static field lies, its class's statics cell in H -/
def vx_L (C n d : String) (A : Nat → Prop) (U : State) (H : Heap) : Prop := ∃ (c : ClassId) (k : Class) (i : Nat) (f : Field) (a : Nat) (cell : Cell), U.vm.findClass C = some c ∧ U.fieldFound? C n d = some (c, k, i, f) ∧ f.isStatic = true ∧ k.statics = some a ∧ H[a]? = some cell ∧ cell.vm.isStatics = true ∧ cell.cls = c ∧ f.slot < cell.slots.size ∧ k.staticTypes[f.slot]? = some f.type ∧ ¬ A a
theorem vx_L.moved {C n d : String} {A : Nat → Prop} {u U : State} {H : Heap} (hvm : u.vm.Alike U.vm) (h : vx_L C n d A u H) : vx_L C n d A U H := by
  obtain ⟨c, k, i, f, a, cell, h1, h2, h3, h4, h5, h6, h7, h8, h9, h10⟩ := h
  obtain ⟨k', hi', he⟩ := State.fieldFound?_setVm hvm h2
  exact ⟨c, k', i, f, a, cell, by rw [hvm.findClass]; exact h1, hi', h3, by rw [he]; exact h4, h5, h6, h7, h8, by rw [he]; exact h9, h10⟩
theorem vx_L.kept {C n d : String} {A : Nat → Prop} {U : State} {H H1 : Heap} (h : vx_L C n d A U H) (hq : ∀ a : Nat, a < H.size → ¬ A a → H1[a]? = H[a]?) : vx_L C n d A U H1 := by
  obtain ⟨c, k, i, f, a, cell, h1, h2, h3, h4, h5, h6, h7, h8, h9, h10⟩ := h
  exact ⟨c, k, i, f, a, cell, h1, h2, h3, h4, by rw [hq a (Array.getElem?_eq_some_iff.mp h5).1 h10]; exact h5, h6, h7, h8, h9, h10⟩
theorem vx_L.narrow {C n d : String} {A B : Nat → Prop} {U : State} {H : Heap} (h : vx_L C n d A U H) (hAB : ∀ q, B q → A q) : vx_L C n d B U H := by
  obtain ⟨c, k, i, f, a, cell, h1, h2, h3, h4, h5, h6, h7, h8, h9, h10⟩ := h
  exact ⟨c, k, i, f, a, cell, h1, h2, h3, h4, h5, h6, h7, h8, h9, fun z => h10 (hAB _ z)⟩
theorem vx_L.word {C n d : String} {A : Nat → Prop} {s : State} {args : Array Value} (h : vx_L C n d A s s.heap) : (Cond.laysStatic C n d).before args s = true := by
  obtain ⟨c, k, i, f, a, cell, h1, h2, h3, h4, h5, h6, h7, h8, h9, -⟩ := h
  show (Cond.laysStatic C n d).holds args s none s [] = true
  exact Cond.laysStatic_of h1 h2 h3 h4 h5 h6 h7 h8 h9
/-- .. and what it holds: null or some reference -/
def vx_Zq (C n d : String) (A : Nat → Prop) (U : State) (H : Heap) : Prop := va_Zq C n d A U H ∧ vx_L C n d A U H
theorem vx_Zq.moved {C n d : String} {A : Nat → Prop} {u U : State} {H : Heap} (hvm : u.vm.Alike U.vm) (h : vx_Zq C n d A u H) : vx_Zq C n d A U H := ⟨va_Zq.moved hvm h.1, vx_L.moved hvm h.2⟩
theorem vx_Zq.kept {C n d : String} {A : Nat → Prop} {U : State} {H H1 : Heap} (h : vx_Zq C n d A U H) (hq : ∀ a : Nat, a < H.size → ¬ A a → H1[a]? = H[a]?) : vx_Zq C n d A U H1 := ⟨va_Zq.kept h.1 hq, vx_L.kept h.2 hq⟩
theorem vx_Zq.narrow {C n d : String} {A B : Nat → Prop} {U : State} {H : Heap} (h : vx_Zq C n d A U H) (hAB : ∀ q, B q → A q) : vx_Zq C n d B U H := ⟨va_Zq.narrow h.1 hAB, vx_L.narrow h.2 hAB⟩
theorem vx_Zqof {args : Array Value} {s : State} {C n d : String} {A : Nat → Prop} (hl : (Cond.laysStatic C n d).before args s = true) (hini : (Cond.initialized C).before args s = true) (h : (Cond.isRef (.static C n d)).before args s = true) (hA : ∀ a : Nat, a < s.heap.size → ¬ A a) : vx_Zq C n d A s s.heap := by
  refine ⟨va_Zqof hl hini h hA, ?_⟩
  obtain ⟨c, k, i, f, a, cell, h1, h2, h3, h4, h5, h6, h7, h8, h9⟩ := Cond.laysStatic_spec hl
  exact ⟨c, k, i, f, a, cell, h1, h2, h3, h4, h5, h6, h7, h8, h9, hA a (Array.getElem?_eq_some_iff.mp h5).1⟩
theorem vx_isRef {C n d : String} {v : Value} {A : Nat → Prop} {s : State} {args : Array Value} (h : va_Z C n d v A s s.heap) (hv : v.isRef = true) : (Cond.isRef (.static C n d)).before args s = true := by
  obtain ⟨cf, kf, fi, f, a, cell, h1, h2, h3, h4, h5, h6, h7, -⟩ := h
  have he : (Term.static C n d).eval args s none [] s = some v := by
    simp [Term.eval, State.fieldNamed?, h1, h2, h4, h5, h6, h7]
  simp only [Cond.before, Cond.holds, Cond.value, he]
  cases v <;> simp_all [Value.isRef]
theorem vx_isRefq {C n d : String} {A : Nat → Prop} {s : State} {args : Array Value} (h : va_Zq C n d A s s.heap) : (Cond.isRef (.static C n d)).before args s = true := by
  rcases h with h | ⟨t, h⟩
  · exact vx_isRef h rfl
  · exact vx_isRef h rfl
/-- the same frame, seen from here: as if the method were called anew in this heap -/
theorem vx_rebase {T : State} (X : Stand p l e R s m args below meth c T locs cells slots) {R' : Room} (hf : R'.frames ≤ R.frames) (hl : R'.locals ≤ R.locals) (hc : cells + R'.cells ≤ R.cells) (hs : slots + R'.slots ≤ R.slots) :
    Stand p l e R' ((T.setVm s.vm).setFrames (.invoking m args :: below)) m args below meth c T [] 0 0 := by
  have htop : (T.setVm s.vm).topJava?.isSome := X.here.top
  have hF : ((T.setVm s.vm).setFrames (.invoking m args :: below)).frames = .invoking m args :: below := State.frames_setFrames _ (State.cur_lt_of_top htop)
  obtain ⟨g₀, hg0⟩ := Option.isSome_iff_exists.mp htop
  obtain ⟨r, hr⟩ := State.topJava?_eq_some.mp hg0
  have hl9 : e.platform.stackLimits (T.setVm s.vm).me = e.platform.stackLimits s.me := X.limits
  have hb9 : (T.setVm s.vm).me.stackBytes = s.me.stackBytes := X.bytes
  refine ⟨X.admits, X.cas, X.clock, hF, ?_, X.hears, X.method, X.code, X.here, X.tail, X.warmed, ?_, ?_, ?_⟩
  · have h := X.room
    have hU : ((T.setVm s.vm).setFrames (.invoking m args :: below)).localsInUse = s.localsInUse := by
      rw [State.localsInUse_invoking hF (meth := meth) (c := c) X.method X.code, State.localsInUse_invoking X.frames X.method X.code]
    simp only [State.hasRoom, Bool.and_eq_true, decide_eq_true_eq] at h ⊢
    obtain ⟨⟨⟨⟨h1, h2, h3, h4, h5, h6⟩, h7⟩, h8⟩, h9⟩ := h
    rw [X.frames, List.length_cons] at h2 h3
    have q1 := X.heapSize
    have q2 := X.used
    simp only [hF, hU, List.length_cons, State.stackLimits_setFrames, State.stackBytes_setFrames, hl9, hb9]
    refine ⟨⟨⟨⟨by omega, by omega, by omega, by omega, by omega, h6⟩, ?_⟩, ?_⟩, X.book⟩
    · show T.heap.size + R'.cells ≤ e.platform.maxCells
      omega
    · show T.slotsUsed + R'.slots ≤ e.platform.maxSlots
      omega
  · rw [State.stackLimits_setFrames]; rfl
  · rw [State.stackBytes_setFrames]; rfl
  · refine ⟨?_, Nat.le_refl _, Nat.le_refl _, ?_, ?_, fun a c9 h9 => ⟨c9, h9, rfl, rfl, fun _ _ => rfl⟩⟩
    · obtain ⟨t, ht, -⟩ := State.frames_cons hr
      show T.setVm s.vm = { ((T.setVm s.vm).setFrames (.invoking m args :: below)).setFrames (T.setVm s.vm).frames with heap := T.heap, slotsUsed := T.slotsUsed }
      rw [State.setFrames_setFrames, State.setFrames_self ht]
      rfl
    · show T.slotsUsed = T.slotsUsed + ((T.heap.toList.drop T.heap.size).map (·.slots.size)).sum
      rw [List.drop_eq_nil_of_le (Nat.le_of_eq Array.length_toList)]
      rfl
    · show ((T.heap.toList.drop T.heap.size).map (·.slots.size)).sum ≤ 0
      rw [List.drop_eq_nil_of_le (Nat.le_of_eq Array.length_toList)]
      exact Nat.le_refl _
/-- 'throw new E()': new; dup; invokespecial; athrow -/
theorem vx_throw0 {cc : ByteArray} {pc : Nat} (hexec : p.tables.exec = Jvm.exec) (hb : c.code = cc) (hl : l.stackTraces = false) {own cls : String} {names : List String} {ik ic mc ms : Nat} {A : Nat → Prop}
    (hown : s.vm.findClass own = some m.cls) (hcls : Bundle.fit cls = true) (hnames : ∀ n ∈ names, Bundle.fit n = true)
    (hk : (Cond.classLink own ik cls).before args s = true) (hini : (Cond.initialized cls).before args s = true) (hat : ∀ w ∈ vx_at0 own ic cls names, w.before args s = true)
    (hgood : ∀ w ∈ Cond.classLink own ik cls :: Cond.initialized cls :: vx_at0 own ic cls names, vx_ot w = true)
    (hU : vx_Zq Bundle.tN "UNASSIGNED_STACK" Bundle.steD A s s.heap) (hN : vx_Zq Bundle.tN "SUPPRESSED_SENTINEL" Bundle.listD A s s.heap) (hS : va_S A s.heap H locs) (hsize : ls.size = c.maxLocals)
    (d0 : decode cc pc = .ok (.new ik, 3)) (d3 : decode cc (pc + 3) = .ok (.dup, 1)) (d4 : decode cc (pc + 4) = .ok (.invokespecial ic, 3)) (d7 : decode cc (pc + 7) = .ok (.athrow, 1))
    (hout : ∀ x ∈ c.exceptionTable.toList, covers x (pc + 7) = false)
    (hRframes : names.length + 3 < R.frames) (hRlocals : (rest.map fun v => v.category).sum + (13 * (names.length + 1) + 42) ≤ R.locals) (hRcells : cells + 1 ≤ R.cells) (hRslots : slots + 6 ≤ R.slots) (hlocks : meth.locks = false)
    (hx : ∀ t : State, s.vm.Alike t.vm → H.size ≤ t.heap.size → (∀ q : Nat, q < H.size → t.heap[q]? = H[q]?) → XC cls s t)
    (hf : ∀ z ∈ locs, free z.base) (hc : cells + 1 ≤ mc) (hs : slots + 6 ≤ ms) :
    W p l e R s m args below meth c H locs cells slots (vx_MQ below Qc XC args s mc ms free) (F0 m pc ls rest) := by
  intro T hT X
  have htr : e.platform.stackTraces = false := (show e.platform.stackTraces = l.stackTraces by rw [X.admits.platform]).trans hl
  have Y := vx_rebase X (R' := { frames := R.frames, locals := R.locals, cells := 1, slots := 6 }) (Nat.le_refl _) (Nat.le_refl _) hRcells hRslots
  obtain ⟨s', hA⟩ : ∃ z, z = (T.setVm s.vm).setFrames (.invoking m args :: below) := ⟨_, rfl⟩
  rw [← hA] at Y
  have hvm : s'.vm = s.vm := by rw [hA]; rfl
  have hhp : s'.heap = H := by rw [hA]; exact hT
  have hW0 : s.WarmedH s'.vm := by rw [hvm]; exact State.WarmedH.refl s
  have hat' : ∀ w ∈ vx_at0 own ic cls names, w.before args s' = true := fun w hw => vx_ot_at hW0 hvm.symm (hgood w (List.mem_cons_of_mem _ (List.mem_cons_of_mem _ hw))) (hat w hw)
  have hk' : (Cond.classLink own ik cls).before args s' = true := vx_ot_at hW0 hvm.symm (hgood _ List.mem_cons_self) hk
  have hini' : (Cond.initialized cls).before args s' = true := vx_ot_at hW0 hvm.symm (hgood _ (List.mem_cons_of_mem _ List.mem_cons_self)) hini
  have hU' : vx_Zq Bundle.tN "UNASSIGNED_STACK" Bundle.steD A s' s'.heap := by rw [hhp]; exact vx_Zq.moved hW0.alike (hU.kept hS.2.1)
  have hN' : vx_Zq Bundle.tN "SUPPRESSED_SENTINEL" Bundle.listD A s' s'.heap := by rw [hhp]; exact vx_Zq.moved hW0.alike (hN.kept hS.2.1)
  have h : ∀ w ∈ Bundle.ownAtoms0 own ic cls names, w.before args s' = true := vx_own hat' (vx_isRefq hU'.1) (vx_isRefq hN'.1) hU'.2.word hN'.2.word
  have hown' : s'.vm.findClass own = some m.cls := by rw [hvm]; exact hown
  have hins : (Cond.instantiable cls 6).before args s' = true := h _ (by simp [Bundle.ownAtoms0])
  obtain ⟨vm₁, cX, kX, hfX, hkX, -, -, X₁, st1⟩ := Y.newCold hexec (own := own) (C := cls) (index := ik) (n := 6) hown' hk' hins hini'
    (g := F0 m pc ls rest) rfl (by rw [hb]; exact d0) (Nat.le_refl _) (Nat.le_refl _)
  generalize hT1 : (T.setVm vm₁).pushCell { cls := cX, slots := kX.instanceTypes.map defaultValue, vm := .none } = T1 at X₁ st1
  have hcat : (Value.ref T.heap.size).category = 1 := rfl
  have hcellA : T1.heap[T.heap.size]? = some (freshCell cX kX) := by rw [← hT1]; exact State.heap_pushCell_size _ _
  have d3' : decode c.code (pc + 3) = .ok (.dup, 1) := by rw [hb]; exact d3
  obtain ⟨U, hsteps, hrun, hend, hW, hsame, ce, hce, hO⟩ := X₁.ctorThrow0 hexec htr (own := own) (cls := cls) (names := names) (ic := ic) hown' hcls hnames h (fun x hx => nomatch hx) hfX hkX hcellA (by rw [hhp, hT]; exact Nat.le_refl _)
    (g := { method := m, pc := pc + 4, locals := ls, stack := .ref T.heap.size :: .ref T.heap.size :: rest, locked := none }) rfl hsize rfl rfl (rest := rest) rfl
    (by rw [hb]; exact d4) (by rw [hb]; exact d7) hout hRframes (by simp only [List.map_cons, List.sum_cons, hcat]; omega) hlocks
  obtain ⟨f1, f2⟩ := vx_frame hsame
  rw [hhp] at f1 f2
  have hWs : s.WarmedH U.vm := State.WarmedH.trans hW0 hW
  have hcl : s.vm.findClass cls = some ce.cls := by
    have h9 := hO.cls
    rw [hvm] at h9
    exact h9
  have hall : s.sameButNew ({ U with vm := s.vm } : State) locs mc ms := by
    subst hA
    obtain ⟨e1, e2⟩ := hsame
    rw [State.setFrames_setFrames] at e1
    have h2 : (T.setVm s.vm).sameButNew ({ U with vm := s.vm } : State) [] (0 + 1) (0 + 6) := ⟨e1, e2⟩
    have h3 := X.same.trans h2
    rw [List.append_nil] at h3
    exact h3.mono hc hs
  refine ⟨U, ?_, .threw T.heap.size, hrun, hend, Or.inr ⟨T.heap.size, rfl, cls, ce, locs, hx U hWs.alike f1 (fun q hq => f2 q hq (fun z hz => nomatch hz)), hce, hO.vm, hcl, hWs, hall, hf⟩⟩
  refine st1 _ ?_
  show Steps p.tables e below (T1.setTop { method := m, pc := pc + 3, locals := ls, stack := .ref T.heap.size :: rest, locked := none }) _
  jvm_step X₁.here [X₁.here.top, hexec, d3', Value.category]
  exact hsteps
/-- 'throw new E("text")': new; dup; ldc; invokespecial; athrow -/
theorem vx_throwS {cc : ByteArray} {pc : Nat} (hexec : p.tables.exec = Jvm.exec) (hb : c.code = cc) (hl : l.stackTraces = false) {own cls text : String} {names : List String} {ik is ic mc ms sa : Nat} {A : Nat → Prop}
    (hown : s.vm.findClass own = some m.cls) (hcls : Bundle.fit cls = true) (hnames : ∀ n ∈ names, Bundle.fit n = true)
    (hk : (Cond.classLink own ik cls).before args s = true) (hini : (Cond.initialized cls).before args s = true) (hstr : vk_R own is text sa s) (hat : ∀ w ∈ vx_atS own ic cls names, w.before args s = true)
    (hgood : ∀ w ∈ Cond.classLink own ik cls :: Cond.initialized cls :: vx_atS own ic cls names, vx_ot w = true)
    (hU : vx_Zq Bundle.tN "UNASSIGNED_STACK" Bundle.steD A s s.heap) (hN : vx_Zq Bundle.tN "SUPPRESSED_SENTINEL" Bundle.listD A s s.heap) (hS : va_S A s.heap H locs) (hsize : ls.size = c.maxLocals)
    (d0 : decode cc pc = .ok (.new ik, 3)) (d3 : decode cc (pc + 3) = .ok (.dup, 1)) (d4 : decode cc (pc + 4) = .ok (.ldc is, 2)) (d6 : decode cc (pc + 6) = .ok (.invokespecial ic, 3)) (d9 : decode cc (pc + 9) = .ok (.athrow, 1))
    (hout : ∀ x ∈ c.exceptionTable.toList, covers x (pc + 9) = false)
    (hRframes : names.length + 3 < R.frames) (hRlocals : (rest.map fun v => v.category).sum + (13 * (names.length + 1) + 43) ≤ R.locals) (hRcells : cells + 1 ≤ R.cells) (hRslots : slots + 6 ≤ R.slots) (hlocks : meth.locks = false)
    (hx : ∀ t : State, s.vm.Alike t.vm → H.size ≤ t.heap.size → (∀ q : Nat, q < H.size → t.heap[q]? = H[q]?) → XC cls s t)
    (hf : ∀ z ∈ locs, free z.base) (hc : cells + 1 ≤ mc) (hs : slots + 6 ≤ ms) :
    W p l e R s m args below meth c H locs cells slots (vx_MQ below Qc XC args s mc ms free) (F0 m pc ls rest) := by
  intro T hT X
  have htr : e.platform.stackTraces = false := (show e.platform.stackTraces = l.stackTraces by rw [X.admits.platform]).trans hl
  have Y := vx_rebase X (R' := { frames := R.frames, locals := R.locals, cells := 1, slots := 6 }) (Nat.le_refl _) (Nat.le_refl _) hRcells hRslots
  obtain ⟨s', hA⟩ : ∃ z, z = (T.setVm s.vm).setFrames (.invoking m args :: below) := ⟨_, rfl⟩
  rw [← hA] at Y
  have hvm : s'.vm = s.vm := by rw [hA]; rfl
  have hhp : s'.heap = H := by rw [hA]; exact hT
  have hW0 : s.WarmedH s'.vm := by rw [hvm]; exact State.WarmedH.refl s
  have hat' : ∀ w ∈ vx_atS own ic cls names, w.before args s' = true := fun w hw => vx_ot_at hW0 hvm.symm (hgood w (List.mem_cons_of_mem _ (List.mem_cons_of_mem _ hw))) (hat w hw)
  have hk' : (Cond.classLink own ik cls).before args s' = true := vx_ot_at hW0 hvm.symm (hgood _ List.mem_cons_self) hk
  have hini' : (Cond.initialized cls).before args s' = true := vx_ot_at hW0 hvm.symm (hgood _ (List.mem_cons_of_mem _ List.mem_cons_self)) hini
  have hU' : vx_Zq Bundle.tN "UNASSIGNED_STACK" Bundle.steD A s' s'.heap := by rw [hhp]; exact vx_Zq.moved hW0.alike (hU.kept hS.2.1)
  have hN' : vx_Zq Bundle.tN "SUPPRESSED_SENTINEL" Bundle.listD A s' s'.heap := by rw [hhp]; exact vx_Zq.moved hW0.alike (hN.kept hS.2.1)
  have h : ∀ w ∈ Bundle.ownAtoms own ic cls names, w.before args s' = true := vx_own hat' (vx_isRefq hU'.1) (vx_isRefq hN'.1) hU'.2.word hN'.2.word
  have hown' : s'.vm.findClass own = some m.cls := by rw [hvm]; exact hown
  have hins : (Cond.instantiable cls 6).before args s' = true := h _ (by simp [Bundle.ownAtoms])
  obtain ⟨vm₁, cX, kX, hfX, hkX, -, -, X₁, st1⟩ := Y.newCold hexec (own := own) (C := cls) (index := ik) (n := 6) hown' hk' hins hini'
    (g := F0 m pc ls rest) rfl (by rw [hb]; exact d0) (Nat.le_refl _) (Nat.le_refl _)
  generalize hT1 : (T.setVm vm₁).pushCell { cls := cX, slots := kX.instanceTypes.map defaultValue, vm := .none } = T1 at X₁ st1
  have hcat : (Value.ref T.heap.size).category = 1 := rfl
  have hcellA : T1.heap[T.heap.size]? = some (freshCell cX kX) := by rw [← hT1]; exact State.heap_pushCell_size _ _
  have d3' : decode c.code (pc + 3) = .ok (.dup, 1) := by rw [hb]; exact d3
  have d4' : decode c.code (pc + 4) = .ok (.ldc is, 2) := by rw [hb]; exact d4
  have hstr' : vk_R own is text sa s' := vk_R.warm hW0 hstr
  obtain ⟨U, hsteps, hrun, hend, hW, hsame, ce, hce, hO⟩ := X₁.ctorThrowS hexec htr (own := own) (cls := cls) (names := names) (ic := ic) hown' hcls hnames h (fun x hx => nomatch hx) hfX hkX hcellA (by rw [hhp, hT]; exact Nat.le_refl _) (msg := .ref sa) rfl
    (g := { method := m, pc := pc + 6, locals := ls, stack := .ref sa :: .ref T.heap.size :: .ref T.heap.size :: rest, locked := none }) rfl hsize rfl rfl (rest := rest) rfl
    (by rw [hb]; exact d6) (by rw [hb]; exact d9) hout hRframes (by simp only [List.map_cons, List.sum_cons, hcat]; omega) hlocks
  obtain ⟨f1, f2⟩ := vx_frame hsame
  rw [hhp] at f1 f2
  have hWs : s.WarmedH U.vm := State.WarmedH.trans hW0 hW
  have hcl : s.vm.findClass cls = some ce.cls := by
    have h9 := hO.cls
    rw [hvm] at h9
    exact h9
  have hall : s.sameButNew ({ U with vm := s.vm } : State) locs mc ms := by
    subst hA
    obtain ⟨e1, e2⟩ := hsame
    rw [State.setFrames_setFrames] at e1
    have h2 : (T.setVm s.vm).sameButNew ({ U with vm := s.vm } : State) [] (0 + 1) (0 + 6) := ⟨e1, e2⟩
    have h3 := X.same.trans h2
    rw [List.append_nil] at h3
    exact h3.mono hc hs
  refine ⟨U, ?_, .threw T.heap.size, hrun, hend, Or.inr ⟨T.heap.size, rfl, cls, ce, locs, hx U hWs.alike f1 (fun q hq => f2 q hq (fun z hz => nomatch hz)), hce, hO.vm, hcl, hWs, hall, hf⟩⟩
  refine st1 _ ?_
  show Steps p.tables e below (T1.setTop { method := m, pc := pc + 3, locals := ls, stack := .ref T.heap.size :: rest, locked := none }) _
  jvm_step X₁.here [X₁.here.top, hexec, d3', Value.category]
  exact X₁.ldcString hexec (own := own) (text := text) (index := is) (a := sa) hown' hstr'.1 hstr'.2
    (g := { method := m, pc := pc + 4, locals := ls, stack := .ref T.heap.size :: .ref T.heap.size :: rest, locked := none }) rfl d4' _ hsteps
/-- 'throw new E("text")', the text by a wide index -/
theorem vx_throwSW {cc : ByteArray} {pc : Nat} (hexec : p.tables.exec = Jvm.exec) (hb : c.code = cc) (hl : l.stackTraces = false) {own cls text : String} {names : List String} {ik is ic mc ms sa : Nat} {A : Nat → Prop}
    (hown : s.vm.findClass own = some m.cls) (hcls : Bundle.fit cls = true) (hnames : ∀ n ∈ names, Bundle.fit n = true)
    (hk : (Cond.classLink own ik cls).before args s = true) (hini : (Cond.initialized cls).before args s = true) (hstr : vk_R own is text sa s) (hat : ∀ w ∈ vx_atS own ic cls names, w.before args s = true)
    (hgood : ∀ w ∈ Cond.classLink own ik cls :: Cond.initialized cls :: vx_atS own ic cls names, vx_ot w = true)
    (hU : vx_Zq Bundle.tN "UNASSIGNED_STACK" Bundle.steD A s s.heap) (hN : vx_Zq Bundle.tN "SUPPRESSED_SENTINEL" Bundle.listD A s s.heap) (hS : va_S A s.heap H locs) (hsize : ls.size = c.maxLocals)
    (d0 : decode cc pc = .ok (.new ik, 3)) (d3 : decode cc (pc + 3) = .ok (.dup, 1)) (d4 : decode cc (pc + 4) = .ok (.ldc_w is, 3)) (d7 : decode cc (pc + 7) = .ok (.invokespecial ic, 3)) (d10 : decode cc (pc + 10) = .ok (.athrow, 1))
    (hout : ∀ x ∈ c.exceptionTable.toList, covers x (pc + 10) = false)
    (hRframes : names.length + 3 < R.frames) (hRlocals : (rest.map fun v => v.category).sum + (13 * (names.length + 1) + 43) ≤ R.locals) (hRcells : cells + 1 ≤ R.cells) (hRslots : slots + 6 ≤ R.slots) (hlocks : meth.locks = false)
    (hx : ∀ t : State, s.vm.Alike t.vm → H.size ≤ t.heap.size → (∀ q : Nat, q < H.size → t.heap[q]? = H[q]?) → XC cls s t)
    (hf : ∀ z ∈ locs, free z.base) (hc : cells + 1 ≤ mc) (hs : slots + 6 ≤ ms) :
    W p l e R s m args below meth c H locs cells slots (vx_MQ below Qc XC args s mc ms free) (F0 m pc ls rest) := by
  intro T hT X
  have htr : e.platform.stackTraces = false := (show e.platform.stackTraces = l.stackTraces by rw [X.admits.platform]).trans hl
  have Y := vx_rebase X (R' := { frames := R.frames, locals := R.locals, cells := 1, slots := 6 }) (Nat.le_refl _) (Nat.le_refl _) hRcells hRslots
  obtain ⟨s', hA⟩ : ∃ z, z = (T.setVm s.vm).setFrames (.invoking m args :: below) := ⟨_, rfl⟩
  rw [← hA] at Y
  have hvm : s'.vm = s.vm := by rw [hA]; rfl
  have hhp : s'.heap = H := by rw [hA]; exact hT
  have hW0 : s.WarmedH s'.vm := by rw [hvm]; exact State.WarmedH.refl s
  have hat' : ∀ w ∈ vx_atS own ic cls names, w.before args s' = true := fun w hw => vx_ot_at hW0 hvm.symm (hgood w (List.mem_cons_of_mem _ (List.mem_cons_of_mem _ hw))) (hat w hw)
  have hk' : (Cond.classLink own ik cls).before args s' = true := vx_ot_at hW0 hvm.symm (hgood _ List.mem_cons_self) hk
  have hini' : (Cond.initialized cls).before args s' = true := vx_ot_at hW0 hvm.symm (hgood _ (List.mem_cons_of_mem _ List.mem_cons_self)) hini
  have hU' : vx_Zq Bundle.tN "UNASSIGNED_STACK" Bundle.steD A s' s'.heap := by rw [hhp]; exact vx_Zq.moved hW0.alike (hU.kept hS.2.1)
  have hN' : vx_Zq Bundle.tN "SUPPRESSED_SENTINEL" Bundle.listD A s' s'.heap := by rw [hhp]; exact vx_Zq.moved hW0.alike (hN.kept hS.2.1)
  have h : ∀ w ∈ Bundle.ownAtoms own ic cls names, w.before args s' = true := vx_own hat' (vx_isRefq hU'.1) (vx_isRefq hN'.1) hU'.2.word hN'.2.word
  have hown' : s'.vm.findClass own = some m.cls := by rw [hvm]; exact hown
  have hins : (Cond.instantiable cls 6).before args s' = true := h _ (by simp [Bundle.ownAtoms])
  obtain ⟨vm₁, cX, kX, hfX, hkX, -, -, X₁, st1⟩ := Y.newCold hexec (own := own) (C := cls) (index := ik) (n := 6) hown' hk' hins hini'
    (g := F0 m pc ls rest) rfl (by rw [hb]; exact d0) (Nat.le_refl _) (Nat.le_refl _)
  generalize hT1 : (T.setVm vm₁).pushCell { cls := cX, slots := kX.instanceTypes.map defaultValue, vm := .none } = T1 at X₁ st1
  have hcat : (Value.ref T.heap.size).category = 1 := rfl
  have hcellA : T1.heap[T.heap.size]? = some (freshCell cX kX) := by rw [← hT1]; exact State.heap_pushCell_size _ _
  have d3' : decode c.code (pc + 3) = .ok (.dup, 1) := by rw [hb]; exact d3
  have d4' : decode c.code (pc + 4) = .ok (.ldc_w is, 3) := by rw [hb]; exact d4
  have hstr' : vk_R own is text sa s' := vk_R.warm hW0 hstr
  obtain ⟨U, hsteps, hrun, hend, hW, hsame, ce, hce, hO⟩ := X₁.ctorThrowS hexec htr (own := own) (cls := cls) (names := names) (ic := ic) hown' hcls hnames h (fun x hx => nomatch hx) hfX hkX hcellA (by rw [hhp, hT]; exact Nat.le_refl _) (msg := .ref sa) rfl
    (g := { method := m, pc := pc + 7, locals := ls, stack := .ref sa :: .ref T.heap.size :: .ref T.heap.size :: rest, locked := none }) rfl hsize rfl rfl (rest := rest) rfl
    (by rw [hb]; exact d7) (by rw [hb]; exact d10) hout hRframes (by simp only [List.map_cons, List.sum_cons, hcat]; omega) hlocks
  obtain ⟨f1, f2⟩ := vx_frame hsame
  rw [hhp] at f1 f2
  have hWs : s.WarmedH U.vm := State.WarmedH.trans hW0 hW
  have hcl : s.vm.findClass cls = some ce.cls := by
    have h9 := hO.cls
    rw [hvm] at h9
    exact h9
  have hall : s.sameButNew ({ U with vm := s.vm } : State) locs mc ms := by
    subst hA
    obtain ⟨e1, e2⟩ := hsame
    rw [State.setFrames_setFrames] at e1
    have h2 : (T.setVm s.vm).sameButNew ({ U with vm := s.vm } : State) [] (0 + 1) (0 + 6) := ⟨e1, e2⟩
    have h3 := X.same.trans h2
    rw [List.append_nil] at h3
    exact h3.mono hc hs
  refine ⟨U, ?_, .threw T.heap.size, hrun, hend, Or.inr ⟨T.heap.size, rfl, cls, ce, locs, hx U hWs.alike f1 (fun q hq => f2 q hq (fun z hz => nomatch hz)), hce, hO.vm, hcl, hWs, hall, hf⟩⟩
  refine st1 _ ?_
  show Steps p.tables e below (T1.setTop { method := m, pc := pc + 3, locals := ls, stack := .ref T.heap.size :: rest, locked := none }) _
  jvm_step X₁.here [X₁.here.top, hexec, d3', Value.category]
  exact X₁.ldcStringW hexec (own := own) (text := text) (index := is) (a := sa) hown' hstr'.1 hstr'.2
    (g := { method := m, pc := pc + 4, locals := ls, stack := .ref T.heap.size :: .ref T.heap.size :: rest, locked := none }) rfl d4' _ hsteps
end Ends
section Bodies
variable {l : Launch}
theorem vx_ofW {y : MethodName} {ws ws' : List Cond} {rm : Room} {Pc : Array Value → State → Prop} {Qc : Array Value → State → Outcome → State → Prop} {XC : String → State → State → Prop} {mc ms : Nat} {free : Addr → Prop} {cc : ByteArray} {maxL : Nat} {ret : Option FieldType}
    (hy : plainName y.cls = true) (hw : ws = Cond.code y cc maxL ret :: ws')
    (body : ∀ p e s m args below meth c s₁, BodyLoose p l y (headSpec ws rm) cc maxL ret e s m args below meth c s₁ → c.maxLocals = maxL → (∀ x ∈ c.exceptionTable.toList, False) → Pc args s →
      W p l e (headSpec ws rm).room s m args below meth c s.heap [] 0 0 (vx_MQ below Qc XC args s mc ms free) (entryFrame m args maxL)) : vx_Met l y ws rm Pc Qc XC mc ms free := by
  refine MetFree.of_bodyS (code := cc) (maxLocals := maxL) (ret := ret) hy ?_ ?_
  · intro args s m h hn
    obtain ⟨meth, c, h1, h2, h3, h4, h5, h6, -, -⟩ := Cond.code_spec hn (atoms_spec (ws := ws) h _ (by rw [hw]; exact List.mem_cons_self))
    exact ⟨meth, c, h1, h2, h3, h4, h5, h6⟩
  · intro p e s m args below meth c s₁ B hml hP _
    have hh0 : s₁.heap = s.heap := by rw [B.state]; rfl
    have ht : ∀ x ∈ c.exceptionTable.toList, False := by
      obtain ⟨meth9, c9, h1, h2, -, -, -, -, h7, -⟩ := Cond.code_spec B.named (atoms_spec (ws := ws) B.pre _ (by rw [hw]; exact List.mem_cons_self))
      cases Option.some.inj (h1.symm.trans B.method)
      cases Option.some.inj (h2.symm.trans (Stand.of_body B).code)
      intro x hx
      rw [Array.isEmpty_iff.mp h7] at hx
      cases hx
    obtain ⟨t, a1, o, b1, b2, b3⟩ := body p e s m args below meth c s₁ B hml ht hP s₁ hh0 (Stand.of_body B)
    exact ⟨t, o, a1, b1, b2, b3⟩
/-- the table of a body with handlers -/
theorem vx_table {p : Program} {x y : MethodName} {S : Spec} {cc bytes : ByteArray} {maxL maxL' : Nat} {ret ret' : Option FieldType} {e : Env} {s s₁ : State} {m : MethodId} {args : Array Value} {below : List Frame} {meth : Method} {c : Code} {hh : List (Nat × Nat × Nat × Nat)}
    (B : BodyLoose p l y S cc maxL ret e s m args below meth c s₁) (h : (Cond.codeWith y bytes maxL' ret' hh).before args s = true) : c.exceptionTable.toList = tableOf hh := by
  obtain ⟨m9, meth9, c9, hn9, h1, h2, -, -, h6, -⟩ := Cond.codeWith_spec h
  cases Option.some.inj (hn9.symm.trans B.named)
  cases Option.some.inj (h1.symm.trans B.method)
  cases Option.some.inj (h2.symm.trans (Stand.of_body B).code)
  rw [← h6, table_eq]
end Bodies
end VXA
/-! ===== END ===== -/
/-! ===== BEGIN a static call of a method with an exception table ===== -/
section VXS
variable {p : Program} {l : Launch} {e : Env} {R : Room} {s : State} {m : MethodId} {args : Array Value} {below : List Frame} {meth : Method} {c : Code} {T : State} {H : Heap} {locs : List Loc} {cells slots : Nat}
abbrev vx_CSW (R : Room) (s : State) (args : Array Value) (own : String) (index : Nat) (y : MethodName) (bytes : ByteArray) (maxL : Nat) (ret : Option FieldType) (hh : List (Nat × Nat × Nat × Nat)) (ws : List Cond) (rm : Room) (mc ms n : Nat) : Prop :=
  (rm.cells = mc ∧ rm.slots = ms ∧ rm.frames + 1 ≤ R.frames ∧ 8 + (maxL + 11) + rm.locals ≤ R.locals ∧ (∀ w ∈ ws, ∀ (a' : Array Value) (U : State), s.WarmedH U.vm → w.before a' U = true) ∧ Cond.codeWith y bytes maxL ret hh ∈ ws) ∧
  (Cond.codeWith y bytes maxL ret hh).before args s = true ∧ (Cond.initialized y.cls).before args s = true ∧ (y.cls ≠ "java/lang/invoke/MethodHandle" ∧ y.cls ≠ "java/lang/invoke/VarHandle") ∧
  (∀ sig, parseMethodDescriptor y.desc = some sig → n = sig.parameters.length) ∧ (Cond.methodLink own index y).before args s = true ∧ (Cond.static y).before args s = true
theorem vx_cwSW {own : String} {index maxL mc ms : Nat} {y : MethodName} {bytes : ByteArray} {ret : Option FieldType} {hh : List (Nat × Nat × Nat × Nat)} {Ts ws ws' : List Cond} {rm : Room} (n : Nat) (ht : ∀ w ∈ Ts, w.before args s = true) (hT : GoodIn Ts (va_wsS own index y ws)) (hw : ws = Cond.codeWith y bytes maxL ret hh :: ws') (hrc : rm.cells = mc) (hrs : rm.slots = ms)
    (hd : y.cls ≠ "java/lang/invoke/MethodHandle" ∧ y.cls ≠ "java/lang/invoke/VarHandle" ∧ (parseMethodDescriptor y.desc).map (fun d => d.parameters.length) = some n) (hR : rm.frames + 1 ≤ R.frames ∧ 8 + (maxL + 11) + rm.locals ≤ R.locals) :
    vx_CSW R s args own index y bytes maxL ret hh ws rm mc ms n := by
  have ok : ∀ w ∈ va_wsS own index y ws, w.before args s = true := fun w h => ht w (hT w h).1
  have hG : GoodIn Ts ws := fun w h => hT w (by unfold va_wsS; exact List.mem_append_right _ h)
  have hc : Cond.codeWith y bytes maxL ret hh ∈ ws := by rw [hw]; exact List.mem_cons_self
  refine ⟨⟨hrc, hrs, hR.1, hR.2, pay_in ht hG, hc⟩, ht _ (hG _ hc).1, ok _ (by simp [va_wsS]), ⟨hd.1, hd.2.1⟩, fun sig h => ?_, ok _ (by simp [va_wsS]), ok _ (by simp [va_wsS])⟩
  have h2 := hd.2.2
  rw [h] at h2
  exact (Option.some.inj h2).symm
theorem vx_callSW (X : Stand p l e R s m args below meth c T locs cells slots) (hexec : p.tables.exec = Jvm.exec) {own : String} {index : Nat} {y : MethodName} {bytes : ByteArray} {maxL : Nat} {ret : Option FieldType} {hh : List (Nat × Nat × Nat × Nat)}
    (hown : s.vm.findClass own = some m.cls) (hlink : (Cond.methodLink own index y).before args s = true) (hstat : (Cond.static y).before args s = true) (hinit : (Cond.initialized y.cls).before args s = true)
    (hcode : (Cond.codeWith y bytes maxL ret hh).before args s = true) (hy : y.cls ≠ "java/lang/invoke/MethodHandle" ∧ y.cls ≠ "java/lang/invoke/VarHandle")
    {W9 : Nat} {Pre : Pt → Array Value → Prop} {Post : Pt → Array Value → Option Value → Pt → Prop} (hK : Back l R p e below s args y 3 W9 Pre Post)
    {g : JFrame} (hg : g.method = m) (hsize : g.locals.size = c.maxLocals) {argsL rest : List Value} (hlen : ∀ sig, parseMethodDescriptor y.desc = some sig → argsL.length = sig.parameters.length)
    (hstack : g.stack = argsL.reverse ++ rest) (hW : 2 * g.monitorRoom + (rest.map fun v => v.category).sum ≤ W9) (hdg : decode c.code g.pc = .ok (.invokestatic index, 3))
    (hpre : ∀ vm₁, s.WarmedH vm₁ → Pre ⟨T.setVm vm₁, locs, cells, slots⟩ argsL.toArray) :
    ∃ (v : Option Value) (vm₁ : Vm) (B : Pt), s.WarmedH vm₁ ∧ Stand p l e R s m args below meth c B.U B.locs B.cells B.slots ∧ Post ⟨T.setVm vm₁, locs, cells, slots⟩ argsL.toArray v B ∧
      ∀ target, Steps p.tables e below (B.U.setTop { g with pc := g.pc + 3, stack := v.toList ++ rest }) target → Steps p.tables e below (T.setTop g) target := by
  obtain ⟨mk, methM, cM, hnamed, hmethM, -, -, -, -, -, -, hsigM⟩ := Cond.codeWith_spec hcode
  have hstatic : methM.isStatic = true := Cond.static_spec hnamed hmethM hstat
  obtain ⟨kP, hkP, -⟩ := className_of_methodNamed hnamed
  have hinitP : kP.init = .initialized := Cond.initialized_spec (findClass_of_methodNamed hnamed) hkP hinit
  obtain ⟨vm₁, X₁, hstep₁⟩ := X.invokestatic hexec hown hlink hnamed hmethM hstatic hkP hinitP hy (g := g) hg (argsL := argsL) (rest := rest) (hlen _ hsigM) hstack hdg
  obtain ⟨v, B, X', hpost, hsteps⟩ := hK m meth c ⟨T.setVm vm₁, locs, cells, slots⟩ { g with stack := rest } (.invokestatic index) mk argsL.toArray X₁ hg hsize hdg hW (X₁.named hnamed) (hpre vm₁ X₁.warmed)
  exact ⟨v, vm₁, B, X₁.warmed, X', hpost, fun target h => hstep₁ _ fun acts => by rw [doInvoke_state]; exact hsteps.trans h⟩
theorem vx_runSW {y : MethodName} {bytes cc : ByteArray} {maxL nL mc ms n index : Nat} {ret : Option FieldType} {hh : List (Nat × Nat × Nat × Nat)} {ws : List Cond} {rm : Room} {Pc : Array Value → State → Prop} {Qc : Array Value → State → Outcome → State → Prop} {free : Addr → Prop} {Ts : List Cond} {own : String} {As rest : List Value} {g : JFrame}
    (S : CallFix p m c cc nL s args Ts own) (hM : Met l y ws rm Pc Qc mc ms free) (cw : vx_CSW R s args own index y bytes maxL ret hh ws rm mc ms n) (hp : PreS s H Pc As)
    (hg : g.method = m) (hn : As.length = n) (hsize : g.locals.size = nL) (hstack : g.stack = As.reverse ++ rest) (hW : 2 * g.monitorRoom + (rest.map fun v => v.category).sum ≤ 8) (hdg : decode cc g.pc = .ok (.invokestatic index, 3)) (hf : cells + mc ≤ R.cells ∧ slots + ms ≤ R.slots) :
    va_Run p l e R s m args below meth c H locs cells slots mc ms g rest (Qc As.toArray) (free) := by
  obtain ⟨⟨hrc, hrs, hfr, hlo, hws, hcw⟩, hcode, hini, hy, hlen, hl, hstt⟩ := cw
  have hK : Back l R p e below s args y 3 8 (PreOf R mc ms Pc) (PostOf Qc mc ms free) := va_backW (hh := hh) (bytes := bytes) (maxL := maxL) (ret := ret) hM hp.1 hrc hrs hfr hlo hws hcw (fun a' U hW => word_at hW (Or.inl (by first | rfl | simp [Cond.onTables, Cond.keeps, Cond.steady])) hini)
  obtain ⟨hx, hb, hml, ho, -⟩ := S
  intro T hT X
  obtain ⟨v, vm₁, ⟨U', l2, c2, s2⟩, hW₁, X', ⟨g', mk, t, L, e1, e2, hq, h1, hL, h2, h3⟩, st⟩ := vx_callSW X hx (hh := hh) (bytes := bytes) (maxL := maxL) (ret := ret) ho hl hstt hini hcode hy hK hg (hsize.trans hml.symm) (argsL := As) (rest := rest) (fun sig h => hn.trans (hlen sig h)) hstack hW (by rw [hb]; exact hdg)
    (fun vm₁ hW₁ => ⟨hf.1, hf.2, hp.2 (T.setVm vm₁) hT hW₁⟩)
  dsimp only [Pt.U, Pt.locs, Pt.cells, Pt.slots] at X' e1 e2 h1 h2 h3 st
  subst h1; subst h2; subst h3
  exact ⟨v, (T.setVm vm₁).calling g' mk As.toArray, t, U', L, hT, X', hL, e1, e2, hq, st⟩
/-- a thing of a world lies in the heap -/
theorem vx_lt {D : va_G} {cl : List vw_C} {ws : va_W} {H1 : Heap} (h : va_P D cl ws H1) {k : Nat} {q : Nat × va_E} (hk : ws[k]? = some q) : q.1 < H1.size := (h k q hk).lt
end VXS
/-! ===== END ===== -/
/-! ===== BEGIN methods with a table of their own: called by a name, returning or throwing ===== -/
section VXH
/-! vx_backW, vx_callVX, vx_callSX, vx_callVW, vx_runVW, vx_runVX, vx_runSX, vx_ofWH follow the same proofs as their sisters above (Free/Laws.lean, Shelf42/LK1.lean); vx_outP calls Shelf42/NT130.lean (outThrough). -/
section
variable {l : Launch} {R : Room} {p : Program} {e : Env} {below : List Frame} {s : State} {sargs : Array Value} {y : MethodName} {len W9 : Nat}
theorem vx_backW {ws : List Cond} {rm : Room} {Pc : Array Value → State → Prop} {Qc : Array Value → State → Outcome → State → Prop} {XC : String → State → State → Prop} {mc ms : Nat} {free : Addr → Prop} {bytes : ByteArray} {maxL : Nat} {ret : Option FieldType} {hh : List (Nat × Nat × Nat × Nat)}
    (hM : vx_Met l y ws rm Pc Qc XC mc ms free) (hblind : FrameBlind Pc) (hrc : rm.cells = mc) (hrs : rm.slots = ms)
    (hframes : rm.frames + 1 ≤ R.frames) (hlocals : W9 + (maxL + 11) + rm.locals ≤ R.locals)
    (hws : ∀ w ∈ ws, ∀ a' U, s.WarmedH U.vm → w.before a' U = true) (hcode : Cond.codeWith y bytes maxL ret hh ∈ ws) (hinit : ∀ a' U, s.WarmedH U.vm → (Cond.initialized y.cls).before a' U = true) :
    vx_Back l R p e below s sargs y len W9 (PreOf R mc ms Pc) (PostOf Qc mc ms free) (vx_Post XC mc ms free) := by
  intro m meth c A g ig mk a X hg hsize hdg hW hn hp
  have h1 : (headSpec ws rm).pre.before a A.U = true := atoms_intro fun w hw => hws w hw _ _ X.warmed
  have h2 : (Cond.codeWith y bytes maxL ret hh).before a A.U = true := hws _ hcode _ _ X.warmed
  have h3 : (Cond.initialized y.cls).before a A.U = true := hinit _ _ X.warmed
  have h4 : A.cells + (headSpec ws rm).room.cells ≤ R.cells := by rw [show (headSpec ws rm).room.cells = mc from hrc]; exact hp.1
  have h5 : A.slots + (headSpec ws rm).room.slots ≤ R.slots := by rw [show (headSpec ws rm).room.slots = ms from hrs]; exact hp.2.1
  have hPc : Pc a (A.U.calling g mk a) := hblind _ _ _ _ hp.2.2
  obtain ⟨U, Ls, c0, s0⟩ := A
  dsimp only [Pt.U, Pt.locs, Pt.cells, Pt.slots] at h1 h2 h3 h4 h5 X hn hPc ⊢
  obtain ⟨m9, methY, cY, hn9, hmY, hcY, -, hlY, -⟩ := Cond.codeWith_spec h2
  cases Option.some.inj (hn9.symm.trans hn)
  obtain ⟨kY, hkY, -⟩ := className_of_methodNamed hn
  have hinitY : kY.init = .initialized := Cond.initialized_spec (findClass_of_methodNamed hn) hkY h3
  have h : At U g.method c below := by rw [hg]; exact X.here
  have hlocals9 : W9 + (maxL + 11) + (headSpec ws rm).room.locals ≤ R.locals := hlocals
  have happ : (headSpec ws rm).appliesLoose y e.platform (U.calling g mk a) = true :=
    Spec.appliesLoose_calling (g := g) h hdg hn hkY hinitY
      (X.room_calling (g := g) (R' := (headSpec ws rm).room) hsize hmY hcY hframes (by rw [hlY]; omega) h4 h5) h1
  obtain ⟨mid, hmid⟩ := h.above
  have hfr : (U.setTop g).frames = (.java g :: mid) ++ below := by rw [State.frames_setTop' g h.top, hmid]; rfl
  obtain ⟨o, s₂, hsteps, -, hend, hq⟩ := Steps.callFree hM p X.admits X.cas X.clock (acts := []) hfr happ hPc trivial
  have hq' : vx_Q Qc XC mc ms free a (U.calling g mk a) o s₂ := hq
  rw [State.frames_setTop' g h.top] at hend
  obtain ⟨g₀, hg0⟩ := Option.isSome_iff_exists.mp h.top
  obtain ⟨r, hr⟩ := State.topJava?_eq_some.mp hg0
  have hr' : (({ U with heap := s₂.heap, slotsUsed := s₂.slotsUsed } : State).setVm s₂.vm).frames = .java g₀ :: r := hr
  rcases hq' with ⟨hqc, L, hfe, hL⟩ | ⟨q, rfl, E, ce, L, hx, hce, hcv, hcl, hW₂, hsm, hL⟩
  · obtain ⟨⟨v, rfl⟩, hW₂, e2, q2, q3, q4, q5, q6⟩ := id hfe
    have e3 : s₂ = ({ (U.calling g mk a).setFrames s₂.frames with heap := s₂.heap, slotsUsed := s₂.slotsUsed } : State).setVm s₂.vm := by
      have : s₂ = ({ s₂ with vm := (U.calling g mk a).vm } : State).setVm s₂.vm := rfl
      rw [e2] at this
      exact this
    obtain ⟨c₂, i₂, len₂, hc₂, hd₂, hf₂⟩ := hend
    have hW' : U.WarmedH s₂.vm := hW₂
    have hcc : c₂ = c := by
      have h1 : s₂.code? g.method = U.code? g.method := by
        rw [State.code?_eq, State.code?_eq, hW'.alike.method?]
      exact Option.some.inj (hc₂.symm.trans (h1.trans h.code))
    subst hcc
    have hlen : len₂ = len := by rw [hdg] at hd₂; cases hd₂; rfl
    subst hlen
    have hs₂ : s₂ = (({ U with heap := s₂.heap, slotsUsed := s₂.slotsUsed } : State).setVm s₂.vm).setTop { g with pc := g.pc + len₂, stack := v.toList ++ g.stack } := by
      refine e3.trans ?_
      rw [hf₂, State.calling_eq h.top, State.setFrames_setFrames, State.setTop_of_frames _ hr', hr]
      rfl
    have hsame : U.sameButNew ({ U with heap := s₂.heap, slotsUsed := s₂.slotsUsed } : State) L mc ms := by
      refine ⟨?_, q2, q3, q4, q5, q6⟩
      obtain ⟨t, ht, -⟩ := State.frames_cons hr
      show ({ U with heap := s₂.heap, slotsUsed := s₂.slotsUsed } : State) = { U.setFrames U.frames with heap := s₂.heap, slotsUsed := s₂.slotsUsed }
      rw [State.setFrames_self ht]
    subst hg
    refine Or.inl ⟨v, ⟨(({ U with heap := s₂.heap, slotsUsed := s₂.slotsUsed } : State).setVm s₂.vm), Ls ++ L, c0 + mc, s0 + ms⟩,
      ⟨X.admits, X.cas, X.clock, X.frames, X.room, X.hears, X.method, X.code, (X.here.setHeapUsed s₂.heap s₂.slotsUsed).setVm hW'.alike, X.tail, State.WarmedH.trans X.warmed hW', X.limits, X.bytes, X.same.trans (hsame.setVm s.vm)⟩,
      ⟨g, mk, s₂, L, rfl, rfl, hqc, rfl, hL, rfl, rfl⟩, ?_⟩
    show Steps p.tables e below _ ((({ U with heap := s₂.heap, slotsUsed := s₂.slotsUsed } : State).setVm s₂.vm).setTop { g with pc := g.pc + len₂, stack := v.toList ++ g.stack })
    rw [← hs₂]
    exact hsteps
  · obtain ⟨e2, q2, q3, q4, q5, q6⟩ := id hsm
    have e3 : s₂ = ({ (U.calling g mk a).setFrames s₂.frames with heap := s₂.heap, slotsUsed := s₂.slotsUsed } : State).setVm s₂.vm := by
      have : s₂ = ({ s₂ with vm := (U.calling g mk a).vm } : State).setVm s₂.vm := rfl
      rw [e2] at this
      exact this
    have hf₂ : s₂.frames = .throwing q :: .java g :: U.frames.tail := hend
    have hW' : U.WarmedH s₂.vm := hW₂
    have hs₂ : s₂ = ((({ U with heap := s₂.heap, slotsUsed := s₂.slotsUsed } : State).setVm s₂.vm).setTop g).pushFrame (.throwing q) := by
      refine e3.trans ?_
      rw [hf₂, State.calling_eq h.top, State.setFrames_setFrames, State.pushFrame, State.frames_setTop _ hr', State.setTop_of_frames _ hr', State.setFrames_setFrames, hr]
      rfl
    have hsame : U.sameButNew ({ U with heap := s₂.heap, slotsUsed := s₂.slotsUsed } : State) L mc ms := by
      refine ⟨?_, q2, q3, q4, q5, q6⟩
      obtain ⟨t, ht, -⟩ := State.frames_cons hr
      show ({ U with heap := s₂.heap, slotsUsed := s₂.slotsUsed } : State) = { U.setFrames U.frames with heap := s₂.heap, slotsUsed := s₂.slotsUsed }
      rw [State.setFrames_self ht]
    subst hg
    refine Or.inr ⟨q, ⟨(({ U with heap := s₂.heap, slotsUsed := s₂.slotsUsed } : State).setVm s₂.vm), Ls ++ L, c0 + mc, s0 + ms⟩,
      ⟨X.admits, X.cas, X.clock, X.frames, X.room, X.hears, X.method, X.code, (X.here.setHeapUsed s₂.heap s₂.slotsUsed).setVm hW'.alike, X.tail, State.WarmedH.trans X.warmed hW', X.limits, X.bytes, X.same.trans (hsame.setVm s.vm)⟩,
      ⟨g, mk, s₂, L, E, ce, rfl, rfl, hx, hce, hcv, hcl, rfl, hL, rfl, rfl⟩, ?_⟩
    show Steps p.tables e below _ (((({ U with heap := s₂.heap, slotsUsed := s₂.slotsUsed } : State).setVm s₂.vm).setTop g).pushFrame (.throwing q))
    rw [← hs₂]
    exact hsteps
end
variable {p : Program} {l : Launch} {e : Env} {R : Room} {s : State} {m : MethodId} {args : Array Value} {below : List Frame} {meth : Method} {c : Code} {T : State} {H : Heap} {locs : List Loc} {cells slots : Nat}
theorem vx_callVX (X : Stand p l e R s m args below meth c T locs cells slots) (hexec : p.tables.exec = Jvm.exec) {own C : String} {index : Nat} {y : MethodName} {bytes : ByteArray} {maxL : Nat} {ret : Option FieldType} {hh : List (Nat × Nat × Nat × Nat)}
    (hown : s.vm.findClass own = some m.cls) (hlink : (Cond.methodLink own index y).before args s = true) (hinst : (Cond.instanceMethod y).before args s = true) (hsel : (Cond.selects C y y).before args s = true)
    (hcode : (Cond.codeWith y bytes maxL ret hh).before args s = true) (hy : y.cls ≠ "java/lang/invoke/MethodHandle" ∧ y.cls ≠ "java/lang/invoke/VarHandle")
    {W9 : Nat} {Pre : Pt → Array Value → Prop} {Post : Pt → Array Value → Option Value → Pt → Prop} {PostX : Pt → Array Value → Addr → Pt → Prop} (hK : vx_Back l R p e below s args y 3 W9 Pre Post PostX)
    {b : Addr} {cellB : Cell} (hcell : T.heap[b]? = some cellB) (hobj : cellB.vm.isStatics = false) (hcls : s.vm.findClass C = some cellB.cls)
    {g : JFrame} (hg : g.method = m) (hsize : g.locals.size = c.maxLocals) {argsL rest : List Value} (hlen : ∀ sig, parseMethodDescriptor y.desc = some sig → argsL.length = sig.parameters.length)
    (hstack : g.stack = argsL.reverse ++ .ref b :: rest) (hW : 2 * g.monitorRoom + (rest.map fun v => v.category).sum ≤ W9) (hdg : decode c.code g.pc = .ok (.invokevirtual index, 3))
    (hpre : ∀ vm₁, s.WarmedH vm₁ → Pre ⟨T.setVm vm₁, locs, cells, slots⟩ (Value.ref b :: argsL).toArray) :
    (∃ (v : Option Value) (vm₁ : Vm) (B : Pt), s.WarmedH vm₁ ∧ Stand p l e R s m args below meth c B.U B.locs B.cells B.slots ∧ Post ⟨T.setVm vm₁, locs, cells, slots⟩ (Value.ref b :: argsL).toArray v B ∧
      ∀ target, Steps p.tables e below (B.U.setTop { g with pc := g.pc + 3, stack := v.toList ++ rest }) target → Steps p.tables e below (T.setTop g) target) ∨
    (∃ (q : Addr) (vm₁ : Vm) (B : Pt), s.WarmedH vm₁ ∧ Stand p l e R s m args below meth c B.U B.locs B.cells B.slots ∧ PostX ⟨T.setVm vm₁, locs, cells, slots⟩ (Value.ref b :: argsL).toArray q B ∧
      Steps p.tables e below (T.setTop g) ((B.U.setTop { g with stack := rest }).pushFrame (.throwing q))) := by
  obtain ⟨mk, methM, hnamed, hmethM, hstM, habM⟩ := Cond.instanceMethod_spec hinst
  obtain ⟨m8, methM', cM, hn8, hmethM', -, -, -, -, -, -, hsigM⟩ := Cond.codeWith_spec hcode
  cases Option.some.inj (hn8.symm.trans hnamed)
  cases hmethM.symm.trans hmethM'
  obtain ⟨c2, r2, m2, q1, q2, q3, q4, kP, hkP, hkPi⟩ := Cond.selects_spec hsel
  cases hcls.symm.trans q1
  cases (State.methodFound?_of_named hnamed hy).symm.trans q2
  cases hnamed.symm.trans q3
  have hselP : selectMethod e.platform s.vm cellB.cls mk = .method mk := by rw [Launch.admits_selectMethod X.admits]; exact q4
  obtain ⟨vm₁, X₁, hstep₁⟩ := X.invokevirtual hexec hown hlink hnamed hmethM hstM hkP hkPi hy (a := b) (cell := cellB) hcell
    (fun z h => by rw [h] at hobj; cases hobj) hselP hmethM habM hkP hkPi (g := g) hg (argsL := argsL) (rest := rest) (hlen _ hsigM) hstack hdg
  rcases hK m meth c ⟨T.setVm vm₁, locs, cells, slots⟩ { g with stack := rest } (.invokevirtual index) mk (Value.ref b :: argsL).toArray X₁ hg hsize hdg hW (X₁.named hnamed) (hpre vm₁ X₁.warmed) with ⟨v, B, X', hpost, hsteps⟩ | ⟨q, B, X', hpost, hsteps⟩
  · exact Or.inl ⟨v, vm₁, B, X₁.warmed, X', hpost, fun target h => hstep₁ _ fun acts => by rw [doInvoke_state]; exact hsteps.trans h⟩
  · exact Or.inr ⟨q, vm₁, B, X₁.warmed, X', hpost, hstep₁ _ fun acts => by rw [doInvoke_state]; exact hsteps⟩
theorem vx_callSX (X : Stand p l e R s m args below meth c T locs cells slots) (hexec : p.tables.exec = Jvm.exec) {own : String} {index : Nat} {y : MethodName} {bytes : ByteArray} {maxL : Nat} {ret : Option FieldType} {hh : List (Nat × Nat × Nat × Nat)}
    (hown : s.vm.findClass own = some m.cls) (hlink : (Cond.methodLink own index y).before args s = true) (hstat : (Cond.static y).before args s = true) (hinit : (Cond.initialized y.cls).before args s = true)
    (hcode : (Cond.codeWith y bytes maxL ret hh).before args s = true) (hy : y.cls ≠ "java/lang/invoke/MethodHandle" ∧ y.cls ≠ "java/lang/invoke/VarHandle")
    {W9 : Nat} {Pre : Pt → Array Value → Prop} {Post : Pt → Array Value → Option Value → Pt → Prop} {PostX : Pt → Array Value → Addr → Pt → Prop} (hK : vx_Back l R p e below s args y 3 W9 Pre Post PostX)
    {g : JFrame} (hg : g.method = m) (hsize : g.locals.size = c.maxLocals) {argsL rest : List Value} (hlen : ∀ sig, parseMethodDescriptor y.desc = some sig → argsL.length = sig.parameters.length)
    (hstack : g.stack = argsL.reverse ++ rest) (hW : 2 * g.monitorRoom + (rest.map fun v => v.category).sum ≤ W9) (hdg : decode c.code g.pc = .ok (.invokestatic index, 3))
    (hpre : ∀ vm₁, s.WarmedH vm₁ → Pre ⟨T.setVm vm₁, locs, cells, slots⟩ argsL.toArray) :
    (∃ (v : Option Value) (vm₁ : Vm) (B : Pt), s.WarmedH vm₁ ∧ Stand p l e R s m args below meth c B.U B.locs B.cells B.slots ∧ Post ⟨T.setVm vm₁, locs, cells, slots⟩ argsL.toArray v B ∧
      ∀ target, Steps p.tables e below (B.U.setTop { g with pc := g.pc + 3, stack := v.toList ++ rest }) target → Steps p.tables e below (T.setTop g) target) ∨
    (∃ (q : Addr) (vm₁ : Vm) (B : Pt), s.WarmedH vm₁ ∧ Stand p l e R s m args below meth c B.U B.locs B.cells B.slots ∧ PostX ⟨T.setVm vm₁, locs, cells, slots⟩ argsL.toArray q B ∧
      Steps p.tables e below (T.setTop g) ((B.U.setTop { g with stack := rest }).pushFrame (.throwing q))) := by
  obtain ⟨mk, methM, cM, hnamed, hmethM, -, -, -, -, -, -, hsigM⟩ := Cond.codeWith_spec hcode
  have hstatic : methM.isStatic = true := Cond.static_spec hnamed hmethM hstat
  obtain ⟨kP, hkP, -⟩ := className_of_methodNamed hnamed
  have hinitP : kP.init = .initialized := Cond.initialized_spec (findClass_of_methodNamed hnamed) hkP hinit
  obtain ⟨vm₁, X₁, hstep₁⟩ := X.invokestatic hexec hown hlink hnamed hmethM hstatic hkP hinitP hy (g := g) hg (argsL := argsL) (rest := rest) (hlen _ hsigM) hstack hdg
  rcases hK m meth c ⟨T.setVm vm₁, locs, cells, slots⟩ { g with stack := rest } (.invokestatic index) mk argsL.toArray X₁ hg hsize hdg hW (X₁.named hnamed) (hpre vm₁ X₁.warmed) with ⟨v, B, X', hpost, hsteps⟩ | ⟨q, B, X', hpost, hsteps⟩
  · exact Or.inl ⟨v, vm₁, B, X₁.warmed, X', hpost, fun target h => hstep₁ _ fun acts => by rw [doInvoke_state]; exact hsteps.trans h⟩
  · exact Or.inr ⟨q, vm₁, B, X₁.warmed, X', hpost, hstep₁ _ fun acts => by rw [doInvoke_state]; exact hsteps⟩
theorem vx_callVW (X : Stand p l e R s m args below meth c T locs cells slots) (hexec : p.tables.exec = Jvm.exec) {own C : String} {index : Nat} {y : MethodName} {bytes : ByteArray} {maxL : Nat} {ret : Option FieldType} {hh : List (Nat × Nat × Nat × Nat)}
    (hown : s.vm.findClass own = some m.cls) (hlink : (Cond.methodLink own index y).before args s = true) (hinst : (Cond.instanceMethod y).before args s = true) (hsel : (Cond.selects C y y).before args s = true)
    (hcode : (Cond.codeWith y bytes maxL ret hh).before args s = true) (hy : y.cls ≠ "java/lang/invoke/MethodHandle" ∧ y.cls ≠ "java/lang/invoke/VarHandle")
    {W9 : Nat} {Pre : Pt → Array Value → Prop} {Post : Pt → Array Value → Option Value → Pt → Prop} (hK : Back l R p e below s args y 3 W9 Pre Post)
    {b : Addr} {cellB : Cell} (hcell : T.heap[b]? = some cellB) (hobj : cellB.vm.isStatics = false) (hcls : s.vm.findClass C = some cellB.cls)
    {g : JFrame} (hg : g.method = m) (hsize : g.locals.size = c.maxLocals) {argsL rest : List Value} (hlen : ∀ sig, parseMethodDescriptor y.desc = some sig → argsL.length = sig.parameters.length)
    (hstack : g.stack = argsL.reverse ++ .ref b :: rest) (hW : 2 * g.monitorRoom + (rest.map fun v => v.category).sum ≤ W9) (hdg : decode c.code g.pc = .ok (.invokevirtual index, 3))
    (hpre : ∀ vm₁, s.WarmedH vm₁ → Pre ⟨T.setVm vm₁, locs, cells, slots⟩ (Value.ref b :: argsL).toArray) :
    ∃ (v : Option Value) (vm₁ : Vm) (B : Pt), s.WarmedH vm₁ ∧ Stand p l e R s m args below meth c B.U B.locs B.cells B.slots ∧ Post ⟨T.setVm vm₁, locs, cells, slots⟩ (Value.ref b :: argsL).toArray v B ∧
      ∀ target, Steps p.tables e below (B.U.setTop { g with pc := g.pc + 3, stack := v.toList ++ rest }) target → Steps p.tables e below (T.setTop g) target := by
  obtain ⟨mk, methM, hnamed, hmethM, hstM, habM⟩ := Cond.instanceMethod_spec hinst
  obtain ⟨m8, methM', cM, hn8, hmethM', -, -, -, -, -, -, hsigM⟩ := Cond.codeWith_spec hcode
  cases Option.some.inj (hn8.symm.trans hnamed)
  cases hmethM.symm.trans hmethM'
  obtain ⟨c2, r2, m2, q1, q2, q3, q4, kP, hkP, hkPi⟩ := Cond.selects_spec hsel
  cases hcls.symm.trans q1
  cases (State.methodFound?_of_named hnamed hy).symm.trans q2
  cases hnamed.symm.trans q3
  have hselP : selectMethod e.platform s.vm cellB.cls mk = .method mk := by rw [Launch.admits_selectMethod X.admits]; exact q4
  obtain ⟨vm₁, X₁, hstep₁⟩ := X.invokevirtual hexec hown hlink hnamed hmethM hstM hkP hkPi hy (a := b) (cell := cellB) hcell
    (fun z h => by rw [h] at hobj; cases hobj) hselP hmethM habM hkP hkPi (g := g) hg (argsL := argsL) (rest := rest) (hlen _ hsigM) hstack hdg
  obtain ⟨v, B, X', hpost, hsteps⟩ := hK m meth c ⟨T.setVm vm₁, locs, cells, slots⟩ { g with stack := rest } (.invokevirtual index) mk (Value.ref b :: argsL).toArray X₁ hg hsize hdg hW (X₁.named hnamed) (hpre vm₁ X₁.warmed)
  exact ⟨v, vm₁, B, X₁.warmed, X', hpost, fun target h => hstep₁ _ fun acts => by rw [doInvoke_state]; exact hsteps.trans h⟩
abbrev vx_CVW (R : Room) (s : State) (args : Array Value) (own C : String) (index : Nat) (y : MethodName) (bytes : ByteArray) (maxL : Nat) (ret : Option FieldType) (hh : List (Nat × Nat × Nat × Nat)) (ws : List Cond) (rm : Room) (mc ms n : Nat) : Prop :=
  (rm.cells = mc ∧ rm.slots = ms ∧ rm.frames + 1 ≤ R.frames ∧ 8 + (maxL + 11) + rm.locals ≤ R.locals ∧ (∀ w ∈ ws, ∀ (a' : Array Value) (U : State), s.WarmedH U.vm → w.before a' U = true) ∧ Cond.codeWith y bytes maxL ret hh ∈ ws) ∧
  (Cond.codeWith y bytes maxL ret hh).before args s = true ∧ (Cond.initialized y.cls).before args s = true ∧ (y.cls ≠ "java/lang/invoke/MethodHandle" ∧ y.cls ≠ "java/lang/invoke/VarHandle") ∧
  (∀ sig, parseMethodDescriptor y.desc = some sig → n = sig.parameters.length) ∧ (Cond.methodLink own index y).before args s = true ∧ (Cond.instanceMethod y).before args s = true ∧ (Cond.selects C y y).before args s = true
theorem vx_cwVW {own C : String} {index maxL mc ms : Nat} {y : MethodName} {bytes : ByteArray} {ret : Option FieldType} {hh : List (Nat × Nat × Nat × Nat)} {Ts ws ws' : List Cond} {rm : Room} (n : Nat) (ht : ∀ w ∈ Ts, w.before args s = true) (hT : GoodIn Ts (wsV own index C y ws)) (hw : ws = Cond.codeWith y bytes maxL ret hh :: ws') (hrc : rm.cells = mc) (hrs : rm.slots = ms)
    (hd : y.cls = C ∧ y.cls ≠ "java/lang/invoke/MethodHandle" ∧ y.cls ≠ "java/lang/invoke/VarHandle" ∧ (parseMethodDescriptor y.desc).map (fun d => d.parameters.length) = some n) (hR : rm.frames + 1 ≤ R.frames ∧ 8 + (maxL + 11) + rm.locals ≤ R.locals) :
    vx_CVW R s args own C index y bytes maxL ret hh ws rm mc ms n := by
  obtain ⟨hC, hd⟩ := hd
  subst hC
  have ok : ∀ w ∈ wsV own index y.cls y ws, w.before args s = true := fun w h => ht w (hT w h).1
  have hG : GoodIn Ts ws := fun w h => hT w (by unfold wsV; exact List.mem_append_right _ h)
  have hc : Cond.codeWith y bytes maxL ret hh ∈ ws := by rw [hw]; exact List.mem_cons_self
  refine ⟨⟨hrc, hrs, hR.1, hR.2, pay_in ht hG, hc⟩, ht _ (hG _ hc).1, ok _ (by simp [wsV]), ⟨hd.1, hd.2.1⟩, fun sig h => ?_, ok _ (by simp [wsV]), ok _ (by simp [wsV]), ok _ (by simp [wsV])⟩
  have h2 := hd.2.2
  rw [h] at h2
  exact (Option.some.inj h2).symm
theorem vx_runVW {y : MethodName} {bytes cc : ByteArray} {maxL nL mc ms n index : Nat} {ret : Option FieldType} {hh : List (Nat × Nat × Nat × Nat)} {ws : List Cond} {rm : Room} {Pc : Array Value → State → Prop} {Qc : Array Value → State → Outcome → State → Prop} {free : Addr → Prop} {Ts : List Cond} {own C : String} {b : Addr} {As rest : List Value} {g : JFrame}
    (S : CallFix p m c cc nL s args Ts own) (hM : Met l y ws rm Pc Qc mc ms free) (cw : vx_CVW R s args own C index y bytes maxL ret hh ws rm mc ms n) (hp : PreV s H C b Pc As)
    (hg : g.method = m) (hn : As.length = n) (hsize : g.locals.size = nL) (hstack : g.stack = As.reverse ++ .ref b :: rest) (hW : 2 * g.monitorRoom + (rest.map fun v => v.category).sum ≤ 8) (hdg : decode cc g.pc = .ok (.invokevirtual index, 3)) (hf : cells + mc ≤ R.cells ∧ slots + ms ≤ R.slots) :
    va_Run p l e R s m args below meth c H locs cells slots mc ms g rest (Qc (Value.ref b :: As).toArray) free := by
  obtain ⟨⟨hrc, hrs, hfr, hlo, hws, hcw⟩, hcode, hini, hy, hlen, hl, hin, hse⟩ := cw
  have hK : Back l R p e below s args y 3 8 (PreOf R mc ms Pc) (PostOf Qc mc ms free) := va_backW (hh := hh) (bytes := bytes) (maxL := maxL) (ret := ret) hM hp.1 hrc hrs hfr hlo hws hcw (fun a' U hW => word_at hW (Or.inl (by first | rfl | simp [Cond.onTables, Cond.keeps, Cond.steady])) hini)
  obtain ⟨hx, hb, hml, ho, -⟩ := S
  obtain ⟨-, ⟨cellB, hcB, hoB, hclB⟩, hPc⟩ := hp
  intro T hT X
  obtain ⟨v, vm₁, ⟨U', l2, c2, s2⟩, hW₁, X', ⟨g', mk, t, L, e1, e2, hq, h1, hL, h2, h3⟩, st⟩ := vx_callVW X hx (C := C) (hh := hh) (bytes := bytes) (maxL := maxL) (ret := ret) ho hl hin hse hcode hy hK (by rw [hT]; exact hcB) hoB hclB hg (hsize.trans hml.symm) (argsL := As) (rest := rest) (fun sig h => hn.trans (hlen sig h)) hstack hW (by rw [hb]; exact hdg)
    (fun vm₁ hW₁ => ⟨hf.1, hf.2, hPc (T.setVm vm₁) hT hW₁⟩)
  dsimp only [Pt.U, Pt.locs, Pt.cells, Pt.slots] at X' e1 e2 h1 h2 h3 st
  subst h1; subst h2; subst h3
  exact ⟨v, (T.setVm vm₁).calling g' mk (Value.ref b :: As).toArray, t, U', L, hT, X', hL, e1, e2, hq, st⟩
section
variable {y : MethodName} {bytes cc : ByteArray} {maxL nL mc ms n index : Nat} {ret : Option FieldType} {ws : List Cond} {rm : Room} {Pc : Array Value → State → Prop} {Qc : Array Value → State → Outcome → State → Prop} {XC : String → State → State → Prop} {free : Addr → Prop} {Ts : List Cond} {own C : String} {b : Addr} {As rest : List Value} {g : JFrame}
theorem vx_runVX {hh : List (Nat × Nat × Nat × Nat)} (S : CallFix p m c cc nL s args Ts own) (hM : vx_Met l y ws rm Pc Qc XC mc ms free) (cw : vx_CVW R s args own C index y bytes maxL ret hh ws rm mc ms n) (hp : PreV s H C b Pc As)
    (hg : g.method = m) (hn : As.length = n) (hsize : g.locals.size = nL) (hstack : g.stack = As.reverse ++ .ref b :: rest) (hW : 2 * g.monitorRoom + (rest.map fun v => v.category).sum ≤ 8) (hdg : decode cc g.pc = .ok (.invokevirtual index, 3)) (hf : cells + mc ≤ R.cells ∧ slots + ms ≤ R.slots) :
    vx_Run p l e R s m args below meth c H locs cells slots mc ms g rest (Qc (Value.ref b :: As).toArray) XC free := by
  obtain ⟨⟨hrc, hrs, hfr, hlo, hws, hcw⟩, hcode, hini, hy, hlen, hl, hin, hse⟩ := cw
  have hK : vx_Back l R p e below s args y 3 8 (PreOf R mc ms Pc) (PostOf Qc mc ms free) (vx_Post XC mc ms free) := vx_backW (hh := hh) (bytes := bytes) (maxL := maxL) (ret := ret) hM hp.1 hrc hrs hfr hlo hws hcw (fun a' U hW => word_at hW (Or.inl (by first | rfl | simp [Cond.onTables, Cond.keeps, Cond.steady])) hini)
  obtain ⟨hx, hb, hml, ho, -⟩ := S
  obtain ⟨-, ⟨cellB, hcB, hoB, hclB⟩, hPc⟩ := hp
  intro T hT X
  rcases vx_callVX X hx (C := C) (hh := hh) (bytes := bytes) (maxL := maxL) (ret := ret) ho hl hin hse hcode hy hK (by rw [hT]; exact hcB) hoB hclB hg (hsize.trans hml.symm) (argsL := As) (rest := rest) (fun sig h => hn.trans (hlen sig h)) hstack hW (by rw [hb]; exact hdg)
    (fun vm₁ hW₁ => ⟨hf.1, hf.2, hPc (T.setVm vm₁) hT hW₁⟩) with ⟨v, vm₁, ⟨U', l2, c2, s2⟩, hW₁, X', ⟨g', mk, t, L, e1, e2, hq, h1, hL, h2, h3⟩, st⟩ | ⟨q, vm₁, ⟨U', l2, c2, s2⟩, hW₁, X', ⟨g', mk, t, L, E, ce, e1, e2, hq, hce, hcv, hcl, h1, hL, h2, h3⟩, st⟩
  · dsimp only [Pt.U, Pt.locs, Pt.cells, Pt.slots] at X' e1 e2 h1 h2 h3 st
    subst h1; subst h2; subst h3
    exact Or.inl ⟨v, (T.setVm vm₁).calling g' mk (Value.ref b :: As).toArray, t, U', L, hT, X', hL, e1, e2, hq, st⟩
  · dsimp only [Pt.U, Pt.locs, Pt.cells, Pt.slots] at X' e1 e2 h1 h2 h3 st hcl
    subst h1; subst h2; subst h3
    exact Or.inr ⟨q, (T.setVm vm₁).calling g' mk (Value.ref b :: As).toArray, t, U', L, E, ce, hT, X', hL, e1, e2, hq, hce, hcv, vx_cls hW₁ hcl, st⟩
theorem vx_runSX {hh : List (Nat × Nat × Nat × Nat)} (S : CallFix p m c cc nL s args Ts own) (hM : vx_Met l y ws rm Pc Qc XC mc ms free) (cw : vx_CSW R s args own index y bytes maxL ret hh ws rm mc ms n) (hp : PreS s H Pc As)
    (hg : g.method = m) (hn : As.length = n) (hsize : g.locals.size = nL) (hstack : g.stack = As.reverse ++ rest) (hW : 2 * g.monitorRoom + (rest.map fun v => v.category).sum ≤ 8) (hdg : decode cc g.pc = .ok (.invokestatic index, 3)) (hf : cells + mc ≤ R.cells ∧ slots + ms ≤ R.slots) :
    vx_Run p l e R s m args below meth c H locs cells slots mc ms g rest (Qc As.toArray) XC free := by
  obtain ⟨⟨hrc, hrs, hfr, hlo, hws, hcw⟩, hcode, hini, hy, hlen, hl, hstt⟩ := cw
  have hK : vx_Back l R p e below s args y 3 8 (PreOf R mc ms Pc) (PostOf Qc mc ms free) (vx_Post XC mc ms free) := vx_backW (hh := hh) (bytes := bytes) (maxL := maxL) (ret := ret) hM hp.1 hrc hrs hfr hlo hws hcw (fun a' U hW => word_at hW (Or.inl (by first | rfl | simp [Cond.onTables, Cond.keeps, Cond.steady])) hini)
  obtain ⟨hx, hb, hml, ho, -⟩ := S
  intro T hT X
  rcases vx_callSX X hx (hh := hh) (bytes := bytes) (maxL := maxL) (ret := ret) ho hl hstt hini hcode hy hK hg (hsize.trans hml.symm) (argsL := As) (rest := rest) (fun sig h => hn.trans (hlen sig h)) hstack hW (by rw [hb]; exact hdg)
    (fun vm₁ hW₁ => ⟨hf.1, hf.2, hp.2 (T.setVm vm₁) hT hW₁⟩) with ⟨v, vm₁, ⟨U', l2, c2, s2⟩, hW₁, X', ⟨g', mk, t, L, e1, e2, hq, h1, hL, h2, h3⟩, st⟩ | ⟨q, vm₁, ⟨U', l2, c2, s2⟩, hW₁, X', ⟨g', mk, t, L, E, ce, e1, e2, hq, hce, hcv, hcl, h1, hL, h2, h3⟩, st⟩
  · dsimp only [Pt.U, Pt.locs, Pt.cells, Pt.slots] at X' e1 e2 h1 h2 h3 st
    subst h1; subst h2; subst h3
    exact Or.inl ⟨v, (T.setVm vm₁).calling g' mk As.toArray, t, U', L, hT, X', hL, e1, e2, hq, st⟩
  · dsimp only [Pt.U, Pt.locs, Pt.cells, Pt.slots] at X' e1 e2 h1 h2 h3 st hcl
    subst h1; subst h2; subst h3
    exact Or.inr ⟨q, (T.setVm vm₁).calling g' mk As.toArray, t, U', L, E, ce, hT, X', hL, e1, e2, hq, hce, hcv, vx_cls hW₁ hcl, st⟩
end
end VXH
theorem vx_ofWH {l : Launch} {y : MethodName} {ws ws' : List Cond} {rm : Room} {Pc : Array Value → State → Prop} {Qc : Array Value → State → Outcome → State → Prop} {XC : String → State → State → Prop} {mc ms : Nat} {free : Addr → Prop} {cc : ByteArray} {maxL : Nat} {ret : Option FieldType} {hh : List (Nat × Nat × Nat × Nat)}
    (hy : plainName y.cls = true) (hw : ws = Cond.codeWith y cc maxL ret hh :: ws')
    (body : ∀ p e s m args below meth c s₁, BodyLoose p l y (headSpec ws rm) cc maxL ret e s m args below meth c s₁ → c.maxLocals = maxL → Pc args s →
      W p l e (headSpec ws rm).room s m args below meth c s.heap [] 0 0 (vx_MQ below Qc XC args s mc ms free) (entryFrame m args maxL)) : vx_Met l y ws rm Pc Qc XC mc ms free := by
  refine MetFree.of_bodyS (code := cc) (maxLocals := maxL) (ret := ret) hy ?_ ?_
  · intro args s m h hn
    obtain ⟨m9, meth, c, hn9, h1, h2, h3, h4, -, h5, h6, -⟩ := Cond.codeWith_spec (atoms_spec (ws := ws) h _ (by rw [hw]; exact List.mem_cons_self))
    cases hn.symm.trans hn9
    exact ⟨meth, c, h1, h2, h3, h4, h5, h6⟩
  · intro p e s m args below meth c s₁ B hml hP _
    have hh0 : s₁.heap = s.heap := by rw [B.state]; rfl
    obtain ⟨t, a1, o, b1, b2, b3⟩ := body p e s m args below meth c s₁ B hml hP s₁ hh0 (Stand.of_body B)
    exact ⟨t, o, a1, b1, b2, b3⟩
/-! ===== END ===== -/
end
section
/-! ===== BEGIN printed: names, fields, word lists, decode rows ===== -/
def RX0 : String := "SorterSteps$Item"
def TX0 : u_T := fun k => match k with
  | 0 => ("SorterSteps$Item", "number", "I", true)
  | 1 => ("SorterSteps$Item", "length", "I", true)
  | 2 => ("SorterSteps$Item", "state", "I", false)
  | 3 => ("SorterSteps$Item", "code", "I", false)
  | 4 => ("SorterSteps$Item", "rounds", "I", false)
  | 5 => ("SorterSteps$Item", "tray", "I", false)
  | 6 => ("SorterSteps$Item", "retries", "I", false)
  | 7 => ("SorterSteps$Item", "codeAfterRetries", "I", false)
  | 8 => ("SorterSteps$Item", "doubted", "Z", false)
  | 9 => ("SorterSteps$Item", "found", "Z", false)
  | 10 => ("SorterSteps$Item", "leftTo", "I", false)
  | _ => ("SorterSteps$Item", "leftAtStep", "I", false)
def tyX0 : Nat → FieldType := fun k => match k with
  | 0 => .int
  | 1 => .int
  | 2 => .int
  | 3 => .int
  | 4 => .int
  | 5 => .int
  | 6 => .int
  | 7 => .int
  | 8 => .boolean
  | 9 => .boolean
  | 10 => .int
  | _ => .int
abbrev wsX00 : List Cond := u_ws RX0 TX0 12
theorem nmX0 : ∀ a, a < 12 → ∀ b, b < 12 → a ≠ b → (TX0 a).2.1 ≠ (TX0 b).2.1 := by decide +kernel
theorem tyX0_ok : ∀ k, k < 12 → parseFieldDescriptor (TX0 k).2.2.1 = some (tyX0 k) := by decide +kernel
abbrev cX0_init : ByteArray := prog_2_method_1_code
def yX0_init : MethodName := ⟨RX0, "<init>", "(II)V"⟩
def RX1 : String := "SorterSteps$ItemRow"
def TX1 : u_T := fun k => match k with
  | 0 => ("SorterSteps$ItemRow", "places", "[LSorterSteps$Item;", true)
  | _ => ("SorterSteps$ItemRow", "size", "I", false)
def tyX1 : Nat → FieldType := fun k => match k with
  | 0 => .array (.object "SorterSteps$Item")
  | _ => .int
abbrev wsX10 : List Cond := u_ws RX1 TX1 2
theorem nmX1 : ∀ a, a < 2 → ∀ b, b < 2 → a ≠ b → (TX1 a).2.1 ≠ (TX1 b).2.1 := by decide +kernel
theorem tyX1_ok : ∀ k, k < 2 → parseFieldDescriptor (TX1 k).2.2.1 = some (tyX1 k) := by decide +kernel
abbrev cX1_init : ByteArray := prog_3_method_1_code
def yX1_init : MethodName := ⟨RX1, "<init>", "(I)V"⟩
abbrev cX1_size : ByteArray := prog_3_method_2_code
def yX1_size : MethodName := ⟨RX1, "size", "()I"⟩
abbrev cX1_isFilled : ByteArray := prog_3_method_3_code
def yX1_isFilled : MethodName := ⟨RX1, "isFilled", "()Z"⟩
abbrev cX1_add : ByteArray := prog_3_method_4_code
def yX1_add : MethodName := ⟨RX1, "add", "(LSorterSteps$Item;)V"⟩
abbrev cX1_at : ByteArray := prog_3_method_5_code
def yX1_at : MethodName := ⟨RX1, "at", "(I)LSorterSteps$Item;"⟩
abbrev cX1_clear : ByteArray := prog_3_method_6_code
def yX1_clear : MethodName := ⟨RX1, "clear", "()V"⟩
def RX2 : String := "SorterSteps"
def TX2 : u_T := fun k => match k with
  | 0 => ("SorterSteps", "onTrays", "[LSorterSteps$Item;", true)
  | 1 => ("SorterSteps", "fullChutes", "[Z", true)
  | 2 => ("SorterSteps", "items", "LSorterSteps$ItemRow;", true)
  | 3 => ("SorterSteps", "left", "LSorterSteps$ItemRow;", true)
  | 4 => ("SorterSteps", "doubted", "LSorterSteps$ItemRow;", true)
  | 5 => ("SorterSteps", "allowedRounds", "I", true)
  | 6 => ("SorterSteps", "trayLength", "I", false)
  | 7 => ("SorterSteps", "steps", "I", false)
  | 8 => ("SorterSteps", "positionOfFirstTray", "I", false)
  | _ => ("SorterSteps", "jammed", "Z", false)
def tyX2 : Nat → FieldType := fun k => match k with
  | 0 => .array (.object "SorterSteps$Item")
  | 1 => .array .boolean
  | 2 => .object "SorterSteps$ItemRow"
  | 3 => .object "SorterSteps$ItemRow"
  | 4 => .object "SorterSteps$ItemRow"
  | 5 => .int
  | 6 => .int
  | 7 => .int
  | 8 => .int
  | _ => .boolean
abbrev wsX20 : List Cond := u_ws RX2 TX2 10
theorem nmX2 : ∀ a, a < 10 → ∀ b, b < 10 → a ≠ b → (TX2 a).2.1 ≠ (TX2 b).2.1 := by decide +kernel
theorem tyX2_ok : ∀ k, k < 10 → parseFieldDescriptor (TX2 k).2.2.1 = some (tyX2 k) := by decide +kernel
abbrev cX2_init : ByteArray := prog_1_method_1_code
def yX2_init : MethodName := ⟨RX2, "<init>", "(II)V"⟩
abbrev cX2_item : ByteArray := prog_1_method_2_code
def yX2_item : MethodName := ⟨RX2, "item", "(I)I"⟩
abbrev cX2_induct : ByteArray := prog_1_method_3_code
def yX2_induct : MethodName := ⟨RX2, "induct", "(III)I"⟩
abbrev cX2_length : ByteArray := prog_1_method_4_code
def yX2_length : MethodName := ⟨RX2, "length", "(I)I"⟩
abbrev cX2_retry : ByteArray := prog_1_method_5_code
def yX2_retry : MethodName := ⟨RX2, "retry", "(III)V"⟩
abbrev cX2_step : ByteArray := prog_1_method_6_code
def yX2_step : MethodName := ⟨RX2, "step", "(I)I"⟩
abbrev cX2_out : ByteArray := prog_1_method_7_code
def yX2_out : MethodName := ⟨RX2, "out", "(II)I"⟩
abbrev cX2_chute : ByteArray := prog_1_method_8_code
def yX2_chute : MethodName := ⟨RX2, "chute", "(IZ)Z"⟩
abbrev cX2_jam : ByteArray := prog_1_method_9_code
def yX2_jam : MethodName := ⟨RX2, "jam", "(II)I"⟩
abbrev cX2_doubt : ByteArray := prog_1_method_10_code
def yX2_doubt : MethodName := ⟨RX2, "doubt", "(I)I"⟩
abbrev cX2_found : ByteArray := prog_1_method_11_code
def yX2_found : MethodName := ⟨RX2, "found", "(IZ)I"⟩
abbrev cX2_retrack : ByteArray := prog_1_method_12_code
def yX2_retrack : MethodName := ⟨RX2, "retrack", "()I"⟩
abbrev cX2_manual : ByteArray := prog_1_method_13_code
def yX2_manual : MethodName := ⟨RX2, "manual", "(II)Z"⟩
abbrev cX2_tray : ByteArray := prog_1_method_14_code
def yX2_tray : MethodName := ⟨RX2, "tray", "(I)I"⟩
abbrev cX2_told : ByteArray := prog_1_method_15_code
def yX2_told : MethodName := ⟨RX2, "told", "(II)I"⟩
abbrev cX2_count : ByteArray := prog_1_method_16_code
def yX2_count : MethodName := ⟨RX2, "count", "(I)I"⟩
abbrev cX2_itemNumbered : ByteArray := prog_1_method_17_code
def yX2_itemNumbered : MethodName := ⟨RX2, "itemNumbered", "(I)LSorterSteps$Item;"⟩
abbrev cX2_requireLength : ByteArray := prog_1_method_18_code
def yX2_requireLength : MethodName := ⟨RX2, "requireLength", "(I)V"⟩
abbrev cX2_requireChute : ByteArray := prog_1_method_19_code
def yX2_requireChute : MethodName := ⟨RX2, "requireChute", "(I)V"⟩
abbrev cX2_requireCode : ByteArray := prog_1_method_20_code
def yX2_requireCode : MethodName := ⟨RX2, "requireCode", "(I)V"⟩
abbrev cX2_requireNotJammed : ByteArray := prog_1_method_21_code
def yX2_requireNotJammed : MethodName := ⟨RX2, "requireNotJammed", "()V"⟩
abbrev cX2_requireFit : ByteArray := prog_1_method_22_code
def yX2_requireFit : MethodName := ⟨RX2, "requireFit", "(LSorterSteps$Item;)V"⟩
abbrev cX2_isChute : ByteArray := prog_1_method_23_code
def yX2_isChute : MethodName := ⟨RX2, "isChute", "(I)Z"⟩
abbrev cX2_isFull : ByteArray := prog_1_method_24_code
def yX2_isFull : MethodName := ⟨RX2, "isFull", "(I)Z"⟩
abbrev cX2_setFull : ByteArray := prog_1_method_25_code
def yX2_setFull : MethodName := ⟨RX2, "setFull", "(IZ)V"⟩
abbrev cX2_isInLoop : ByteArray := prog_1_method_26_code
def yX2_isInLoop : MethodName := ⟨RX2, "isInLoop", "(I)Z"⟩
abbrev cX2_intoLoop : ByteArray := prog_1_method_27_code
def yX2_intoLoop : MethodName := ⟨RX2, "intoLoop", "(I)I"⟩
abbrev cX2_trayAt : ByteArray := prog_1_method_28_code
def yX2_trayAt : MethodName := ⟨RX2, "trayAt", "(I)I"⟩
abbrev cX2_itemAt : ByteArray := prog_1_method_29_code
def yX2_itemAt : MethodName := ⟨RX2, "itemAt", "(I)LSorterSteps$Item;"⟩
abbrev cX2_positionOf : ByteArray := prog_1_method_30_code
def yX2_positionOf : MethodName := ⟨RX2, "positionOf", "(LSorterSteps$Item;)I"⟩
abbrev cX2_putOnTray : ByteArray := prog_1_method_31_code
def yX2_putOnTray : MethodName := ⟨RX2, "putOnTray", "(LSorterSteps$Item;I)V"⟩
abbrev cX2_takeOffTray : ByteArray := prog_1_method_32_code
def yX2_takeOffTray : MethodName := ⟨RX2, "takeOffTray", "(LSorterSteps$Item;II)V"⟩
abbrev cX2_makeOneStep : ByteArray := prog_1_method_33_code
def yX2_makeOneStep : MethodName := ⟨RX2, "makeOneStep", "()V"⟩
abbrev cX2_passChute : ByteArray := prog_1_method_34_code
def yX2_passChute : MethodName := ⟨RX2, "passChute", "(I)V"⟩
abbrev cX2_readAgainAtStart : ByteArray := prog_1_method_35_code
def yX2_readAgainAtStart : MethodName := ⟨RX2, "readAgainAtStart", "()V"⟩
abbrev cX2_doubtItemAt : ByteArray := prog_1_method_36_code
def yX2_doubtItemAt : MethodName := ⟨RX2, "doubtItemAt", "(I)V"⟩
abbrev cX2_endDoubt : ByteArray := prog_1_method_37_code
def yX2_endDoubt : MethodName := ⟨RX2, "endDoubt", "(LSorterSteps$Item;)V"⟩
abbrev cX2_countNotFound : ByteArray := prog_1_method_38_code
def yX2_countNotFound : MethodName := ⟨RX2, "countNotFound", "()I"⟩
abbrev cX2_countEmptyTrays : ByteArray := prog_1_method_39_code
def yX2_countEmptyTrays : MethodName := ⟨RX2, "countEmptyTrays", "()I"⟩
abbrev cX2_countOut : ByteArray := prog_1_method_40_code
def yX2_countOut : MethodName := ⟨RX2, "countOut", "()I"⟩
def RX3 : String := "SorterStepsModel"
def TX3 : u_T := fun k => match k with
  | 0 => ("SorterStepsModel", "code", "I", false)
  | 1 => ("SorterStepsModel", "trays", "I", true)
  | 2 => ("SorterStepsModel", "most", "I", true)
  | 3 => ("SorterStepsModel", "steps", "I", false)
  | 4 => ("SorterStepsModel", "longest", "I", false)
  | 5 => ("SorterStepsModel", "on", "[I", true)
  | 6 => ("SorterStepsModel", "full", "[Z", true)
  | 7 => ("SorterStepsModel", "items", "I", false)
  | 8 => ("SorterStepsModel", "length", "[I", true)
  | 9 => ("SorterStepsModel", "state", "[I", true)
  | 10 => ("SorterStepsModel", "way", "[I", true)
  | 11 => ("SorterStepsModel", "rounds", "[I", true)
  | 12 => ("SorterStepsModel", "retries", "[I", true)
  | 13 => ("SorterStepsModel", "later", "[I", true)
  | 14 => ("SorterStepsModel", "left", "I", false)
  | 15 => ("SorterStepsModel", "leftItem", "[I", true)
  | 16 => ("SorterStepsModel", "leftChute", "[I", true)
  | 17 => ("SorterStepsModel", "leftStep", "[I", true)
  | 18 => ("SorterStepsModel", "leftRounds", "[I", true)
  | 19 => ("SorterStepsModel", "jammed", "Z", false)
  | 20 => ("SorterStepsModel", "doubts", "I", false)
  | 21 => ("SorterStepsModel", "doubted", "[I", true)
  | _ => ("SorterStepsModel", "isFound", "[Z", true)
def tyX3 : Nat → FieldType := fun k => match k with
  | 0 => .int
  | 1 => .int
  | 2 => .int
  | 3 => .int
  | 4 => .int
  | 5 => .array .int
  | 6 => .array .boolean
  | 7 => .int
  | 8 => .array .int
  | 9 => .array .int
  | 10 => .array .int
  | 11 => .array .int
  | 12 => .array .int
  | 13 => .array .int
  | 14 => .int
  | 15 => .array .int
  | 16 => .array .int
  | 17 => .array .int
  | 18 => .array .int
  | 19 => .boolean
  | 20 => .int
  | 21 => .array .int
  | _ => .array .boolean
abbrev wsX30 : List Cond := u_ws RX3 TX3 23
theorem nmX3 : ∀ a, a < 23 → ∀ b, b < 23 → a ≠ b → (TX3 a).2.1 ≠ (TX3 b).2.1 := by decide +kernel
theorem tyX3_ok : ∀ k, k < 23 → parseFieldDescriptor (TX3 k).2.2.1 = some (tyX3 k) := by decide +kernel
abbrev cX3_init : ByteArray := prog_5_method_1_code
def yX3_init : MethodName := ⟨RX3, "<init>", "(II)V"⟩
abbrev cX3_thrown : ByteArray := prog_5_method_2_code
def yX3_thrown : MethodName := ⟨RX3, "thrown", "()I"⟩
abbrev cX3_in : ByteArray := prog_5_method_3_code
def yX3_in : MethodName := ⟨RX3, "in", "(III)Z"⟩
abbrev cX3_isItem : ByteArray := prog_5_method_4_code
def yX3_isItem : MethodName := ⟨RX3, "isItem", "(I)Z"⟩
abbrev cX3_chutes : ByteArray := prog_5_method_5_code
def yX3_chutes : MethodName := ⟨RX3, "chutes", "()I"⟩
abbrev cX3_isChute : ByteArray := prog_5_method_6_code
def yX3_isChute : MethodName := ⟨RX3, "isChute", "(I)Z"⟩
abbrev cX3_isCode : ByteArray := prog_5_method_7_code
def yX3_isCode : MethodName := ⟨RX3, "isCode", "(I)Z"⟩
abbrev cX3_trayAt : ByteArray := prog_5_method_8_code
def yX3_trayAt : MethodName := ⟨RX3, "trayAt", "(I)I"⟩
abbrev cX3_trayOf : ByteArray := prog_5_method_9_code
def yX3_trayOf : MethodName := ⟨RX3, "trayOf", "(I)I"⟩
abbrev cX3_item : ByteArray := prog_5_method_10_code
def yX3_item : MethodName := ⟨RX3, "item", "(I)I"⟩
abbrev cX3_induct : ByteArray := prog_5_method_11_code
def yX3_induct : MethodName := ⟨RX3, "induct", "(III)I"⟩
abbrev cX3_length : ByteArray := prog_5_method_12_code
def yX3_length : MethodName := ⟨RX3, "length", "(I)I"⟩
abbrev cX3_retry : ByteArray := prog_5_method_13_code
def yX3_retry : MethodName := ⟨RX3, "retry", "(III)V"⟩
abbrev cX3_leave : ByteArray := prog_5_method_14_code
def yX3_leave : MethodName := ⟨RX3, "leave", "(III)V"⟩
abbrev cX3_atChute : ByteArray := prog_5_method_15_code
def yX3_atChute : MethodName := ⟨RX3, "atChute", "(I)V"⟩
abbrev cX3_atReader : ByteArray := prog_5_method_16_code
def yX3_atReader : MethodName := ⟨RX3, "atReader", "()V"⟩
abbrev cX3_step : ByteArray := prog_5_method_17_code
def yX3_step : MethodName := ⟨RX3, "step", "(I)I"⟩
abbrev cX3_out : ByteArray := prog_5_method_18_code
def yX3_out : MethodName := ⟨RX3, "out", "(II)I"⟩
abbrev cX3_chute : ByteArray := prog_5_method_19_code
def yX3_chute : MethodName := ⟨RX3, "chute", "(IZ)Z"⟩
abbrev cX3_jam : ByteArray := prog_5_method_20_code
def yX3_jam : MethodName := ⟨RX3, "jam", "(II)I"⟩
abbrev cX3_doubt : ByteArray := prog_5_method_21_code
def yX3_doubt : MethodName := ⟨RX3, "doubt", "(I)I"⟩
abbrev cX3_found : ByteArray := prog_5_method_22_code
def yX3_found : MethodName := ⟨RX3, "found", "(IZ)I"⟩
abbrev cX3_retrack : ByteArray := prog_5_method_23_code
def yX3_retrack : MethodName := ⟨RX3, "retrack", "()I"⟩
abbrev cX3_manual : ByteArray := prog_5_method_24_code
def yX3_manual : MethodName := ⟨RX3, "manual", "(II)Z"⟩
abbrev cX3_tray : ByteArray := prog_5_method_25_code
def yX3_tray : MethodName := ⟨RX3, "tray", "(I)I"⟩
abbrev cX3_told : ByteArray := prog_5_method_26_code
def yX3_told : MethodName := ⟨RX3, "told", "(II)I"⟩
abbrev cX3_count : ByteArray := prog_5_method_27_code
def yX3_count : MethodName := ⟨RX3, "count", "(I)I"⟩
def RJx00060 : String := "java/lang/ArrayIndexOutOfBoundsException"
def TJx00060 : u_T := fun k => match k with
  | 0 => ("java/lang/Throwable", "cause", "Ljava/lang/Throwable;", false)
  | 1 => ("java/lang/Throwable", "stackTrace", "[Ljava/lang/StackTraceElement;", false)
  | 2 => ("java/lang/Throwable", "suppressedExceptions", "Ljava/util/List;", false)
  | 3 => ("java/lang/Throwable", "detailMessage", "Ljava/lang/String;", false)
  | 4 => ("java/lang/Throwable", "backtrace", "Ljava/lang/Object;", false)
  | _ => ("java/lang/Throwable", "depth", "I", false)
def tyJx00060 : Nat → FieldType := fun k => match k with
  | 0 => .object "java/lang/Throwable"
  | 1 => .array (.object "java/lang/StackTraceElement")
  | 2 => .object "java/util/List"
  | 3 => .object "java/lang/String"
  | 4 => .object "java/lang/Object"
  | _ => .int
abbrev wsJx000600 : List Cond := u_ws RJx00060 TJx00060 6
theorem nmJx00060 : ∀ a, a < 6 → ∀ b, b < 6 → a ≠ b → (TJx00060 a).2.1 ≠ (TJx00060 b).2.1 := by decide +kernel
theorem tyJx00060_ok : ∀ k, k < 6 → parseFieldDescriptor (TJx00060 k).2.2.1 = some (tyJx00060 k) := by decide +kernel
abbrev cJx00060_init_a7421 : ByteArray := prog_6_method_2_code
def yJx00060_init_a7421 : MethodName := ⟨RJx00060, "<init>", "(Ljava/lang/String;)V"⟩
def RJ9 : String := "java/lang/Math"
def TJ9 : u_T := fun k => match k with
  | _ => ("", "", "", false)
def tyJ9 : Nat → FieldType := fun k => match k with
  | _ => .int
abbrev wsJ90 : List Cond := u_ws RJ9 TJ9 0
theorem nmJ9 : ∀ a, a < 0 → ∀ b, b < 0 → a ≠ b → (TJ9 a).2.1 ≠ (TJ9 b).2.1 := by decide +kernel
theorem tyJ9_ok : ∀ k, k < 0 → parseFieldDescriptor (TJ9 k).2.2.1 = some (tyJ9 k) := by decide +kernel
abbrev cJ9_max_7cf53 : ByteArray := prog_11_method_65_code
def yJ9_max_7cf53 : MethodName := ⟨RJ9, "max", "(II)I"⟩
abbrev cJ9_min_7cf53 : ByteArray := prog_11_method_69_code
def yJ9_min_7cf53 : MethodName := ⟨RJ9, "min", "(II)I"⟩
def RJ0 : String := "java/lang/String"
def TJ0 : u_T := fun k => match k with
  | _ => ("", "", "", false)
def tyJ0 : Nat → FieldType := fun k => match k with
  | _ => .int
abbrev wsJ00 : List Cond := u_ws RJ0 TJ0 0
theorem nmJ0 : ∀ a, a < 0 → ∀ b, b < 0 → a ≠ b → (TJ0 a).2.1 ≠ (TJ0 b).2.1 := by decide +kernel
theorem tyJ0_ok : ∀ k, k < 0 → parseFieldDescriptor (TJ0 k).2.2.1 = some (tyJ0 k) := by decide +kernel
def RL : String := "SorterStepsLaw"
abbrev cL_cell : ByteArray := method_2_code
def yL_cell : MethodName := ⟨RL, "cell", "([II)I"⟩
abbrev cL_item : ByteArray := method_3_code
def yL_item : MethodName := ⟨RL, "item", "(LSorterSteps;I[J)I"⟩
abbrev cL_induct : ByteArray := method_4_code
def yL_induct : MethodName := ⟨RL, "induct", "(LSorterSteps;III[J)I"⟩
abbrev cL_length : ByteArray := method_5_code
def yL_length : MethodName := ⟨RL, "length", "(LSorterSteps;I[J)I"⟩
abbrev cL_retry : ByteArray := method_6_code
def yL_retry : MethodName := ⟨RL, "retry", "(LSorterSteps;III)I"⟩
abbrev cL_step : ByteArray := method_7_code
def yL_step : MethodName := ⟨RL, "step", "(LSorterSteps;I[J)I"⟩
abbrev cL_out : ByteArray := method_8_code
def yL_out : MethodName := ⟨RL, "out", "(LSorterSteps;II[J)I"⟩
abbrev cL_chute : ByteArray := method_9_code
def yL_chute : MethodName := ⟨RL, "chute", "(LSorterSteps;IZ[J)I"⟩
abbrev cL_jam : ByteArray := method_10_code
def yL_jam : MethodName := ⟨RL, "jam", "(LSorterSteps;II[J)I"⟩
abbrev cL_found : ByteArray := method_11_code
def yL_found : MethodName := ⟨RL, "found", "(LSorterSteps;IZ[J)I"⟩
abbrev cL_retrack : ByteArray := method_12_code
def yL_retrack : MethodName := ⟨RL, "retrack", "(LSorterSteps;[J)I"⟩
abbrev cL_manual : ByteArray := method_13_code
def yL_manual : MethodName := ⟨RL, "manual", "(LSorterSteps;II[J)I"⟩
abbrev cL_tray : ByteArray := method_14_code
def yL_tray : MethodName := ⟨RL, "tray", "(LSorterSteps;I[J)I"⟩
abbrev cL_told : ByteArray := method_15_code
def yL_told : MethodName := ⟨RL, "told", "(LSorterSteps;II[J)I"⟩
abbrev cL_law : ByteArray := code
def yL_law : MethodName := ⟨RL, "law", "([I)Z"⟩
def wsX0_init : List Cond := .code yX0_init cX0_init 3 none :: ([.methodLink RX0 3 objectInit, .instanceMethod objectInit, .code objectInit ⟨#[0xb1]⟩ 1 none, .fieldLink RX0 9 "SorterSteps$Item" "state" "I", .fieldLink RX0 15 "SorterSteps$Item" "code" "I", .fieldLink RX0 18 "SorterSteps$Item" "tray" "I", .fieldLink RX0 21 "SorterSteps$Item" "number" "I", .fieldLink RX0 24 "SorterSteps$Item" "length" "I"] ++ wsX00)
def wsX1_init : List Cond := .code yX1_init cX1_init 2 none :: ([.methodLink RX1 1 objectInit, .instanceMethod objectInit, .code objectInit ⟨#[0xb1]⟩ 1 none, .methodLink RX1 7 Lib.Math.max.name, .static Lib.Math.max.name, .initialized "java/lang/Math", .code Lib.Math.max.name Lib.Math.max.code 2 (some .int), .classLink RX1 13 RX0, .fieldLink RX1 15 "SorterSteps$ItemRow" "places" "[LSorterSteps$Item;"] ++ wsX10)
def wsX1_size : List Cond := .code yX1_size cX1_size 1 (some .int) :: ([.fieldLink RX1 21 "SorterSteps$ItemRow" "size" "I"] ++ wsX10)
def wsX1_isFilled : List Cond := .code yX1_isFilled cX1_isFilled 1 (some .boolean) :: ([.fieldLink RX1 21 "SorterSteps$ItemRow" "size" "I", .fieldLink RX1 15 "SorterSteps$ItemRow" "places" "[LSorterSteps$Item;"] ++ wsX10)
def wsX1_add : List Cond := .code yX1_add cX1_add 2 none :: ([.fieldLink RX1 15 "SorterSteps$ItemRow" "places" "[LSorterSteps$Item;", .fieldLink RX1 21 "SorterSteps$ItemRow" "size" "I", .methodLink RX1 25 yX1_isFilled, .instanceMethod yX1_isFilled, .selects RX1 yX1_isFilled yX1_isFilled, .initialized RX1, .code yX1_isFilled cX1_isFilled 1 (some .boolean)] ++ wsX10)
def wsX1_at : List Cond := .code yX1_at cX1_at 2 (some (.object "SorterSteps$Item")) :: ([.fieldLink RX1 21 "SorterSteps$ItemRow" "size" "I", .fieldLink RX1 15 "SorterSteps$ItemRow" "places" "[LSorterSteps$Item;"] ++ wsX10)
def wsX1_clear : List Cond := .code yX1_clear cX1_clear 1 none :: ([.fieldLink RX1 21 "SorterSteps$ItemRow" "size" "I"] ++ wsX10)
def wsX2_init_r1 : List Cond := [Cond.methodLink RX2 1 objectInit, Cond.instanceMethod objectInit, Cond.code objectInit ⟨#[0xb1]⟩ 1 none, Cond.classLink RX2 7 RX1, Cond.instantiable RX1 2, Cond.initialized RX1, Cond.fieldLink RX2 14 "SorterSteps" "items" "LSorterSteps$ItemRow;", Cond.fieldLink RX2 18 "SorterSteps" "left" "LSorterSteps$ItemRow;", Cond.fieldLink RX2 21 "SorterSteps" "doubted" "LSorterSteps$ItemRow;", Cond.fieldLink RX2 24 "SorterSteps" "trayLength" "I", Cond.methodLink RX2 28 Lib.Math.max.name, Cond.static Lib.Math.max.name, Cond.initialized "java/lang/Math", Cond.code Lib.Math.max.name Lib.Math.max.code 2 (some .int), Cond.methodLink RX2 34 Lib.Math.min.name, Cond.static Lib.Math.min.name, Cond.code Lib.Math.min.name Lib.Math.min.code 2 (some .int), Cond.classLink RX2 37 RX0, Cond.fieldLink RX2 39 "SorterSteps" "onTrays" "[LSorterSteps$Item;", Cond.arrayClass .boolean, Cond.fieldLink RX2 43 "SorterSteps" "fullChutes" "[Z", Cond.fieldLink RX2 47 "SorterSteps" "allowedRounds" "I", Cond.methodLink RX2 11 yX1_init, Cond.instanceMethod yX1_init]
def wsX2_init_r2 : List Cond := [Cond.code yX1_init cX1_init 2 none, Cond.methodLink RX1 1 objectInit, Cond.methodLink RX1 7 Lib.Math.max.name, Cond.classLink RX1 13 RX0, Cond.fieldLink RX1 15 "SorterSteps$ItemRow" "places" "[LSorterSteps$Item;"]
def wsX2_init : List Cond := .code yX2_init cX2_init 5 none :: ((wsX2_init_r1 ++ wsX2_init_r2) ++ wsX10 ++ wsX20)
def wsX2_requireLength : List Cond := .code yX2_requireLength cX2_requireLength 2 none :: ([.classLink RX2 82 "java/lang/IllegalArgumentException", .initialized "java/lang/IllegalArgumentException"] ++ (vx_atS RX2 86 "java/lang/IllegalArgumentException" ["java/lang/RuntimeException", "java/lang/Exception"]).filter goodWord)
def wsX2_item_r1 : List Cond := [Cond.classLink RX2 57 "java/lang/UnsupportedOperationException", Cond.initialized "java/lang/UnsupportedOperationException", Cond.fieldLink RX2 14 "SorterSteps" "items" "LSorterSteps$ItemRow;", Cond.classLink RX2 37 RX0, Cond.instantiable RX0 12, Cond.initialized RX0, Cond.fieldLink RX2 75 "SorterSteps$Item" "number" "I", Cond.methodLink RX2 50 yX2_requireLength, Cond.instanceMethod yX2_requireLength, Cond.selects RX2 yX2_requireLength yX2_requireLength, Cond.initialized RX2, Cond.code yX2_requireLength cX2_requireLength 2 none, Cond.classLink RX2 82 "java/lang/IllegalArgumentException", Cond.initialized "java/lang/IllegalArgumentException", Cond.methodLink RX2 53 yX1_isFilled, Cond.instanceMethod yX1_isFilled, Cond.selects RX1 yX1_isFilled yX1_isFilled, Cond.initialized RX1, Cond.code yX1_isFilled cX1_isFilled 1 (some .boolean), Cond.fieldLink RX1 21 "SorterSteps$ItemRow" "size" "I", Cond.fieldLink RX1 15 "SorterSteps$ItemRow" "places" "[LSorterSteps$Item;", Cond.methodLink RX2 64 yX1_size, Cond.instanceMethod yX1_size, Cond.selects RX1 yX1_size yX1_size]
def wsX2_item_r2 : List Cond := [Cond.code yX1_size cX1_size 1 (some .int), Cond.methodLink RX2 68 yX0_init, Cond.instanceMethod yX0_init, Cond.code yX0_init cX0_init 3 none, Cond.methodLink RX0 3 objectInit, Cond.instanceMethod objectInit, Cond.code objectInit ⟨#[0xb1]⟩ 1 none, Cond.fieldLink RX0 9 "SorterSteps$Item" "state" "I", Cond.fieldLink RX0 15 "SorterSteps$Item" "code" "I", Cond.fieldLink RX0 18 "SorterSteps$Item" "tray" "I", Cond.fieldLink RX0 21 "SorterSteps$Item" "number" "I", Cond.fieldLink RX0 24 "SorterSteps$Item" "length" "I", Cond.methodLink RX2 71 yX1_add, Cond.instanceMethod yX1_add, Cond.selects RX1 yX1_add yX1_add, Cond.code yX1_add cX1_add 2 none, Cond.methodLink RX1 25 yX1_isFilled]
def wsX2_item : List Cond := .code yX2_item cX2_item 3 (some .int) :: ((wsX2_item_r1 ++ wsX2_item_r2) ++ wsX20 ++ wsX00 ++ wsX10 ++ (vx_atS RX2 61 "java/lang/UnsupportedOperationException" ["java/lang/RuntimeException", "java/lang/Exception"]).filter goodWord ++ (vx_atS RX2 86 "java/lang/IllegalArgumentException" ["java/lang/RuntimeException", "java/lang/Exception"]).filter goodWord)
def wsX2_itemNumbered : List Cond := .code yX2_itemNumbered cX2_itemNumbered 3 (some (.object "SorterSteps$Item")) :: ([.classLink RX2 82 "java/lang/IllegalArgumentException", .initialized "java/lang/IllegalArgumentException", .fieldLink RX2 14 "SorterSteps" "items" "LSorterSteps$ItemRow;", .methodLink RX2 141 yX1_at, .instanceMethod yX1_at, .selects RX1 yX1_at yX1_at, .initialized RX1, .code yX1_at cX1_at 2 (some (.object "SorterSteps$Item")), .fieldLink RX1 21 "SorterSteps$ItemRow" "size" "I", .fieldLink RX1 15 "SorterSteps$ItemRow" "places" "[LSorterSteps$Item;"] ++ wsX20 ++ wsX10 ++ (vx_atS RX2 86 "java/lang/IllegalArgumentException" ["java/lang/RuntimeException", "java/lang/Exception"]).filter goodWord)
def wsX2_isChute : List Cond := .code yX2_isChute cX2_isChute 2 (some .boolean) :: ([.fieldLink RX2 43 "SorterSteps" "fullChutes" "[Z"] ++ wsX20)
def wsX2_requireCode : List Cond := .code yX2_requireCode cX2_requireCode 2 none :: ([.classLink RX2 82 "java/lang/IllegalArgumentException", .initialized "java/lang/IllegalArgumentException", .methodLink RX2 225 yX2_isChute, .instanceMethod yX2_isChute, .selects RX2 yX2_isChute yX2_isChute, .initialized RX2, .code yX2_isChute cX2_isChute 2 (some .boolean), .fieldLink RX2 43 "SorterSteps" "fullChutes" "[Z"] ++ wsX20 ++ (vx_atS RX2 86 "java/lang/IllegalArgumentException" ["java/lang/RuntimeException", "java/lang/Exception"]).filter goodWord)
def wsX2_requireNotJammed : List Cond := .code yX2_requireNotJammed cX2_requireNotJammed 1 none :: ([.classLink RX2 99 "java/lang/IllegalStateException", .initialized "java/lang/IllegalStateException", .fieldLink RX2 173 "SorterSteps" "jammed" "Z"] ++ wsX20 ++ (vx_atS RX2 103 "java/lang/IllegalStateException" ["java/lang/RuntimeException", "java/lang/Exception"]).filter goodWord)
def wsX2_requireFit : List Cond := .code yX2_requireFit cX2_requireFit 2 none :: ([.classLink RX2 99 "java/lang/IllegalStateException", .initialized "java/lang/IllegalStateException", .fieldLink RX2 123 "SorterSteps$Item" "state" "I", .fieldLink RX2 118 "SorterSteps$Item" "length" "I", .fieldLink RX2 24 "SorterSteps" "trayLength" "I"] ++ wsX00 ++ wsX20 ++ (vx_atS RX2 103 "java/lang/IllegalStateException" ["java/lang/RuntimeException", "java/lang/Exception"]).filter goodWord)
def wsX2_intoLoop : List Cond := .code yX2_intoLoop cX2_intoLoop 2 (some .int) :: ([.fieldLink RX2 39 "SorterSteps" "onTrays" "[LSorterSteps$Item;"] ++ wsX20)
def wsX2_trayAt : List Cond := .code yX2_trayAt cX2_trayAt 2 (some .int) :: ([.fieldLink RX2 238 "SorterSteps" "positionOfFirstTray" "I", .methodLink RX2 177 yX2_intoLoop, .instanceMethod yX2_intoLoop, .selects RX2 yX2_intoLoop yX2_intoLoop, .initialized RX2, .code yX2_intoLoop cX2_intoLoop 2 (some .int), .fieldLink RX2 39 "SorterSteps" "onTrays" "[LSorterSteps$Item;"] ++ wsX20)
def wsX2_isInLoop : List Cond := .code yX2_isInLoop cX2_isInLoop 2 (some .boolean) :: ([.fieldLink RX2 39 "SorterSteps" "onTrays" "[LSorterSteps$Item;"] ++ wsX20)
def wsX2_itemAt : List Cond := .code yX2_itemAt cX2_itemAt 3 (some (.object "SorterSteps$Item")) :: ([.fieldLink RX2 39 "SorterSteps" "onTrays" "[LSorterSteps$Item;", .methodLink RX2 107 yX2_trayAt, .instanceMethod yX2_trayAt, .selects RX2 yX2_trayAt yX2_trayAt, .initialized RX2, .code yX2_trayAt cX2_trayAt 2 (some .int), .fieldLink RX2 238 "SorterSteps" "positionOfFirstTray" "I", .methodLink RX2 177 yX2_intoLoop, .instanceMethod yX2_intoLoop, .selects RX2 yX2_intoLoop yX2_intoLoop, .code yX2_intoLoop cX2_intoLoop 2 (some .int), .methodLink RX2 168 yX2_isInLoop, .instanceMethod yX2_isInLoop, .selects RX2 yX2_isInLoop yX2_isInLoop, .code yX2_isInLoop cX2_isInLoop 2 (some .boolean)] ++ wsX20)
def wsX2_putOnTray : List Cond := .code yX2_putOnTray cX2_putOnTray 3 none :: ([.fieldLink RX2 39 "SorterSteps" "onTrays" "[LSorterSteps$Item;", .fieldLink RX2 115 "SorterSteps$Item" "tray" "I", .fieldLink RX2 123 "SorterSteps$Item" "state" "I", .methodLink RX2 168 yX2_isInLoop, .instanceMethod yX2_isInLoop, .selects RX2 yX2_isInLoop yX2_isInLoop, .initialized RX2, .code yX2_isInLoop cX2_isInLoop 2 (some .boolean)] ++ wsX20 ++ wsX00)
def wsX2_induct_r1 : List Cond := [Cond.classLink RX2 82 "java/lang/IllegalArgumentException", Cond.initialized "java/lang/IllegalArgumentException", Cond.classLink RX2 99 "java/lang/IllegalStateException", Cond.initialized "java/lang/IllegalStateException", Cond.fieldLink RX2 104 "SorterSteps$Item" "code" "I", Cond.fieldLink RX2 115 "SorterSteps$Item" "tray" "I", Cond.methodLink RX2 78 yX2_itemNumbered, Cond.instanceMethod yX2_itemNumbered, Cond.selects RX2 yX2_itemNumbered yX2_itemNumbered, Cond.initialized RX2, Cond.code yX2_itemNumbered cX2_itemNumbered 3 (some (.object "SorterSteps$Item")), Cond.fieldLink RX2 14 "SorterSteps" "items" "LSorterSteps$ItemRow;", Cond.methodLink RX2 141 yX1_at, Cond.instanceMethod yX1_at, Cond.selects RX1 yX1_at yX1_at, Cond.initialized RX1, Cond.code yX1_at cX1_at 2 (some (.object "SorterSteps$Item")), Cond.fieldLink RX1 21 "SorterSteps$ItemRow" "size" "I", Cond.fieldLink RX1 15 "SorterSteps$ItemRow" "places" "[LSorterSteps$Item;", Cond.methodLink RX2 87 yX2_requireCode, Cond.instanceMethod yX2_requireCode, Cond.selects RX2 yX2_requireCode yX2_requireCode, Cond.code yX2_requireCode cX2_requireCode 2 none, Cond.methodLink RX2 225 yX2_isChute]
def wsX2_induct_r2 : List Cond := [Cond.instanceMethod yX2_isChute, Cond.selects RX2 yX2_isChute yX2_isChute, Cond.code yX2_isChute cX2_isChute 2 (some .boolean), Cond.fieldLink RX2 43 "SorterSteps" "fullChutes" "[Z", Cond.methodLink RX2 90 yX2_requireNotJammed, Cond.instanceMethod yX2_requireNotJammed, Cond.selects RX2 yX2_requireNotJammed yX2_requireNotJammed, Cond.code yX2_requireNotJammed cX2_requireNotJammed 1 none, Cond.fieldLink RX2 173 "SorterSteps" "jammed" "Z", Cond.methodLink RX2 93 yX2_requireFit, Cond.instanceMethod yX2_requireFit, Cond.selects RX2 yX2_requireFit yX2_requireFit, Cond.code yX2_requireFit cX2_requireFit 2 none, Cond.fieldLink RX2 123 "SorterSteps$Item" "state" "I", Cond.fieldLink RX2 118 "SorterSteps$Item" "length" "I", Cond.fieldLink RX2 24 "SorterSteps" "trayLength" "I", Cond.methodLink RX2 96 yX2_itemAt, Cond.instanceMethod yX2_itemAt, Cond.selects RX2 yX2_itemAt yX2_itemAt, Cond.code yX2_itemAt cX2_itemAt 3 (some (.object "SorterSteps$Item")), Cond.fieldLink RX2 39 "SorterSteps" "onTrays" "[LSorterSteps$Item;", Cond.methodLink RX2 107 yX2_trayAt, Cond.instanceMethod yX2_trayAt, Cond.selects RX2 yX2_trayAt yX2_trayAt]
def wsX2_induct_r3 : List Cond := [Cond.code yX2_trayAt cX2_trayAt 2 (some .int), Cond.fieldLink RX2 238 "SorterSteps" "positionOfFirstTray" "I", Cond.methodLink RX2 177 yX2_intoLoop, Cond.instanceMethod yX2_intoLoop, Cond.selects RX2 yX2_intoLoop yX2_intoLoop, Cond.code yX2_intoLoop cX2_intoLoop 2 (some .int), Cond.methodLink RX2 168 yX2_isInLoop, Cond.instanceMethod yX2_isInLoop, Cond.selects RX2 yX2_isInLoop yX2_isInLoop, Cond.code yX2_isInLoop cX2_isInLoop 2 (some .boolean), Cond.methodLink RX2 111 yX2_putOnTray, Cond.instanceMethod yX2_putOnTray, Cond.selects RX2 yX2_putOnTray yX2_putOnTray, Cond.code yX2_putOnTray cX2_putOnTray 3 none]
def wsX2_induct : List Cond := .code yX2_induct cX2_induct 5 (some .int) :: ((wsX2_induct_r1 ++ (wsX2_induct_r2 ++ wsX2_induct_r3)) ++ wsX00 ++ wsX20 ++ wsX10 ++ (vx_atS RX2 86 "java/lang/IllegalArgumentException" ["java/lang/RuntimeException", "java/lang/Exception"]).filter goodWord ++ (vx_atS RX2 103 "java/lang/IllegalStateException" ["java/lang/RuntimeException", "java/lang/Exception"]).filter goodWord)
def wsX2_length : List Cond := .code yX2_length cX2_length 7 (some .int) :: ([.fieldLink RX2 24 "SorterSteps" "trayLength" "I", .fieldLink RX2 39 "SorterSteps" "onTrays" "[LSorterSteps$Item;", .fieldLink RX2 118 "SorterSteps$Item" "length" "I", .methodLink RX2 50 yX2_requireLength, .instanceMethod yX2_requireLength, .selects RX2 yX2_requireLength yX2_requireLength, .initialized RX2, .code yX2_requireLength cX2_requireLength 2 none, .classLink RX2 82 "java/lang/IllegalArgumentException", .initialized "java/lang/IllegalArgumentException"] ++ wsX20 ++ wsX00 ++ (vx_atS RX2 86 "java/lang/IllegalArgumentException" ["java/lang/RuntimeException", "java/lang/Exception"]).filter goodWord)
def wsX2_retry_r1 : List Cond := [Cond.classLink RX2 82 "java/lang/IllegalArgumentException", Cond.initialized "java/lang/IllegalArgumentException", Cond.classLink RX2 99 "java/lang/IllegalStateException", Cond.initialized "java/lang/IllegalStateException", Cond.fieldLink RX2 123 "SorterSteps$Item" "state" "I", Cond.fieldLink RX2 104 "SorterSteps$Item" "code" "I", Cond.fieldLink RX2 130 "SorterSteps$Item" "retries" "I", Cond.fieldLink RX2 133 "SorterSteps$Item" "codeAfterRetries" "I", Cond.methodLink RX2 78 yX2_itemNumbered, Cond.instanceMethod yX2_itemNumbered, Cond.selects RX2 yX2_itemNumbered yX2_itemNumbered, Cond.initialized RX2, Cond.code yX2_itemNumbered cX2_itemNumbered 3 (some (.object "SorterSteps$Item")), Cond.fieldLink RX2 14 "SorterSteps" "items" "LSorterSteps$ItemRow;", Cond.methodLink RX2 141 yX1_at, Cond.instanceMethod yX1_at, Cond.selects RX1 yX1_at yX1_at, Cond.initialized RX1, Cond.code yX1_at cX1_at 2 (some (.object "SorterSteps$Item")), Cond.fieldLink RX1 21 "SorterSteps$ItemRow" "size" "I", Cond.fieldLink RX1 15 "SorterSteps$ItemRow" "places" "[LSorterSteps$Item;", Cond.methodLink RX2 87 yX2_requireCode, Cond.instanceMethod yX2_requireCode, Cond.selects RX2 yX2_requireCode yX2_requireCode]
def wsX2_retry_r2 : List Cond := [Cond.code yX2_requireCode cX2_requireCode 2 none, Cond.methodLink RX2 225 yX2_isChute, Cond.instanceMethod yX2_isChute, Cond.selects RX2 yX2_isChute yX2_isChute, Cond.code yX2_isChute cX2_isChute 2 (some .boolean), Cond.fieldLink RX2 43 "SorterSteps" "fullChutes" "[Z"]
def wsX2_retry : List Cond := .code yX2_retry cX2_retry 5 none :: ((wsX2_retry_r1 ++ wsX2_retry_r2) ++ wsX00 ++ wsX20 ++ wsX10 ++ (vx_atS RX2 86 "java/lang/IllegalArgumentException" ["java/lang/RuntimeException", "java/lang/Exception"]).filter goodWord ++ (vx_atS RX2 103 "java/lang/IllegalStateException" ["java/lang/RuntimeException", "java/lang/Exception"]).filter goodWord)
def wsX2_isFull : List Cond := .code yX2_isFull cX2_isFull 2 (some .boolean) :: ([.fieldLink RX2 43 "SorterSteps" "fullChutes" "[Z", .methodLink RX2 225 yX2_isChute, .instanceMethod yX2_isChute, .selects RX2 yX2_isChute yX2_isChute, .initialized RX2, .code yX2_isChute cX2_isChute 2 (some .boolean)] ++ wsX20)
def wsX2_takeOffTray : List Cond := .code yX2_takeOffTray cX2_takeOffTray 4 none :: ([.fieldLink RX2 115 "SorterSteps$Item" "tray" "I", .fieldLink RX2 39 "SorterSteps" "onTrays" "[LSorterSteps$Item;", .fieldLink RX2 123 "SorterSteps$Item" "state" "I", .fieldLink RX2 146 "SorterSteps$Item" "leftTo" "I", .fieldLink RX2 215 "SorterSteps" "steps" "I", .fieldLink RX2 149 "SorterSteps$Item" "leftAtStep" "I", .fieldLink RX2 18 "SorterSteps" "left" "LSorterSteps$ItemRow;", .methodLink RX2 168 yX2_isInLoop, .instanceMethod yX2_isInLoop, .selects RX2 yX2_isInLoop yX2_isInLoop, .initialized RX2, .code yX2_isInLoop cX2_isInLoop 2 (some .boolean), .methodLink RX2 71 yX1_add, .instanceMethod yX1_add, .selects RX1 yX1_add yX1_add, .initialized RX1, .code yX1_add cX1_add 2 none, .fieldLink RX1 15 "SorterSteps$ItemRow" "places" "[LSorterSteps$Item;", .fieldLink RX1 21 "SorterSteps$ItemRow" "size" "I", .methodLink RX1 25 yX1_isFilled, .instanceMethod yX1_isFilled, .selects RX1 yX1_isFilled yX1_isFilled, .code yX1_isFilled cX1_isFilled 1 (some .boolean)] ++ wsX00 ++ wsX20 ++ wsX10)
def wsX2_passChute_r1 : List Cond := [Cond.fieldLink RX2 104 "SorterSteps$Item" "code" "I", Cond.fieldLink RX2 152 "SorterSteps$Item" "rounds" "I", Cond.fieldLink RX2 47 "SorterSteps" "allowedRounds" "I", Cond.methodLink RX2 96 yX2_itemAt, Cond.instanceMethod yX2_itemAt, Cond.selects RX2 yX2_itemAt yX2_itemAt, Cond.initialized RX2, Cond.code yX2_itemAt cX2_itemAt 3 (some (.object "SorterSteps$Item")), Cond.fieldLink RX2 39 "SorterSteps" "onTrays" "[LSorterSteps$Item;", Cond.methodLink RX2 107 yX2_trayAt, Cond.instanceMethod yX2_trayAt, Cond.selects RX2 yX2_trayAt yX2_trayAt, Cond.code yX2_trayAt cX2_trayAt 2 (some .int), Cond.fieldLink RX2 238 "SorterSteps" "positionOfFirstTray" "I", Cond.methodLink RX2 177 yX2_intoLoop, Cond.instanceMethod yX2_intoLoop, Cond.selects RX2 yX2_intoLoop yX2_intoLoop, Cond.code yX2_intoLoop cX2_intoLoop 2 (some .int), Cond.methodLink RX2 168 yX2_isInLoop, Cond.instanceMethod yX2_isInLoop, Cond.selects RX2 yX2_isInLoop yX2_isInLoop, Cond.code yX2_isInLoop cX2_isInLoop 2 (some .boolean), Cond.methodLink RX2 160 yX2_isFull, Cond.instanceMethod yX2_isFull]
def wsX2_passChute_r2 : List Cond := [Cond.selects RX2 yX2_isFull yX2_isFull, Cond.code yX2_isFull cX2_isFull 2 (some .boolean), Cond.fieldLink RX2 43 "SorterSteps" "fullChutes" "[Z", Cond.methodLink RX2 225 yX2_isChute, Cond.instanceMethod yX2_isChute, Cond.selects RX2 yX2_isChute yX2_isChute, Cond.code yX2_isChute cX2_isChute 2 (some .boolean), Cond.methodLink RX2 247 yX2_takeOffTray, Cond.instanceMethod yX2_takeOffTray, Cond.selects RX2 yX2_takeOffTray yX2_takeOffTray, Cond.code yX2_takeOffTray cX2_takeOffTray 4 none, Cond.fieldLink RX2 115 "SorterSteps$Item" "tray" "I", Cond.fieldLink RX2 123 "SorterSteps$Item" "state" "I", Cond.fieldLink RX2 146 "SorterSteps$Item" "leftTo" "I", Cond.fieldLink RX2 215 "SorterSteps" "steps" "I", Cond.fieldLink RX2 149 "SorterSteps$Item" "leftAtStep" "I", Cond.fieldLink RX2 18 "SorterSteps" "left" "LSorterSteps$ItemRow;", Cond.methodLink RX2 71 yX1_add, Cond.instanceMethod yX1_add, Cond.selects RX1 yX1_add yX1_add, Cond.initialized RX1, Cond.code yX1_add cX1_add 2 none, Cond.fieldLink RX1 15 "SorterSteps$ItemRow" "places" "[LSorterSteps$Item;", Cond.fieldLink RX1 21 "SorterSteps$ItemRow" "size" "I"]
def wsX2_passChute_r3 : List Cond := [Cond.methodLink RX1 25 yX1_isFilled, Cond.instanceMethod yX1_isFilled, Cond.selects RX1 yX1_isFilled yX1_isFilled, Cond.code yX1_isFilled cX1_isFilled 1 (some .boolean)]
def wsX2_passChute : List Cond := .code yX2_passChute cX2_passChute 3 none :: ((wsX2_passChute_r1 ++ (wsX2_passChute_r2 ++ wsX2_passChute_r3)) ++ wsX00 ++ wsX20 ++ wsX10)
def wsX2_readAgainAtStart_r1 : List Cond := [Cond.fieldLink RX2 104 "SorterSteps$Item" "code" "I", Cond.fieldLink RX2 130 "SorterSteps$Item" "retries" "I", Cond.fieldLink RX2 133 "SorterSteps$Item" "codeAfterRetries" "I", Cond.methodLink RX2 96 yX2_itemAt, Cond.instanceMethod yX2_itemAt, Cond.selects RX2 yX2_itemAt yX2_itemAt, Cond.initialized RX2, Cond.code yX2_itemAt cX2_itemAt 3 (some (.object "SorterSteps$Item")), Cond.fieldLink RX2 39 "SorterSteps" "onTrays" "[LSorterSteps$Item;", Cond.methodLink RX2 107 yX2_trayAt, Cond.instanceMethod yX2_trayAt, Cond.selects RX2 yX2_trayAt yX2_trayAt, Cond.code yX2_trayAt cX2_trayAt 2 (some .int), Cond.fieldLink RX2 238 "SorterSteps" "positionOfFirstTray" "I", Cond.methodLink RX2 177 yX2_intoLoop, Cond.instanceMethod yX2_intoLoop, Cond.selects RX2 yX2_intoLoop yX2_intoLoop, Cond.code yX2_intoLoop cX2_intoLoop 2 (some .int), Cond.methodLink RX2 168 yX2_isInLoop, Cond.instanceMethod yX2_isInLoop, Cond.selects RX2 yX2_isInLoop yX2_isInLoop, Cond.code yX2_isInLoop cX2_isInLoop 2 (some .boolean), Cond.methodLink RX2 247 yX2_takeOffTray, Cond.instanceMethod yX2_takeOffTray]
def wsX2_readAgainAtStart_r2 : List Cond := [Cond.selects RX2 yX2_takeOffTray yX2_takeOffTray, Cond.code yX2_takeOffTray cX2_takeOffTray 4 none, Cond.fieldLink RX2 115 "SorterSteps$Item" "tray" "I", Cond.fieldLink RX2 123 "SorterSteps$Item" "state" "I", Cond.fieldLink RX2 146 "SorterSteps$Item" "leftTo" "I", Cond.fieldLink RX2 215 "SorterSteps" "steps" "I", Cond.fieldLink RX2 149 "SorterSteps$Item" "leftAtStep" "I", Cond.fieldLink RX2 18 "SorterSteps" "left" "LSorterSteps$ItemRow;", Cond.methodLink RX2 71 yX1_add, Cond.instanceMethod yX1_add, Cond.selects RX1 yX1_add yX1_add, Cond.initialized RX1, Cond.code yX1_add cX1_add 2 none, Cond.fieldLink RX1 15 "SorterSteps$ItemRow" "places" "[LSorterSteps$Item;", Cond.fieldLink RX1 21 "SorterSteps$ItemRow" "size" "I", Cond.methodLink RX1 25 yX1_isFilled, Cond.instanceMethod yX1_isFilled, Cond.selects RX1 yX1_isFilled yX1_isFilled, Cond.code yX1_isFilled cX1_isFilled 1 (some .boolean)]
def wsX2_readAgainAtStart : List Cond := .code yX2_readAgainAtStart cX2_readAgainAtStart 2 none :: ((wsX2_readAgainAtStart_r1 ++ wsX2_readAgainAtStart_r2) ++ wsX00 ++ wsX20 ++ wsX10)
def wsX2_makeOneStep_r1 : List Cond := [Cond.fieldLink RX2 215 "SorterSteps" "steps" "I", Cond.fieldLink RX2 238 "SorterSteps" "positionOfFirstTray" "I", Cond.fieldLink RX2 43 "SorterSteps" "fullChutes" "[Z", Cond.methodLink RX2 177 yX2_intoLoop, Cond.instanceMethod yX2_intoLoop, Cond.selects RX2 yX2_intoLoop yX2_intoLoop, Cond.initialized RX2, Cond.code yX2_intoLoop cX2_intoLoop 2 (some .int), Cond.fieldLink RX2 39 "SorterSteps" "onTrays" "[LSorterSteps$Item;", Cond.methodLink RX2 241 yX2_passChute, Cond.instanceMethod yX2_passChute, Cond.selects RX2 yX2_passChute yX2_passChute, Cond.code yX2_passChute cX2_passChute 3 none, Cond.fieldLink RX2 104 "SorterSteps$Item" "code" "I", Cond.fieldLink RX2 152 "SorterSteps$Item" "rounds" "I", Cond.fieldLink RX2 47 "SorterSteps" "allowedRounds" "I", Cond.methodLink RX2 96 yX2_itemAt, Cond.instanceMethod yX2_itemAt, Cond.selects RX2 yX2_itemAt yX2_itemAt, Cond.code yX2_itemAt cX2_itemAt 3 (some (.object "SorterSteps$Item")), Cond.methodLink RX2 107 yX2_trayAt, Cond.instanceMethod yX2_trayAt, Cond.selects RX2 yX2_trayAt yX2_trayAt, Cond.code yX2_trayAt cX2_trayAt 2 (some .int)]
def wsX2_makeOneStep_r2 : List Cond := [Cond.methodLink RX2 168 yX2_isInLoop, Cond.instanceMethod yX2_isInLoop, Cond.selects RX2 yX2_isInLoop yX2_isInLoop, Cond.code yX2_isInLoop cX2_isInLoop 2 (some .boolean), Cond.methodLink RX2 160 yX2_isFull, Cond.instanceMethod yX2_isFull, Cond.selects RX2 yX2_isFull yX2_isFull, Cond.code yX2_isFull cX2_isFull 2 (some .boolean), Cond.methodLink RX2 225 yX2_isChute, Cond.instanceMethod yX2_isChute, Cond.selects RX2 yX2_isChute yX2_isChute, Cond.code yX2_isChute cX2_isChute 2 (some .boolean), Cond.methodLink RX2 247 yX2_takeOffTray, Cond.instanceMethod yX2_takeOffTray, Cond.selects RX2 yX2_takeOffTray yX2_takeOffTray, Cond.code yX2_takeOffTray cX2_takeOffTray 4 none, Cond.fieldLink RX2 115 "SorterSteps$Item" "tray" "I", Cond.fieldLink RX2 123 "SorterSteps$Item" "state" "I", Cond.fieldLink RX2 146 "SorterSteps$Item" "leftTo" "I", Cond.fieldLink RX2 149 "SorterSteps$Item" "leftAtStep" "I", Cond.fieldLink RX2 18 "SorterSteps" "left" "LSorterSteps$ItemRow;", Cond.methodLink RX2 71 yX1_add, Cond.instanceMethod yX1_add, Cond.selects RX1 yX1_add yX1_add]
def wsX2_makeOneStep_r3 : List Cond := [Cond.initialized RX1, Cond.code yX1_add cX1_add 2 none, Cond.fieldLink RX1 15 "SorterSteps$ItemRow" "places" "[LSorterSteps$Item;", Cond.fieldLink RX1 21 "SorterSteps$ItemRow" "size" "I", Cond.methodLink RX1 25 yX1_isFilled, Cond.instanceMethod yX1_isFilled, Cond.selects RX1 yX1_isFilled yX1_isFilled, Cond.code yX1_isFilled cX1_isFilled 1 (some .boolean), Cond.methodLink RX2 244 yX2_readAgainAtStart, Cond.instanceMethod yX2_readAgainAtStart, Cond.selects RX2 yX2_readAgainAtStart yX2_readAgainAtStart, Cond.code yX2_readAgainAtStart cX2_readAgainAtStart 2 none, Cond.fieldLink RX2 130 "SorterSteps$Item" "retries" "I", Cond.fieldLink RX2 133 "SorterSteps$Item" "codeAfterRetries" "I"]
def wsX2_makeOneStep : List Cond := .code yX2_makeOneStep cX2_makeOneStep 2 none :: ((wsX2_makeOneStep_r1 ++ (wsX2_makeOneStep_r2 ++ wsX2_makeOneStep_r3)) ++ wsX20 ++ wsX00 ++ wsX10)
def wsX2_step_r1 : List Cond := [Cond.classLink RX2 82 "java/lang/IllegalArgumentException", Cond.initialized "java/lang/IllegalArgumentException", Cond.fieldLink RX2 18 "SorterSteps" "left" "LSorterSteps$ItemRow;", Cond.methodLink RX2 90 yX2_requireNotJammed, Cond.instanceMethod yX2_requireNotJammed, Cond.selects RX2 yX2_requireNotJammed yX2_requireNotJammed, Cond.initialized RX2, Cond.code yX2_requireNotJammed cX2_requireNotJammed 1 none, Cond.classLink RX2 99 "java/lang/IllegalStateException", Cond.initialized "java/lang/IllegalStateException", Cond.fieldLink RX2 173 "SorterSteps" "jammed" "Z", Cond.methodLink RX2 64 yX1_size, Cond.instanceMethod yX1_size, Cond.selects RX1 yX1_size yX1_size, Cond.initialized RX1, Cond.code yX1_size cX1_size 1 (some .int), Cond.fieldLink RX1 21 "SorterSteps$ItemRow" "size" "I", Cond.methodLink RX2 138 yX2_makeOneStep, Cond.instanceMethod yX2_makeOneStep, Cond.selects RX2 yX2_makeOneStep yX2_makeOneStep, Cond.code yX2_makeOneStep cX2_makeOneStep 2 none, Cond.fieldLink RX2 215 "SorterSteps" "steps" "I", Cond.fieldLink RX2 238 "SorterSteps" "positionOfFirstTray" "I", Cond.fieldLink RX2 43 "SorterSteps" "fullChutes" "[Z"]
def wsX2_step_r2 : List Cond := [Cond.methodLink RX2 177 yX2_intoLoop, Cond.instanceMethod yX2_intoLoop, Cond.selects RX2 yX2_intoLoop yX2_intoLoop, Cond.code yX2_intoLoop cX2_intoLoop 2 (some .int), Cond.fieldLink RX2 39 "SorterSteps" "onTrays" "[LSorterSteps$Item;", Cond.methodLink RX2 241 yX2_passChute, Cond.instanceMethod yX2_passChute, Cond.selects RX2 yX2_passChute yX2_passChute, Cond.code yX2_passChute cX2_passChute 3 none, Cond.fieldLink RX2 104 "SorterSteps$Item" "code" "I", Cond.fieldLink RX2 152 "SorterSteps$Item" "rounds" "I", Cond.fieldLink RX2 47 "SorterSteps" "allowedRounds" "I", Cond.methodLink RX2 96 yX2_itemAt, Cond.instanceMethod yX2_itemAt, Cond.selects RX2 yX2_itemAt yX2_itemAt, Cond.code yX2_itemAt cX2_itemAt 3 (some (.object "SorterSteps$Item")), Cond.methodLink RX2 107 yX2_trayAt, Cond.instanceMethod yX2_trayAt, Cond.selects RX2 yX2_trayAt yX2_trayAt, Cond.code yX2_trayAt cX2_trayAt 2 (some .int), Cond.methodLink RX2 168 yX2_isInLoop, Cond.instanceMethod yX2_isInLoop, Cond.selects RX2 yX2_isInLoop yX2_isInLoop, Cond.code yX2_isInLoop cX2_isInLoop 2 (some .boolean)]
def wsX2_step_r3 : List Cond := [Cond.methodLink RX2 160 yX2_isFull, Cond.instanceMethod yX2_isFull, Cond.selects RX2 yX2_isFull yX2_isFull, Cond.code yX2_isFull cX2_isFull 2 (some .boolean), Cond.methodLink RX2 225 yX2_isChute, Cond.instanceMethod yX2_isChute, Cond.selects RX2 yX2_isChute yX2_isChute, Cond.code yX2_isChute cX2_isChute 2 (some .boolean), Cond.methodLink RX2 247 yX2_takeOffTray, Cond.instanceMethod yX2_takeOffTray, Cond.selects RX2 yX2_takeOffTray yX2_takeOffTray, Cond.code yX2_takeOffTray cX2_takeOffTray 4 none, Cond.fieldLink RX2 115 "SorterSteps$Item" "tray" "I", Cond.fieldLink RX2 123 "SorterSteps$Item" "state" "I", Cond.fieldLink RX2 146 "SorterSteps$Item" "leftTo" "I", Cond.fieldLink RX2 149 "SorterSteps$Item" "leftAtStep" "I", Cond.methodLink RX2 71 yX1_add, Cond.instanceMethod yX1_add, Cond.selects RX1 yX1_add yX1_add, Cond.code yX1_add cX1_add 2 none, Cond.fieldLink RX1 15 "SorterSteps$ItemRow" "places" "[LSorterSteps$Item;", Cond.methodLink RX1 25 yX1_isFilled, Cond.instanceMethod yX1_isFilled, Cond.selects RX1 yX1_isFilled yX1_isFilled]
def wsX2_step_r4 : List Cond := [Cond.code yX1_isFilled cX1_isFilled 1 (some .boolean), Cond.methodLink RX2 244 yX2_readAgainAtStart, Cond.instanceMethod yX2_readAgainAtStart, Cond.selects RX2 yX2_readAgainAtStart yX2_readAgainAtStart, Cond.code yX2_readAgainAtStart cX2_readAgainAtStart 2 none, Cond.fieldLink RX2 130 "SorterSteps$Item" "retries" "I", Cond.fieldLink RX2 133 "SorterSteps$Item" "codeAfterRetries" "I"]
def wsX2_step : List Cond := .code yX2_step cX2_step 4 (some .int) :: ((wsX2_step_r1 ++ (wsX2_step_r2 ++ (wsX2_step_r3 ++ wsX2_step_r4))) ++ wsX20 ++ wsX10 ++ wsX00 ++ (vx_atS RX2 86 "java/lang/IllegalArgumentException" ["java/lang/RuntimeException", "java/lang/Exception"]).filter goodWord ++ (vx_atS RX2 103 "java/lang/IllegalStateException" ["java/lang/RuntimeException", "java/lang/Exception"]).filter goodWord)
def wsX2_out : List Cond := .code yX2_out cX2_out 4 (some .int) :: ([.classLink RX2 82 "java/lang/IllegalArgumentException", .initialized "java/lang/IllegalArgumentException", .fieldLink RX2 18 "SorterSteps" "left" "LSorterSteps$ItemRow;", .fieldLink RX2 75 "SorterSteps$Item" "number" "I", .fieldLink RX2 146 "SorterSteps$Item" "leftTo" "I", .fieldLink RX2 149 "SorterSteps$Item" "leftAtStep" "I", .fieldLink RX2 152 "SorterSteps$Item" "rounds" "I", .methodLink RX2 141 yX1_at, .instanceMethod yX1_at, .selects RX1 yX1_at yX1_at, .initialized RX1, .code yX1_at cX1_at 2 (some (.object "SorterSteps$Item")), .fieldLink RX1 21 "SorterSteps$ItemRow" "size" "I", .fieldLink RX1 15 "SorterSteps$ItemRow" "places" "[LSorterSteps$Item;"] ++ wsX20 ++ wsX00 ++ wsX10 ++ (vx_atS RX2 86 "java/lang/IllegalArgumentException" ["java/lang/RuntimeException", "java/lang/Exception"]).filter goodWord)
def wsX2_requireChute : List Cond := .code yX2_requireChute cX2_requireChute 2 none :: ([.classLink RX2 82 "java/lang/IllegalArgumentException", .initialized "java/lang/IllegalArgumentException", .methodLink RX2 225 yX2_isChute, .instanceMethod yX2_isChute, .selects RX2 yX2_isChute yX2_isChute, .initialized RX2, .code yX2_isChute cX2_isChute 2 (some .boolean), .fieldLink RX2 43 "SorterSteps" "fullChutes" "[Z"] ++ wsX20 ++ (vx_atS RX2 86 "java/lang/IllegalArgumentException" ["java/lang/RuntimeException", "java/lang/Exception"]).filter goodWord)
def wsX2_setFull : List Cond := .code yX2_setFull cX2_setFull 3 none :: ([.fieldLink RX2 43 "SorterSteps" "fullChutes" "[Z", .methodLink RX2 225 yX2_isChute, .instanceMethod yX2_isChute, .selects RX2 yX2_isChute yX2_isChute, .initialized RX2, .code yX2_isChute cX2_isChute 2 (some .boolean)] ++ wsX20)
def wsX2_chute : List Cond := .code yX2_chute cX2_chute 4 (some .boolean) :: ([.methodLink RX2 157 yX2_requireChute, .instanceMethod yX2_requireChute, .selects RX2 yX2_requireChute yX2_requireChute, .initialized RX2, .code yX2_requireChute cX2_requireChute 2 none, .classLink RX2 82 "java/lang/IllegalArgumentException", .initialized "java/lang/IllegalArgumentException", .methodLink RX2 225 yX2_isChute, .instanceMethod yX2_isChute, .selects RX2 yX2_isChute yX2_isChute, .code yX2_isChute cX2_isChute 2 (some .boolean), .fieldLink RX2 43 "SorterSteps" "fullChutes" "[Z", .methodLink RX2 160 yX2_isFull, .instanceMethod yX2_isFull, .selects RX2 yX2_isFull yX2_isFull, .code yX2_isFull cX2_isFull 2 (some .boolean), .methodLink RX2 164 yX2_setFull, .instanceMethod yX2_setFull, .selects RX2 yX2_setFull yX2_setFull, .code yX2_setFull cX2_setFull 3 none] ++ wsX20 ++ (vx_atS RX2 86 "java/lang/IllegalArgumentException" ["java/lang/RuntimeException", "java/lang/Exception"]).filter goodWord)
def wsX2_doubtItemAt_r1 : List Cond := [Cond.fieldLink RX2 183 "SorterSteps$Item" "doubted" "Z", Cond.fieldLink RX2 187 "SorterSteps$Item" "found" "Z", Cond.fieldLink RX2 21 "SorterSteps" "doubted" "LSorterSteps$ItemRow;", Cond.methodLink RX2 96 yX2_itemAt, Cond.instanceMethod yX2_itemAt, Cond.selects RX2 yX2_itemAt yX2_itemAt, Cond.initialized RX2, Cond.code yX2_itemAt cX2_itemAt 3 (some (.object "SorterSteps$Item")), Cond.fieldLink RX2 39 "SorterSteps" "onTrays" "[LSorterSteps$Item;", Cond.methodLink RX2 107 yX2_trayAt, Cond.instanceMethod yX2_trayAt, Cond.selects RX2 yX2_trayAt yX2_trayAt, Cond.code yX2_trayAt cX2_trayAt 2 (some .int), Cond.fieldLink RX2 238 "SorterSteps" "positionOfFirstTray" "I", Cond.methodLink RX2 177 yX2_intoLoop, Cond.instanceMethod yX2_intoLoop, Cond.selects RX2 yX2_intoLoop yX2_intoLoop, Cond.code yX2_intoLoop cX2_intoLoop 2 (some .int), Cond.methodLink RX2 168 yX2_isInLoop, Cond.instanceMethod yX2_isInLoop, Cond.selects RX2 yX2_isInLoop yX2_isInLoop, Cond.code yX2_isInLoop cX2_isInLoop 2 (some .boolean), Cond.methodLink RX2 71 yX1_add, Cond.instanceMethod yX1_add]
def wsX2_doubtItemAt_r2 : List Cond := [Cond.selects RX1 yX1_add yX1_add, Cond.initialized RX1, Cond.code yX1_add cX1_add 2 none, Cond.fieldLink RX1 15 "SorterSteps$ItemRow" "places" "[LSorterSteps$Item;", Cond.fieldLink RX1 21 "SorterSteps$ItemRow" "size" "I", Cond.methodLink RX1 25 yX1_isFilled, Cond.instanceMethod yX1_isFilled, Cond.selects RX1 yX1_isFilled yX1_isFilled, Cond.code yX1_isFilled cX1_isFilled 1 (some .boolean)]
def wsX2_doubtItemAt : List Cond := .code yX2_doubtItemAt cX2_doubtItemAt 3 none :: ((wsX2_doubtItemAt_r1 ++ wsX2_doubtItemAt_r2) ++ wsX00 ++ wsX20 ++ wsX10)
def wsX2_jam_r1 : List Cond := [Cond.classLink RX2 82 "java/lang/IllegalArgumentException", Cond.initialized "java/lang/IllegalArgumentException", Cond.fieldLink RX2 173 "SorterSteps" "jammed" "Z", Cond.fieldLink RX2 21 "SorterSteps" "doubted" "LSorterSteps$ItemRow;", Cond.methodLink RX2 168 yX2_isInLoop, Cond.instanceMethod yX2_isInLoop, Cond.selects RX2 yX2_isInLoop yX2_isInLoop, Cond.initialized RX2, Cond.code yX2_isInLoop cX2_isInLoop 2 (some .boolean), Cond.fieldLink RX2 39 "SorterSteps" "onTrays" "[LSorterSteps$Item;", Cond.methodLink RX2 90 yX2_requireNotJammed, Cond.instanceMethod yX2_requireNotJammed, Cond.selects RX2 yX2_requireNotJammed yX2_requireNotJammed, Cond.code yX2_requireNotJammed cX2_requireNotJammed 1 none, Cond.classLink RX2 99 "java/lang/IllegalStateException", Cond.initialized "java/lang/IllegalStateException", Cond.methodLink RX2 177 yX2_intoLoop, Cond.instanceMethod yX2_intoLoop, Cond.selects RX2 yX2_intoLoop yX2_intoLoop, Cond.code yX2_intoLoop cX2_intoLoop 2 (some .int), Cond.methodLink RX2 180 yX2_doubtItemAt, Cond.instanceMethod yX2_doubtItemAt, Cond.selects RX2 yX2_doubtItemAt yX2_doubtItemAt, Cond.code yX2_doubtItemAt cX2_doubtItemAt 3 none]
def wsX2_jam_r2 : List Cond := [Cond.fieldLink RX2 183 "SorterSteps$Item" "doubted" "Z", Cond.fieldLink RX2 187 "SorterSteps$Item" "found" "Z", Cond.methodLink RX2 96 yX2_itemAt, Cond.instanceMethod yX2_itemAt, Cond.selects RX2 yX2_itemAt yX2_itemAt, Cond.code yX2_itemAt cX2_itemAt 3 (some (.object "SorterSteps$Item")), Cond.methodLink RX2 107 yX2_trayAt, Cond.instanceMethod yX2_trayAt, Cond.selects RX2 yX2_trayAt yX2_trayAt, Cond.code yX2_trayAt cX2_trayAt 2 (some .int), Cond.fieldLink RX2 238 "SorterSteps" "positionOfFirstTray" "I", Cond.methodLink RX2 71 yX1_add, Cond.instanceMethod yX1_add, Cond.selects RX1 yX1_add yX1_add, Cond.initialized RX1, Cond.code yX1_add cX1_add 2 none, Cond.fieldLink RX1 15 "SorterSteps$ItemRow" "places" "[LSorterSteps$Item;", Cond.fieldLink RX1 21 "SorterSteps$ItemRow" "size" "I", Cond.methodLink RX1 25 yX1_isFilled, Cond.instanceMethod yX1_isFilled, Cond.selects RX1 yX1_isFilled yX1_isFilled, Cond.code yX1_isFilled cX1_isFilled 1 (some .boolean), Cond.methodLink RX2 64 yX1_size, Cond.instanceMethod yX1_size]
def wsX2_jam_r3 : List Cond := [Cond.selects RX1 yX1_size yX1_size, Cond.code yX1_size cX1_size 1 (some .int)]
def wsX2_jam : List Cond := .code yX2_jam cX2_jam 5 (some .int) :: ((wsX2_jam_r1 ++ (wsX2_jam_r2 ++ wsX2_jam_r3)) ++ wsX20 ++ wsX00 ++ wsX10 ++ (vx_atS RX2 86 "java/lang/IllegalArgumentException" ["java/lang/RuntimeException", "java/lang/Exception"]).filter goodWord ++ (vx_atS RX2 103 "java/lang/IllegalStateException" ["java/lang/RuntimeException", "java/lang/Exception"]).filter goodWord)
def wsX2_doubt : List Cond := .code yX2_doubt cX2_doubt 3 (some .int) :: ([.fieldLink RX2 21 "SorterSteps" "doubted" "LSorterSteps$ItemRow;", .fieldLink RX2 75 "SorterSteps$Item" "number" "I", .methodLink RX2 141 yX1_at, .instanceMethod yX1_at, .selects RX1 yX1_at yX1_at, .initialized RX1, .code yX1_at cX1_at 2 (some (.object "SorterSteps$Item")), .fieldLink RX1 21 "SorterSteps$ItemRow" "size" "I", .fieldLink RX1 15 "SorterSteps$ItemRow" "places" "[LSorterSteps$Item;"] ++ wsX20 ++ wsX00 ++ wsX10)
def wsX2_countNotFound : List Cond := .code yX2_countNotFound cX2_countNotFound 4 (some .int) :: ([.fieldLink RX2 21 "SorterSteps" "doubted" "LSorterSteps$ItemRow;", .fieldLink RX2 187 "SorterSteps$Item" "found" "Z", .methodLink RX2 64 yX1_size, .instanceMethod yX1_size, .selects RX1 yX1_size yX1_size, .initialized RX1, .code yX1_size cX1_size 1 (some .int), .fieldLink RX1 21 "SorterSteps$ItemRow" "size" "I", .methodLink RX2 141 yX1_at, .instanceMethod yX1_at, .selects RX1 yX1_at yX1_at, .code yX1_at cX1_at 2 (some (.object "SorterSteps$Item")), .fieldLink RX1 15 "SorterSteps$ItemRow" "places" "[LSorterSteps$Item;"] ++ wsX20 ++ wsX00 ++ wsX10)
def wsX2_found_r1 : List Cond := [Cond.classLink RX2 99 "java/lang/IllegalStateException", Cond.initialized "java/lang/IllegalStateException", Cond.fieldLink RX2 183 "SorterSteps$Item" "doubted" "Z", Cond.fieldLink RX2 187 "SorterSteps$Item" "found" "Z", Cond.methodLink RX2 78 yX2_itemNumbered, Cond.instanceMethod yX2_itemNumbered, Cond.selects RX2 yX2_itemNumbered yX2_itemNumbered, Cond.initialized RX2, Cond.code yX2_itemNumbered cX2_itemNumbered 3 (some (.object "SorterSteps$Item")), Cond.classLink RX2 82 "java/lang/IllegalArgumentException", Cond.initialized "java/lang/IllegalArgumentException", Cond.fieldLink RX2 14 "SorterSteps" "items" "LSorterSteps$ItemRow;", Cond.methodLink RX2 141 yX1_at, Cond.instanceMethod yX1_at, Cond.selects RX1 yX1_at yX1_at, Cond.initialized RX1, Cond.code yX1_at cX1_at 2 (some (.object "SorterSteps$Item")), Cond.fieldLink RX1 21 "SorterSteps$ItemRow" "size" "I", Cond.fieldLink RX1 15 "SorterSteps$ItemRow" "places" "[LSorterSteps$Item;", Cond.methodLink RX2 190 yX2_countNotFound, Cond.instanceMethod yX2_countNotFound, Cond.selects RX2 yX2_countNotFound yX2_countNotFound, Cond.code yX2_countNotFound cX2_countNotFound 4 (some .int), Cond.fieldLink RX2 21 "SorterSteps" "doubted" "LSorterSteps$ItemRow;"]
def wsX2_found_r2 : List Cond := [Cond.methodLink RX2 64 yX1_size, Cond.instanceMethod yX1_size, Cond.selects RX1 yX1_size yX1_size, Cond.code yX1_size cX1_size 1 (some .int)]
def wsX2_found : List Cond := .code yX2_found cX2_found 4 (some .int) :: ((wsX2_found_r1 ++ wsX2_found_r2) ++ wsX00 ++ wsX20 ++ wsX10 ++ (vx_atS RX2 103 "java/lang/IllegalStateException" ["java/lang/RuntimeException", "java/lang/Exception"]).filter goodWord ++ (vx_atS RX2 86 "java/lang/IllegalArgumentException" ["java/lang/RuntimeException", "java/lang/Exception"]).filter goodWord)
def wsX2_endDoubt_r1 : List Cond := [Cond.fieldLink RX2 183 "SorterSteps$Item" "doubted" "Z", Cond.fieldLink RX2 187 "SorterSteps$Item" "found" "Z", Cond.methodLink RX2 247 yX2_takeOffTray, Cond.instanceMethod yX2_takeOffTray, Cond.selects RX2 yX2_takeOffTray yX2_takeOffTray, Cond.initialized RX2, Cond.code yX2_takeOffTray cX2_takeOffTray 4 none, Cond.fieldLink RX2 115 "SorterSteps$Item" "tray" "I", Cond.fieldLink RX2 39 "SorterSteps" "onTrays" "[LSorterSteps$Item;", Cond.fieldLink RX2 123 "SorterSteps$Item" "state" "I", Cond.fieldLink RX2 146 "SorterSteps$Item" "leftTo" "I", Cond.fieldLink RX2 215 "SorterSteps" "steps" "I", Cond.fieldLink RX2 149 "SorterSteps$Item" "leftAtStep" "I", Cond.fieldLink RX2 18 "SorterSteps" "left" "LSorterSteps$ItemRow;", Cond.methodLink RX2 168 yX2_isInLoop, Cond.instanceMethod yX2_isInLoop, Cond.selects RX2 yX2_isInLoop yX2_isInLoop, Cond.code yX2_isInLoop cX2_isInLoop 2 (some .boolean), Cond.methodLink RX2 71 yX1_add, Cond.instanceMethod yX1_add, Cond.selects RX1 yX1_add yX1_add, Cond.initialized RX1, Cond.code yX1_add cX1_add 2 none, Cond.fieldLink RX1 15 "SorterSteps$ItemRow" "places" "[LSorterSteps$Item;"]
def wsX2_endDoubt_r2 : List Cond := [Cond.fieldLink RX1 21 "SorterSteps$ItemRow" "size" "I", Cond.methodLink RX1 25 yX1_isFilled, Cond.instanceMethod yX1_isFilled, Cond.selects RX1 yX1_isFilled yX1_isFilled, Cond.code yX1_isFilled cX1_isFilled 1 (some .boolean)]
def wsX2_endDoubt : List Cond := .code yX2_endDoubt cX2_endDoubt 2 none :: ((wsX2_endDoubt_r1 ++ wsX2_endDoubt_r2) ++ wsX00 ++ wsX20 ++ wsX10)
def wsX2_retrack_r1 : List Cond := [Cond.classLink RX2 99 "java/lang/IllegalStateException", Cond.initialized "java/lang/IllegalStateException", Cond.fieldLink RX2 173 "SorterSteps" "jammed" "Z", Cond.fieldLink RX2 18 "SorterSteps" "left" "LSorterSteps$ItemRow;", Cond.fieldLink RX2 21 "SorterSteps" "doubted" "LSorterSteps$ItemRow;", Cond.methodLink RX2 64 yX1_size, Cond.instanceMethod yX1_size, Cond.selects RX1 yX1_size yX1_size, Cond.initialized RX1, Cond.code yX1_size cX1_size 1 (some .int), Cond.fieldLink RX1 21 "SorterSteps$ItemRow" "size" "I", Cond.methodLink RX2 141 yX1_at, Cond.instanceMethod yX1_at, Cond.selects RX1 yX1_at yX1_at, Cond.code yX1_at cX1_at 2 (some (.object "SorterSteps$Item")), Cond.fieldLink RX1 15 "SorterSteps$ItemRow" "places" "[LSorterSteps$Item;", Cond.methodLink RX2 195 yX2_endDoubt, Cond.instanceMethod yX2_endDoubt, Cond.selects RX2 yX2_endDoubt yX2_endDoubt, Cond.initialized RX2, Cond.code yX2_endDoubt cX2_endDoubt 2 none, Cond.fieldLink RX2 183 "SorterSteps$Item" "doubted" "Z", Cond.fieldLink RX2 187 "SorterSteps$Item" "found" "Z", Cond.methodLink RX2 247 yX2_takeOffTray]
def wsX2_retrack_r2 : List Cond := [Cond.instanceMethod yX2_takeOffTray, Cond.selects RX2 yX2_takeOffTray yX2_takeOffTray, Cond.code yX2_takeOffTray cX2_takeOffTray 4 none, Cond.fieldLink RX2 115 "SorterSteps$Item" "tray" "I", Cond.fieldLink RX2 39 "SorterSteps" "onTrays" "[LSorterSteps$Item;", Cond.fieldLink RX2 123 "SorterSteps$Item" "state" "I", Cond.fieldLink RX2 146 "SorterSteps$Item" "leftTo" "I", Cond.fieldLink RX2 215 "SorterSteps" "steps" "I", Cond.fieldLink RX2 149 "SorterSteps$Item" "leftAtStep" "I", Cond.methodLink RX2 168 yX2_isInLoop, Cond.instanceMethod yX2_isInLoop, Cond.selects RX2 yX2_isInLoop yX2_isInLoop, Cond.code yX2_isInLoop cX2_isInLoop 2 (some .boolean), Cond.methodLink RX2 71 yX1_add, Cond.instanceMethod yX1_add, Cond.selects RX1 yX1_add yX1_add, Cond.code yX1_add cX1_add 2 none, Cond.methodLink RX1 25 yX1_isFilled, Cond.instanceMethod yX1_isFilled, Cond.selects RX1 yX1_isFilled yX1_isFilled, Cond.code yX1_isFilled cX1_isFilled 1 (some .boolean), Cond.methodLink RX2 198 yX1_clear, Cond.instanceMethod yX1_clear, Cond.selects RX1 yX1_clear yX1_clear]
def wsX2_retrack_r3 : List Cond := [Cond.code yX1_clear cX1_clear 1 none]
def wsX2_retrack : List Cond := .code yX2_retrack cX2_retrack 3 (some .int) :: ((wsX2_retrack_r1 ++ (wsX2_retrack_r2 ++ wsX2_retrack_r3)) ++ wsX20 ++ wsX10 ++ wsX00 ++ (vx_atS RX2 103 "java/lang/IllegalStateException" ["java/lang/RuntimeException", "java/lang/Exception"]).filter goodWord)
def wsX2_manual_r1 : List Cond := [Cond.classLink RX2 99 "java/lang/IllegalStateException", Cond.initialized "java/lang/IllegalStateException", Cond.fieldLink RX2 123 "SorterSteps$Item" "state" "I", Cond.methodLink RX2 78 yX2_itemNumbered, Cond.instanceMethod yX2_itemNumbered, Cond.selects RX2 yX2_itemNumbered yX2_itemNumbered, Cond.initialized RX2, Cond.code yX2_itemNumbered cX2_itemNumbered 3 (some (.object "SorterSteps$Item")), Cond.classLink RX2 82 "java/lang/IllegalArgumentException", Cond.initialized "java/lang/IllegalArgumentException", Cond.fieldLink RX2 14 "SorterSteps" "items" "LSorterSteps$ItemRow;", Cond.methodLink RX2 141 yX1_at, Cond.instanceMethod yX1_at, Cond.selects RX1 yX1_at yX1_at, Cond.initialized RX1, Cond.code yX1_at cX1_at 2 (some (.object "SorterSteps$Item")), Cond.fieldLink RX1 21 "SorterSteps$ItemRow" "size" "I", Cond.fieldLink RX1 15 "SorterSteps$ItemRow" "places" "[LSorterSteps$Item;", Cond.methodLink RX2 157 yX2_requireChute, Cond.instanceMethod yX2_requireChute, Cond.selects RX2 yX2_requireChute yX2_requireChute, Cond.code yX2_requireChute cX2_requireChute 2 none, Cond.methodLink RX2 225 yX2_isChute, Cond.instanceMethod yX2_isChute]
def wsX2_manual_r2 : List Cond := [Cond.selects RX2 yX2_isChute yX2_isChute, Cond.code yX2_isChute cX2_isChute 2 (some .boolean), Cond.fieldLink RX2 43 "SorterSteps" "fullChutes" "[Z", Cond.methodLink RX2 160 yX2_isFull, Cond.instanceMethod yX2_isFull, Cond.selects RX2 yX2_isFull yX2_isFull, Cond.code yX2_isFull cX2_isFull 2 (some .boolean)]
def wsX2_manual : List Cond := .code yX2_manual cX2_manual 4 (some .boolean) :: ((wsX2_manual_r1 ++ wsX2_manual_r2) ++ wsX00 ++ wsX20 ++ wsX10 ++ (vx_atS RX2 103 "java/lang/IllegalStateException" ["java/lang/RuntimeException", "java/lang/Exception"]).filter goodWord ++ (vx_atS RX2 86 "java/lang/IllegalArgumentException" ["java/lang/RuntimeException", "java/lang/Exception"]).filter goodWord)
def wsX2_tray : List Cond := .code yX2_tray cX2_tray 3 (some .int) :: ([.classLink RX2 203 RJx00060, .instantiable RJx00060 6, .initialized RJx00060, .fieldLink RX2 39 "SorterSteps" "onTrays" "[LSorterSteps$Item;", .fieldLink RX2 75 "SorterSteps$Item" "number" "I", .methodLink RX2 168 yX2_isInLoop, .instanceMethod yX2_isInLoop, .selects RX2 yX2_isInLoop yX2_isInLoop, .initialized RX2, .code yX2_isInLoop cX2_isInLoop 2 (some .boolean)] ++ wsJx000600 ++ wsX20 ++ wsX00)
def wsX2_positionOf : List Cond := .code yX2_positionOf cX2_positionOf 2 (some .int) :: ([.fieldLink RX2 115 "SorterSteps$Item" "tray" "I", .fieldLink RX2 238 "SorterSteps" "positionOfFirstTray" "I", .methodLink RX2 177 yX2_intoLoop, .instanceMethod yX2_intoLoop, .selects RX2 yX2_intoLoop yX2_intoLoop, .initialized RX2, .code yX2_intoLoop cX2_intoLoop 2 (some .int), .fieldLink RX2 39 "SorterSteps" "onTrays" "[LSorterSteps$Item;"] ++ wsX00 ++ wsX20)
def wsX2_told_r1 : List Cond := [Cond.classLink RX2 82 "java/lang/IllegalArgumentException", Cond.initialized "java/lang/IllegalArgumentException", Cond.fieldLink RX2 123 "SorterSteps$Item" "state" "I", Cond.fieldLink RX2 104 "SorterSteps$Item" "code" "I", Cond.fieldLink RX2 152 "SorterSteps$Item" "rounds" "I", Cond.fieldLink RX2 118 "SorterSteps$Item" "length" "I", Cond.fieldLink RX2 115 "SorterSteps$Item" "tray" "I", Cond.fieldLink RX2 130 "SorterSteps$Item" "retries" "I", Cond.methodLink RX2 78 yX2_itemNumbered, Cond.instanceMethod yX2_itemNumbered, Cond.selects RX2 yX2_itemNumbered yX2_itemNumbered, Cond.initialized RX2, Cond.code yX2_itemNumbered cX2_itemNumbered 3 (some (.object "SorterSteps$Item")), Cond.fieldLink RX2 14 "SorterSteps" "items" "LSorterSteps$ItemRow;", Cond.methodLink RX2 141 yX1_at, Cond.instanceMethod yX1_at, Cond.selects RX1 yX1_at yX1_at, Cond.initialized RX1, Cond.code yX1_at cX1_at 2 (some (.object "SorterSteps$Item")), Cond.fieldLink RX1 21 "SorterSteps$ItemRow" "size" "I", Cond.fieldLink RX1 15 "SorterSteps$ItemRow" "places" "[LSorterSteps$Item;", Cond.methodLink RX2 208 yX2_positionOf, Cond.instanceMethod yX2_positionOf, Cond.selects RX2 yX2_positionOf yX2_positionOf]
def wsX2_told_r2 : List Cond := [Cond.code yX2_positionOf cX2_positionOf 2 (some .int), Cond.fieldLink RX2 238 "SorterSteps" "positionOfFirstTray" "I", Cond.methodLink RX2 177 yX2_intoLoop, Cond.instanceMethod yX2_intoLoop, Cond.selects RX2 yX2_intoLoop yX2_intoLoop, Cond.code yX2_intoLoop cX2_intoLoop 2 (some .int), Cond.fieldLink RX2 39 "SorterSteps" "onTrays" "[LSorterSteps$Item;"]
def wsX2_told : List Cond := .code yX2_told cX2_told 4 (some .int) :: ((wsX2_told_r1 ++ wsX2_told_r2) ++ wsX00 ++ wsX20 ++ wsX10 ++ (vx_atS RX2 86 "java/lang/IllegalArgumentException" ["java/lang/RuntimeException", "java/lang/Exception"]).filter goodWord)
def wsX2_countEmptyTrays : List Cond := .code yX2_countEmptyTrays cX2_countEmptyTrays 6 (some .int) :: ([.fieldLink RX2 39 "SorterSteps" "onTrays" "[LSorterSteps$Item;"] ++ wsX20)
def wsX2_countOut : List Cond := .code yX2_countOut cX2_countOut 4 (some .int) :: ([.fieldLink RX2 14 "SorterSteps" "items" "LSorterSteps$ItemRow;", .fieldLink RX2 123 "SorterSteps$Item" "state" "I", .methodLink RX2 64 yX1_size, .instanceMethod yX1_size, .selects RX1 yX1_size yX1_size, .initialized RX1, .code yX1_size cX1_size 1 (some .int), .fieldLink RX1 21 "SorterSteps$ItemRow" "size" "I", .methodLink RX2 141 yX1_at, .instanceMethod yX1_at, .selects RX1 yX1_at yX1_at, .code yX1_at cX1_at 2 (some (.object "SorterSteps$Item")), .fieldLink RX1 15 "SorterSteps$ItemRow" "places" "[LSorterSteps$Item;"] ++ wsX20 ++ wsX00 ++ wsX10)
def wsX2_count_r1 : List Cond := [Cond.fieldLink RX2 39 "SorterSteps" "onTrays" "[LSorterSteps$Item;", Cond.fieldLink RX2 14 "SorterSteps" "items" "LSorterSteps$ItemRow;", Cond.fieldLink RX2 215 "SorterSteps" "steps" "I", Cond.fieldLink RX2 43 "SorterSteps" "fullChutes" "[Z", Cond.fieldLink RX2 173 "SorterSteps" "jammed" "Z", Cond.methodLink RX2 64 yX1_size, Cond.instanceMethod yX1_size, Cond.selects RX1 yX1_size yX1_size, Cond.initialized RX1, Cond.code yX1_size cX1_size 1 (some .int), Cond.fieldLink RX1 21 "SorterSteps$ItemRow" "size" "I", Cond.methodLink RX2 212 yX2_countEmptyTrays, Cond.instanceMethod yX2_countEmptyTrays, Cond.selects RX2 yX2_countEmptyTrays yX2_countEmptyTrays, Cond.initialized RX2, Cond.code yX2_countEmptyTrays cX2_countEmptyTrays 6 (some .int), Cond.methodLink RX2 218 yX2_countOut, Cond.instanceMethod yX2_countOut, Cond.selects RX2 yX2_countOut yX2_countOut, Cond.code yX2_countOut cX2_countOut 4 (some .int), Cond.fieldLink RX2 123 "SorterSteps$Item" "state" "I", Cond.methodLink RX2 141 yX1_at, Cond.instanceMethod yX1_at, Cond.selects RX1 yX1_at yX1_at]
def wsX2_count_r2 : List Cond := [Cond.code yX1_at cX1_at 2 (some (.object "SorterSteps$Item")), Cond.fieldLink RX1 15 "SorterSteps$ItemRow" "places" "[LSorterSteps$Item;"]
def wsX2_count : List Cond := .code yX2_count cX2_count 2 (some .int) :: ((wsX2_count_r1 ++ wsX2_count_r2) ++ wsX20 ++ wsX10 ++ wsX00)
def wsX3_init : List Cond := .code yX3_init cX3_init 3 none :: ([.methodLink RX3 1 objectInit, .instanceMethod objectInit, .code objectInit ⟨#[0xb1]⟩ 1 none, .fieldLink RX3 7 "SorterStepsModel" "longest" "I", .arrayClass .int, .fieldLink RX3 13 "SorterStepsModel" "on" "[I", .arrayClass .boolean, .fieldLink RX3 17 "SorterStepsModel" "full" "[Z", .fieldLink RX3 21 "SorterStepsModel" "length" "[I", .fieldLink RX3 24 "SorterStepsModel" "state" "[I", .fieldLink RX3 27 "SorterStepsModel" "way" "[I", .fieldLink RX3 30 "SorterStepsModel" "rounds" "[I", .fieldLink RX3 33 "SorterStepsModel" "retries" "[I", .fieldLink RX3 36 "SorterStepsModel" "later" "[I", .fieldLink RX3 39 "SorterStepsModel" "leftItem" "[I", .fieldLink RX3 42 "SorterStepsModel" "leftChute" "[I", .fieldLink RX3 45 "SorterStepsModel" "leftStep" "[I", .fieldLink RX3 48 "SorterStepsModel" "leftRounds" "[I", .fieldLink RX3 51 "SorterStepsModel" "doubted" "[I", .fieldLink RX3 54 "SorterStepsModel" "isFound" "[Z", .fieldLink RX3 57 "SorterStepsModel" "trays" "I", .fieldLink RX3 60 "SorterStepsModel" "most" "I"] ++ wsX30)
def wsX3_thrown : List Cond := .code yX3_thrown cX3_thrown 1 (some .int) :: ([.fieldLink RX3 63 "SorterStepsModel" "code" "I"] ++ wsX30)
def wsX3_in : List Cond := .code yX3_in cX3_in 3 (some .boolean) :: ([])
def wsX3_isItem : List Cond := .code yX3_isItem cX3_isItem 2 (some .boolean) :: ([.fieldLink RX3 66 "SorterStepsModel" "items" "I", .methodLink RX3 69 yX3_in, .static yX3_in, .initialized RX3, .code yX3_in cX3_in 3 (some .boolean)] ++ wsX30)
def wsX3_chutes : List Cond := .code yX3_chutes cX3_chutes 1 (some .int) :: ([.fieldLink RX3 57 "SorterStepsModel" "trays" "I"] ++ wsX30)
def wsX3_isChute : List Cond := .code yX3_isChute cX3_isChute 2 (some .boolean) :: ([.methodLink RX3 73 yX3_chutes, .instanceMethod yX3_chutes, .selects RX3 yX3_chutes yX3_chutes, .initialized RX3, .code yX3_chutes cX3_chutes 1 (some .int), .fieldLink RX3 57 "SorterStepsModel" "trays" "I", .methodLink RX3 69 yX3_in, .static yX3_in, .code yX3_in cX3_in 3 (some .boolean)] ++ wsX30)
def wsX3_isCode : List Cond := .code yX3_isCode cX3_isCode 2 (some .boolean) :: ([.methodLink RX3 77 yX3_isChute, .instanceMethod yX3_isChute, .selects RX3 yX3_isChute yX3_isChute, .initialized RX3, .code yX3_isChute cX3_isChute 2 (some .boolean), .methodLink RX3 73 yX3_chutes, .instanceMethod yX3_chutes, .selects RX3 yX3_chutes yX3_chutes, .code yX3_chutes cX3_chutes 1 (some .int), .fieldLink RX3 57 "SorterStepsModel" "trays" "I", .methodLink RX3 69 yX3_in, .static yX3_in, .code yX3_in cX3_in 3 (some .boolean)] ++ wsX30)
def wsX3_trayAt : List Cond := .code yX3_trayAt cX3_trayAt 2 (some .int) :: ([.fieldLink RX3 57 "SorterStepsModel" "trays" "I", .fieldLink RX3 81 "SorterStepsModel" "steps" "I"] ++ wsX30)
def wsX3_trayOf : List Cond := .code yX3_trayOf cX3_trayOf 3 (some .int) :: ([.fieldLink RX3 57 "SorterStepsModel" "trays" "I", .fieldLink RX3 13 "SorterStepsModel" "on" "[I"] ++ wsX30)
def wsX3_item : List Cond := .code yX3_item cX3_item 2 (some .int) :: ([.fieldLink RX3 66 "SorterStepsModel" "items" "I", .fieldLink RX3 63 "SorterStepsModel" "code" "I", .fieldLink RX3 21 "SorterStepsModel" "length" "[I", .methodLink RX3 69 yX3_in, .static yX3_in, .initialized RX3, .code yX3_in cX3_in 3 (some .boolean)] ++ wsX30)
def wsX3_induct_r1 : List Cond := [Cond.fieldLink RX3 63 "SorterStepsModel" "code" "I", Cond.fieldLink RX3 24 "SorterStepsModel" "state" "[I", Cond.fieldLink RX3 13 "SorterStepsModel" "on" "[I", Cond.fieldLink RX3 94 "SorterStepsModel" "jammed" "Z", Cond.fieldLink RX3 21 "SorterStepsModel" "length" "[I", Cond.fieldLink RX3 7 "SorterStepsModel" "longest" "I", Cond.fieldLink RX3 27 "SorterStepsModel" "way" "[I", Cond.methodLink RX3 84 yX3_isItem, Cond.instanceMethod yX3_isItem, Cond.selects RX3 yX3_isItem yX3_isItem, Cond.initialized RX3, Cond.code yX3_isItem cX3_isItem 2 (some .boolean), Cond.fieldLink RX3 66 "SorterStepsModel" "items" "I", Cond.methodLink RX3 69 yX3_in, Cond.static yX3_in, Cond.code yX3_in cX3_in 3 (some .boolean), Cond.methodLink RX3 87 yX3_isCode, Cond.instanceMethod yX3_isCode, Cond.selects RX3 yX3_isCode yX3_isCode, Cond.code yX3_isCode cX3_isCode 2 (some .boolean), Cond.methodLink RX3 77 yX3_isChute, Cond.instanceMethod yX3_isChute, Cond.selects RX3 yX3_isChute yX3_isChute, Cond.code yX3_isChute cX3_isChute 2 (some .boolean)]
def wsX3_induct_r2 : List Cond := [Cond.methodLink RX3 73 yX3_chutes, Cond.instanceMethod yX3_chutes, Cond.selects RX3 yX3_chutes yX3_chutes, Cond.code yX3_chutes cX3_chutes 1 (some .int), Cond.fieldLink RX3 57 "SorterStepsModel" "trays" "I", Cond.methodLink RX3 90 yX3_trayAt, Cond.instanceMethod yX3_trayAt, Cond.selects RX3 yX3_trayAt yX3_trayAt, Cond.code yX3_trayAt cX3_trayAt 2 (some .int), Cond.fieldLink RX3 81 "SorterStepsModel" "steps" "I"]
def wsX3_induct : List Cond := .code yX3_induct cX3_induct 4 (some .int) :: ((wsX3_induct_r1 ++ wsX3_induct_r2) ++ wsX30)
def wsX3_length : List Cond := .code yX3_length cX3_length 4 (some .int) :: ([.fieldLink RX3 63 "SorterStepsModel" "code" "I", .fieldLink RX3 7 "SorterStepsModel" "longest" "I", .fieldLink RX3 57 "SorterStepsModel" "trays" "I", .fieldLink RX3 13 "SorterStepsModel" "on" "[I", .fieldLink RX3 21 "SorterStepsModel" "length" "[I", .methodLink RX3 69 yX3_in, .static yX3_in, .initialized RX3, .code yX3_in cX3_in 3 (some .boolean)] ++ wsX30)
def wsX3_retry_r1 : List Cond := [Cond.fieldLink RX3 63 "SorterStepsModel" "code" "I", Cond.fieldLink RX3 24 "SorterStepsModel" "state" "[I", Cond.fieldLink RX3 27 "SorterStepsModel" "way" "[I", Cond.fieldLink RX3 33 "SorterStepsModel" "retries" "[I", Cond.fieldLink RX3 36 "SorterStepsModel" "later" "[I", Cond.methodLink RX3 84 yX3_isItem, Cond.instanceMethod yX3_isItem, Cond.selects RX3 yX3_isItem yX3_isItem, Cond.initialized RX3, Cond.code yX3_isItem cX3_isItem 2 (some .boolean), Cond.fieldLink RX3 66 "SorterStepsModel" "items" "I", Cond.methodLink RX3 69 yX3_in, Cond.static yX3_in, Cond.code yX3_in cX3_in 3 (some .boolean), Cond.methodLink RX3 87 yX3_isCode, Cond.instanceMethod yX3_isCode, Cond.selects RX3 yX3_isCode yX3_isCode, Cond.code yX3_isCode cX3_isCode 2 (some .boolean), Cond.methodLink RX3 77 yX3_isChute, Cond.instanceMethod yX3_isChute, Cond.selects RX3 yX3_isChute yX3_isChute, Cond.code yX3_isChute cX3_isChute 2 (some .boolean), Cond.methodLink RX3 73 yX3_chutes, Cond.instanceMethod yX3_chutes]
def wsX3_retry_r2 : List Cond := [Cond.selects RX3 yX3_chutes yX3_chutes, Cond.code yX3_chutes cX3_chutes 1 (some .int), Cond.fieldLink RX3 57 "SorterStepsModel" "trays" "I"]
def wsX3_retry : List Cond := .code yX3_retry cX3_retry 4 none :: ((wsX3_retry_r1 ++ wsX3_retry_r2) ++ wsX30)
def wsX3_leave : List Cond := .code yX3_leave cX3_leave 5 none :: ([.fieldLink RX3 13 "SorterStepsModel" "on" "[I", .fieldLink RX3 24 "SorterStepsModel" "state" "[I", .fieldLink RX3 39 "SorterStepsModel" "leftItem" "[I", .fieldLink RX3 98 "SorterStepsModel" "left" "I", .fieldLink RX3 42 "SorterStepsModel" "leftChute" "[I", .fieldLink RX3 45 "SorterStepsModel" "leftStep" "[I", .fieldLink RX3 81 "SorterStepsModel" "steps" "I", .fieldLink RX3 48 "SorterStepsModel" "leftRounds" "[I", .fieldLink RX3 30 "SorterStepsModel" "rounds" "[I"] ++ wsX30)
def wsX3_atChute : List Cond := .code yX3_atChute cX3_atChute 4 none :: ([.fieldLink RX3 13 "SorterStepsModel" "on" "[I", .fieldLink RX3 27 "SorterStepsModel" "way" "[I", .fieldLink RX3 17 "SorterStepsModel" "full" "[Z", .fieldLink RX3 30 "SorterStepsModel" "rounds" "[I", .fieldLink RX3 60 "SorterStepsModel" "most" "I", .methodLink RX3 90 yX3_trayAt, .instanceMethod yX3_trayAt, .selects RX3 yX3_trayAt yX3_trayAt, .initialized RX3, .code yX3_trayAt cX3_trayAt 2 (some .int), .fieldLink RX3 57 "SorterStepsModel" "trays" "I", .fieldLink RX3 81 "SorterStepsModel" "steps" "I", .methodLink RX3 101 yX3_leave, .instanceMethod yX3_leave, .selects RX3 yX3_leave yX3_leave, .code yX3_leave cX3_leave 5 none, .fieldLink RX3 24 "SorterStepsModel" "state" "[I", .fieldLink RX3 39 "SorterStepsModel" "leftItem" "[I", .fieldLink RX3 98 "SorterStepsModel" "left" "I", .fieldLink RX3 42 "SorterStepsModel" "leftChute" "[I", .fieldLink RX3 45 "SorterStepsModel" "leftStep" "[I", .fieldLink RX3 48 "SorterStepsModel" "leftRounds" "[I"] ++ wsX30)
def wsX3_atReader : List Cond := .code yX3_atReader cX3_atReader 3 none :: ([.fieldLink RX3 13 "SorterStepsModel" "on" "[I", .fieldLink RX3 27 "SorterStepsModel" "way" "[I", .fieldLink RX3 33 "SorterStepsModel" "retries" "[I", .fieldLink RX3 36 "SorterStepsModel" "later" "[I", .methodLink RX3 90 yX3_trayAt, .instanceMethod yX3_trayAt, .selects RX3 yX3_trayAt yX3_trayAt, .initialized RX3, .code yX3_trayAt cX3_trayAt 2 (some .int), .fieldLink RX3 57 "SorterStepsModel" "trays" "I", .fieldLink RX3 81 "SorterStepsModel" "steps" "I", .methodLink RX3 101 yX3_leave, .instanceMethod yX3_leave, .selects RX3 yX3_leave yX3_leave, .code yX3_leave cX3_leave 5 none, .fieldLink RX3 24 "SorterStepsModel" "state" "[I", .fieldLink RX3 39 "SorterStepsModel" "leftItem" "[I", .fieldLink RX3 98 "SorterStepsModel" "left" "I", .fieldLink RX3 42 "SorterStepsModel" "leftChute" "[I", .fieldLink RX3 45 "SorterStepsModel" "leftStep" "[I", .fieldLink RX3 48 "SorterStepsModel" "leftRounds" "[I", .fieldLink RX3 30 "SorterStepsModel" "rounds" "[I"] ++ wsX30)
def wsX3_step_r1 : List Cond := [Cond.fieldLink RX3 94 "SorterStepsModel" "jammed" "Z", Cond.fieldLink RX3 63 "SorterStepsModel" "code" "I", Cond.fieldLink RX3 98 "SorterStepsModel" "left" "I", Cond.fieldLink RX3 81 "SorterStepsModel" "steps" "I", Cond.methodLink RX3 69 yX3_in, Cond.static yX3_in, Cond.initialized RX3, Cond.code yX3_in cX3_in 3 (some .boolean), Cond.methodLink RX3 73 yX3_chutes, Cond.instanceMethod yX3_chutes, Cond.selects RX3 yX3_chutes yX3_chutes, Cond.code yX3_chutes cX3_chutes 1 (some .int), Cond.fieldLink RX3 57 "SorterStepsModel" "trays" "I", Cond.methodLink RX3 105 yX3_atChute, Cond.instanceMethod yX3_atChute, Cond.selects RX3 yX3_atChute yX3_atChute, Cond.code yX3_atChute cX3_atChute 4 none, Cond.fieldLink RX3 13 "SorterStepsModel" "on" "[I", Cond.fieldLink RX3 27 "SorterStepsModel" "way" "[I", Cond.fieldLink RX3 17 "SorterStepsModel" "full" "[Z", Cond.fieldLink RX3 30 "SorterStepsModel" "rounds" "[I", Cond.fieldLink RX3 60 "SorterStepsModel" "most" "I", Cond.methodLink RX3 90 yX3_trayAt, Cond.instanceMethod yX3_trayAt]
def wsX3_step_r2 : List Cond := [Cond.selects RX3 yX3_trayAt yX3_trayAt, Cond.code yX3_trayAt cX3_trayAt 2 (some .int), Cond.methodLink RX3 101 yX3_leave, Cond.instanceMethod yX3_leave, Cond.selects RX3 yX3_leave yX3_leave, Cond.code yX3_leave cX3_leave 5 none, Cond.fieldLink RX3 24 "SorterStepsModel" "state" "[I", Cond.fieldLink RX3 39 "SorterStepsModel" "leftItem" "[I", Cond.fieldLink RX3 42 "SorterStepsModel" "leftChute" "[I", Cond.fieldLink RX3 45 "SorterStepsModel" "leftStep" "[I", Cond.fieldLink RX3 48 "SorterStepsModel" "leftRounds" "[I", Cond.methodLink RX3 109 yX3_atReader, Cond.instanceMethod yX3_atReader, Cond.selects RX3 yX3_atReader yX3_atReader, Cond.code yX3_atReader cX3_atReader 3 none, Cond.fieldLink RX3 33 "SorterStepsModel" "retries" "[I", Cond.fieldLink RX3 36 "SorterStepsModel" "later" "[I"]
def wsX3_step : List Cond := .code yX3_step cX3_step 5 (some .int) :: ((wsX3_step_r1 ++ wsX3_step_r2) ++ wsX30)
def wsX3_out : List Cond := .code yX3_out cX3_out 3 (some .int) :: ([.fieldLink RX3 98 "SorterStepsModel" "left" "I", .fieldLink RX3 63 "SorterStepsModel" "code" "I", .fieldLink RX3 39 "SorterStepsModel" "leftItem" "[I", .fieldLink RX3 42 "SorterStepsModel" "leftChute" "[I", .fieldLink RX3 45 "SorterStepsModel" "leftStep" "[I", .fieldLink RX3 48 "SorterStepsModel" "leftRounds" "[I", .methodLink RX3 69 yX3_in, .static yX3_in, .initialized RX3, .code yX3_in cX3_in 3 (some .boolean)] ++ wsX30)
def wsX3_chute : List Cond := .code yX3_chute cX3_chute 4 (some .boolean) :: ([.fieldLink RX3 63 "SorterStepsModel" "code" "I", .fieldLink RX3 17 "SorterStepsModel" "full" "[Z", .methodLink RX3 77 yX3_isChute, .instanceMethod yX3_isChute, .selects RX3 yX3_isChute yX3_isChute, .initialized RX3, .code yX3_isChute cX3_isChute 2 (some .boolean), .methodLink RX3 73 yX3_chutes, .instanceMethod yX3_chutes, .selects RX3 yX3_chutes yX3_chutes, .code yX3_chutes cX3_chutes 1 (some .int), .fieldLink RX3 57 "SorterStepsModel" "trays" "I", .methodLink RX3 69 yX3_in, .static yX3_in, .code yX3_in cX3_in 3 (some .boolean)] ++ wsX30)
def wsX3_jam : List Cond := .code yX3_jam cX3_jam 6 (some .int) :: ([.fieldLink RX3 57 "SorterStepsModel" "trays" "I", .fieldLink RX3 94 "SorterStepsModel" "jammed" "Z", .fieldLink RX3 63 "SorterStepsModel" "code" "I", .fieldLink RX3 112 "SorterStepsModel" "doubts" "I", .fieldLink RX3 13 "SorterStepsModel" "on" "[I", .fieldLink RX3 51 "SorterStepsModel" "doubted" "[I", .fieldLink RX3 54 "SorterStepsModel" "isFound" "[Z", .methodLink RX3 69 yX3_in, .static yX3_in, .initialized RX3, .code yX3_in cX3_in 3 (some .boolean), .methodLink RX3 90 yX3_trayAt, .instanceMethod yX3_trayAt, .selects RX3 yX3_trayAt yX3_trayAt, .code yX3_trayAt cX3_trayAt 2 (some .int), .fieldLink RX3 81 "SorterStepsModel" "steps" "I"] ++ wsX30)
def wsX3_doubt : List Cond := .code yX3_doubt cX3_doubt 2 (some .int) :: ([.fieldLink RX3 63 "SorterStepsModel" "code" "I", .fieldLink RX3 112 "SorterStepsModel" "doubts" "I", .fieldLink RX3 51 "SorterStepsModel" "doubted" "[I", .methodLink RX3 69 yX3_in, .static yX3_in, .initialized RX3, .code yX3_in cX3_in 3 (some .boolean)] ++ wsX30)
def wsX3_found : List Cond := .code yX3_found cX3_found 6 (some .int) :: ([.fieldLink RX3 63 "SorterStepsModel" "code" "I", .fieldLink RX3 112 "SorterStepsModel" "doubts" "I", .fieldLink RX3 51 "SorterStepsModel" "doubted" "[I", .fieldLink RX3 54 "SorterStepsModel" "isFound" "[Z", .methodLink RX3 84 yX3_isItem, .instanceMethod yX3_isItem, .selects RX3 yX3_isItem yX3_isItem, .initialized RX3, .code yX3_isItem cX3_isItem 2 (some .boolean), .fieldLink RX3 66 "SorterStepsModel" "items" "I", .methodLink RX3 69 yX3_in, .static yX3_in, .code yX3_in cX3_in 3 (some .boolean)] ++ wsX30)
def wsX3_retrack : List Cond := .code yX3_retrack cX3_retrack 3 (some .int) :: ([.fieldLink RX3 94 "SorterStepsModel" "jammed" "Z", .fieldLink RX3 63 "SorterStepsModel" "code" "I", .fieldLink RX3 98 "SorterStepsModel" "left" "I", .fieldLink RX3 112 "SorterStepsModel" "doubts" "I", .fieldLink RX3 54 "SorterStepsModel" "isFound" "[Z", .fieldLink RX3 51 "SorterStepsModel" "doubted" "[I", .methodLink RX3 115 yX3_trayOf, .instanceMethod yX3_trayOf, .selects RX3 yX3_trayOf yX3_trayOf, .initialized RX3, .code yX3_trayOf cX3_trayOf 3 (some .int), .fieldLink RX3 57 "SorterStepsModel" "trays" "I", .fieldLink RX3 13 "SorterStepsModel" "on" "[I", .methodLink RX3 101 yX3_leave, .instanceMethod yX3_leave, .selects RX3 yX3_leave yX3_leave, .code yX3_leave cX3_leave 5 none, .fieldLink RX3 24 "SorterStepsModel" "state" "[I", .fieldLink RX3 39 "SorterStepsModel" "leftItem" "[I", .fieldLink RX3 42 "SorterStepsModel" "leftChute" "[I", .fieldLink RX3 45 "SorterStepsModel" "leftStep" "[I", .fieldLink RX3 81 "SorterStepsModel" "steps" "I", .fieldLink RX3 48 "SorterStepsModel" "leftRounds" "[I", .fieldLink RX3 30 "SorterStepsModel" "rounds" "[I"] ++ wsX30)
def wsX3_manual : List Cond := .code yX3_manual cX3_manual 3 (some .boolean) :: ([.fieldLink RX3 63 "SorterStepsModel" "code" "I", .fieldLink RX3 24 "SorterStepsModel" "state" "[I", .fieldLink RX3 17 "SorterStepsModel" "full" "[Z", .methodLink RX3 84 yX3_isItem, .instanceMethod yX3_isItem, .selects RX3 yX3_isItem yX3_isItem, .initialized RX3, .code yX3_isItem cX3_isItem 2 (some .boolean), .fieldLink RX3 66 "SorterStepsModel" "items" "I", .methodLink RX3 69 yX3_in, .static yX3_in, .code yX3_in cX3_in 3 (some .boolean), .methodLink RX3 77 yX3_isChute, .instanceMethod yX3_isChute, .selects RX3 yX3_isChute yX3_isChute, .code yX3_isChute cX3_isChute 2 (some .boolean), .methodLink RX3 73 yX3_chutes, .instanceMethod yX3_chutes, .selects RX3 yX3_chutes yX3_chutes, .code yX3_chutes cX3_chutes 1 (some .int), .fieldLink RX3 57 "SorterStepsModel" "trays" "I"] ++ wsX30)
def wsX3_tray : List Cond := .code yX3_tray cX3_tray 2 (some .int) :: ([.fieldLink RX3 57 "SorterStepsModel" "trays" "I", .fieldLink RX3 63 "SorterStepsModel" "code" "I", .fieldLink RX3 13 "SorterStepsModel" "on" "[I", .methodLink RX3 69 yX3_in, .static yX3_in, .initialized RX3, .code yX3_in cX3_in 3 (some .boolean)] ++ wsX30)
def wsX3_told : List Cond := .code yX3_told cX3_told 4 (some .int) :: ([.fieldLink RX3 63 "SorterStepsModel" "code" "I", .fieldLink RX3 24 "SorterStepsModel" "state" "[I", .fieldLink RX3 27 "SorterStepsModel" "way" "[I", .fieldLink RX3 30 "SorterStepsModel" "rounds" "[I", .fieldLink RX3 21 "SorterStepsModel" "length" "[I", .fieldLink RX3 33 "SorterStepsModel" "retries" "[I", .fieldLink RX3 81 "SorterStepsModel" "steps" "I", .fieldLink RX3 57 "SorterStepsModel" "trays" "I", .methodLink RX3 84 yX3_isItem, .instanceMethod yX3_isItem, .selects RX3 yX3_isItem yX3_isItem, .initialized RX3, .code yX3_isItem cX3_isItem 2 (some .boolean), .fieldLink RX3 66 "SorterStepsModel" "items" "I", .methodLink RX3 69 yX3_in, .static yX3_in, .code yX3_in cX3_in 3 (some .boolean), .methodLink RX3 115 yX3_trayOf, .instanceMethod yX3_trayOf, .selects RX3 yX3_trayOf yX3_trayOf, .code yX3_trayOf cX3_trayOf 3 (some .int), .fieldLink RX3 13 "SorterStepsModel" "on" "[I"] ++ wsX30)
def wsX3_count : List Cond := .code yX3_count cX3_count 4 (some .int) :: ([.fieldLink RX3 63 "SorterStepsModel" "code" "I", .fieldLink RX3 57 "SorterStepsModel" "trays" "I", .fieldLink RX3 66 "SorterStepsModel" "items" "I", .fieldLink RX3 81 "SorterStepsModel" "steps" "I", .fieldLink RX3 94 "SorterStepsModel" "jammed" "Z", .fieldLink RX3 13 "SorterStepsModel" "on" "[I", .fieldLink RX3 24 "SorterStepsModel" "state" "[I", .methodLink RX3 73 yX3_chutes, .instanceMethod yX3_chutes, .selects RX3 yX3_chutes yX3_chutes, .initialized RX3, .code yX3_chutes cX3_chutes 1 (some .int)] ++ wsX30)
def wsJx00060_init_a7421 : List Cond := .code yJx00060_init_a7421 cJx00060_init_a7421 2 none :: ([])
def wsJ9_max_7cf53 : List Cond := .code yJ9_max_7cf53 cJ9_max_7cf53 2 (some .int) :: ([])
def wsJ9_min_7cf53 : List Cond := .code yJ9_min_7cf53 cJ9_min_7cf53 2 (some .int) :: ([])
def wsL_cell : List Cond := .code yL_cell cL_cell 2 (some .int) :: ([])
def wsL_item_r1 : List Cond := [Cond.classLink RL 13 "java/lang/IllegalArgumentException", Cond.classLink RL 15 "java/lang/UnsupportedOperationException", Cond.methodLink RL 7 yX2_item, Cond.instanceMethod yX2_item, Cond.selects RX2 yX2_item yX2_item, Cond.initialized RX2, Cond.code yX2_item cX2_item 3 (some .int), Cond.classLink RX2 57 "java/lang/UnsupportedOperationException", Cond.initialized "java/lang/UnsupportedOperationException", Cond.fieldLink RX2 14 "SorterSteps" "items" "LSorterSteps$ItemRow;", Cond.classLink RX2 37 RX0, Cond.instantiable RX0 12, Cond.initialized RX0, Cond.fieldLink RX2 75 "SorterSteps$Item" "number" "I", Cond.methodLink RX2 50 yX2_requireLength, Cond.instanceMethod yX2_requireLength, Cond.selects RX2 yX2_requireLength yX2_requireLength, Cond.code yX2_requireLength cX2_requireLength 2 none, Cond.classLink RX2 82 "java/lang/IllegalArgumentException", Cond.initialized "java/lang/IllegalArgumentException", Cond.methodLink RX2 53 yX1_isFilled, Cond.instanceMethod yX1_isFilled, Cond.selects RX1 yX1_isFilled yX1_isFilled, Cond.initialized RX1]
def wsL_item_r2 : List Cond := [Cond.code yX1_isFilled cX1_isFilled 1 (some .boolean), Cond.fieldLink RX1 21 "SorterSteps$ItemRow" "size" "I", Cond.fieldLink RX1 15 "SorterSteps$ItemRow" "places" "[LSorterSteps$Item;", Cond.methodLink RX2 64 yX1_size, Cond.instanceMethod yX1_size, Cond.selects RX1 yX1_size yX1_size, Cond.code yX1_size cX1_size 1 (some .int), Cond.methodLink RX2 68 yX0_init, Cond.instanceMethod yX0_init, Cond.code yX0_init cX0_init 3 none, Cond.methodLink RX0 3 objectInit, Cond.instanceMethod objectInit, Cond.code objectInit ⟨#[0xb1]⟩ 1 none, Cond.fieldLink RX0 9 "SorterSteps$Item" "state" "I", Cond.fieldLink RX0 15 "SorterSteps$Item" "code" "I", Cond.fieldLink RX0 18 "SorterSteps$Item" "tray" "I", Cond.fieldLink RX0 21 "SorterSteps$Item" "number" "I", Cond.fieldLink RX0 24 "SorterSteps$Item" "length" "I", Cond.methodLink RX2 71 yX1_add, Cond.instanceMethod yX1_add, Cond.selects RX1 yX1_add yX1_add, Cond.code yX1_add cX1_add 2 none, Cond.methodLink RX1 25 yX1_isFilled]
def wsL_item : List Cond := .codeWith yL_item cL_item 4 (some .int) [(0, 9, 12, 13), (0, 9, 15, 15)] :: ((wsL_item_r1 ++ wsL_item_r2) ++ wsX20 ++ wsX00 ++ wsX10 ++ (vx_atS RX2 61 "java/lang/UnsupportedOperationException" ["java/lang/RuntimeException", "java/lang/Exception"]).filter goodWord ++ (vx_atS RX2 86 "java/lang/IllegalArgumentException" ["java/lang/RuntimeException", "java/lang/Exception"]).filter goodWord)
def wsL_induct_r1 : List Cond := [Cond.classLink RL 13 "java/lang/IllegalArgumentException", Cond.classLink RL 21 "java/lang/IllegalStateException", Cond.methodLink RL 17 yX2_induct, Cond.instanceMethod yX2_induct, Cond.selects RX2 yX2_induct yX2_induct, Cond.initialized RX2, Cond.code yX2_induct cX2_induct 5 (some .int), Cond.classLink RX2 82 "java/lang/IllegalArgumentException", Cond.initialized "java/lang/IllegalArgumentException", Cond.classLink RX2 99 "java/lang/IllegalStateException", Cond.initialized "java/lang/IllegalStateException", Cond.fieldLink RX2 104 "SorterSteps$Item" "code" "I", Cond.fieldLink RX2 115 "SorterSteps$Item" "tray" "I", Cond.methodLink RX2 78 yX2_itemNumbered, Cond.instanceMethod yX2_itemNumbered, Cond.selects RX2 yX2_itemNumbered yX2_itemNumbered, Cond.code yX2_itemNumbered cX2_itemNumbered 3 (some (.object "SorterSteps$Item")), Cond.fieldLink RX2 14 "SorterSteps" "items" "LSorterSteps$ItemRow;", Cond.methodLink RX2 141 yX1_at, Cond.instanceMethod yX1_at, Cond.selects RX1 yX1_at yX1_at, Cond.initialized RX1, Cond.code yX1_at cX1_at 2 (some (.object "SorterSteps$Item")), Cond.fieldLink RX1 21 "SorterSteps$ItemRow" "size" "I"]
def wsL_induct_r2 : List Cond := [Cond.fieldLink RX1 15 "SorterSteps$ItemRow" "places" "[LSorterSteps$Item;", Cond.methodLink RX2 87 yX2_requireCode, Cond.instanceMethod yX2_requireCode, Cond.selects RX2 yX2_requireCode yX2_requireCode, Cond.code yX2_requireCode cX2_requireCode 2 none, Cond.methodLink RX2 225 yX2_isChute, Cond.instanceMethod yX2_isChute, Cond.selects RX2 yX2_isChute yX2_isChute, Cond.code yX2_isChute cX2_isChute 2 (some .boolean), Cond.fieldLink RX2 43 "SorterSteps" "fullChutes" "[Z", Cond.methodLink RX2 90 yX2_requireNotJammed, Cond.instanceMethod yX2_requireNotJammed, Cond.selects RX2 yX2_requireNotJammed yX2_requireNotJammed, Cond.code yX2_requireNotJammed cX2_requireNotJammed 1 none, Cond.fieldLink RX2 173 "SorterSteps" "jammed" "Z", Cond.methodLink RX2 93 yX2_requireFit, Cond.instanceMethod yX2_requireFit, Cond.selects RX2 yX2_requireFit yX2_requireFit, Cond.code yX2_requireFit cX2_requireFit 2 none, Cond.fieldLink RX2 123 "SorterSteps$Item" "state" "I", Cond.fieldLink RX2 118 "SorterSteps$Item" "length" "I", Cond.fieldLink RX2 24 "SorterSteps" "trayLength" "I", Cond.methodLink RX2 96 yX2_itemAt, Cond.instanceMethod yX2_itemAt]
def wsL_induct_r3 : List Cond := [Cond.selects RX2 yX2_itemAt yX2_itemAt, Cond.code yX2_itemAt cX2_itemAt 3 (some (.object "SorterSteps$Item")), Cond.fieldLink RX2 39 "SorterSteps" "onTrays" "[LSorterSteps$Item;", Cond.methodLink RX2 107 yX2_trayAt, Cond.instanceMethod yX2_trayAt, Cond.selects RX2 yX2_trayAt yX2_trayAt, Cond.code yX2_trayAt cX2_trayAt 2 (some .int), Cond.fieldLink RX2 238 "SorterSteps" "positionOfFirstTray" "I", Cond.methodLink RX2 177 yX2_intoLoop, Cond.instanceMethod yX2_intoLoop, Cond.selects RX2 yX2_intoLoop yX2_intoLoop, Cond.code yX2_intoLoop cX2_intoLoop 2 (some .int), Cond.methodLink RX2 168 yX2_isInLoop, Cond.instanceMethod yX2_isInLoop, Cond.selects RX2 yX2_isInLoop yX2_isInLoop, Cond.code yX2_isInLoop cX2_isInLoop 2 (some .boolean), Cond.methodLink RX2 111 yX2_putOnTray, Cond.instanceMethod yX2_putOnTray, Cond.selects RX2 yX2_putOnTray yX2_putOnTray, Cond.code yX2_putOnTray cX2_putOnTray 3 none]
def wsL_induct : List Cond := .codeWith yL_induct cL_induct 6 (some .int) [(0, 12, 15, 13), (0, 12, 19, 21)] :: ((wsL_induct_r1 ++ (wsL_induct_r2 ++ wsL_induct_r3)) ++ wsX00 ++ wsX20 ++ wsX10 ++ (vx_atS RX2 86 "java/lang/IllegalArgumentException" ["java/lang/RuntimeException", "java/lang/Exception"]).filter goodWord ++ (vx_atS RX2 103 "java/lang/IllegalStateException" ["java/lang/RuntimeException", "java/lang/Exception"]).filter goodWord)
def wsL_length : List Cond := .codeWith yL_length cL_length 4 (some .int) [(0, 9, 12, 13)] :: ([.classLink RL 13 "java/lang/IllegalArgumentException", .methodLink RL 23 yX2_length, .instanceMethod yX2_length, .selects RX2 yX2_length yX2_length, .initialized RX2, .code yX2_length cX2_length 7 (some .int), .fieldLink RX2 24 "SorterSteps" "trayLength" "I", .fieldLink RX2 39 "SorterSteps" "onTrays" "[LSorterSteps$Item;", .fieldLink RX2 118 "SorterSteps$Item" "length" "I", .methodLink RX2 50 yX2_requireLength, .instanceMethod yX2_requireLength, .selects RX2 yX2_requireLength yX2_requireLength, .code yX2_requireLength cX2_requireLength 2 none, .classLink RX2 82 "java/lang/IllegalArgumentException", .initialized "java/lang/IllegalArgumentException"] ++ wsX20 ++ wsX00 ++ (vx_atS RX2 86 "java/lang/IllegalArgumentException" ["java/lang/RuntimeException", "java/lang/Exception"]).filter goodWord)
def wsL_retry_r1 : List Cond := [Cond.classLink RL 13 "java/lang/IllegalArgumentException", Cond.classLink RL 21 "java/lang/IllegalStateException", Cond.methodLink RL 26 yX2_retry, Cond.instanceMethod yX2_retry, Cond.selects RX2 yX2_retry yX2_retry, Cond.initialized RX2, Cond.code yX2_retry cX2_retry 5 none, Cond.classLink RX2 82 "java/lang/IllegalArgumentException", Cond.initialized "java/lang/IllegalArgumentException", Cond.classLink RX2 99 "java/lang/IllegalStateException", Cond.initialized "java/lang/IllegalStateException", Cond.fieldLink RX2 123 "SorterSteps$Item" "state" "I", Cond.fieldLink RX2 104 "SorterSteps$Item" "code" "I", Cond.fieldLink RX2 130 "SorterSteps$Item" "retries" "I", Cond.fieldLink RX2 133 "SorterSteps$Item" "codeAfterRetries" "I", Cond.methodLink RX2 78 yX2_itemNumbered, Cond.instanceMethod yX2_itemNumbered, Cond.selects RX2 yX2_itemNumbered yX2_itemNumbered, Cond.code yX2_itemNumbered cX2_itemNumbered 3 (some (.object "SorterSteps$Item")), Cond.fieldLink RX2 14 "SorterSteps" "items" "LSorterSteps$ItemRow;", Cond.methodLink RX2 141 yX1_at, Cond.instanceMethod yX1_at, Cond.selects RX1 yX1_at yX1_at, Cond.initialized RX1]
def wsL_retry_r2 : List Cond := [Cond.code yX1_at cX1_at 2 (some (.object "SorterSteps$Item")), Cond.fieldLink RX1 21 "SorterSteps$ItemRow" "size" "I", Cond.fieldLink RX1 15 "SorterSteps$ItemRow" "places" "[LSorterSteps$Item;", Cond.methodLink RX2 87 yX2_requireCode, Cond.instanceMethod yX2_requireCode, Cond.selects RX2 yX2_requireCode yX2_requireCode, Cond.code yX2_requireCode cX2_requireCode 2 none, Cond.methodLink RX2 225 yX2_isChute, Cond.instanceMethod yX2_isChute, Cond.selects RX2 yX2_isChute yX2_isChute, Cond.code yX2_isChute cX2_isChute 2 (some .boolean), Cond.fieldLink RX2 43 "SorterSteps" "fullChutes" "[Z"]
def wsL_retry : List Cond := .codeWith yL_retry cL_retry 5 (some .int) [(0, 7, 10, 13), (0, 7, 14, 21)] :: ((wsL_retry_r1 ++ wsL_retry_r2) ++ wsX00 ++ wsX20 ++ wsX10 ++ (vx_atS RX2 86 "java/lang/IllegalArgumentException" ["java/lang/RuntimeException", "java/lang/Exception"]).filter goodWord ++ (vx_atS RX2 103 "java/lang/IllegalStateException" ["java/lang/RuntimeException", "java/lang/Exception"]).filter goodWord)
def wsL_step_r1 : List Cond := [Cond.classLink RL 13 "java/lang/IllegalArgumentException", Cond.classLink RL 21 "java/lang/IllegalStateException", Cond.methodLink RL 30 yX2_step, Cond.instanceMethod yX2_step, Cond.selects RX2 yX2_step yX2_step, Cond.initialized RX2, Cond.code yX2_step cX2_step 4 (some .int), Cond.classLink RX2 82 "java/lang/IllegalArgumentException", Cond.initialized "java/lang/IllegalArgumentException", Cond.fieldLink RX2 18 "SorterSteps" "left" "LSorterSteps$ItemRow;", Cond.methodLink RX2 90 yX2_requireNotJammed, Cond.instanceMethod yX2_requireNotJammed, Cond.selects RX2 yX2_requireNotJammed yX2_requireNotJammed, Cond.code yX2_requireNotJammed cX2_requireNotJammed 1 none, Cond.classLink RX2 99 "java/lang/IllegalStateException", Cond.initialized "java/lang/IllegalStateException", Cond.fieldLink RX2 173 "SorterSteps" "jammed" "Z", Cond.methodLink RX2 64 yX1_size, Cond.instanceMethod yX1_size, Cond.selects RX1 yX1_size yX1_size, Cond.initialized RX1, Cond.code yX1_size cX1_size 1 (some .int), Cond.fieldLink RX1 21 "SorterSteps$ItemRow" "size" "I", Cond.methodLink RX2 138 yX2_makeOneStep]
def wsL_step_r2 : List Cond := [Cond.instanceMethod yX2_makeOneStep, Cond.selects RX2 yX2_makeOneStep yX2_makeOneStep, Cond.code yX2_makeOneStep cX2_makeOneStep 2 none, Cond.fieldLink RX2 215 "SorterSteps" "steps" "I", Cond.fieldLink RX2 238 "SorterSteps" "positionOfFirstTray" "I", Cond.fieldLink RX2 43 "SorterSteps" "fullChutes" "[Z", Cond.methodLink RX2 177 yX2_intoLoop, Cond.instanceMethod yX2_intoLoop, Cond.selects RX2 yX2_intoLoop yX2_intoLoop, Cond.code yX2_intoLoop cX2_intoLoop 2 (some .int), Cond.fieldLink RX2 39 "SorterSteps" "onTrays" "[LSorterSteps$Item;", Cond.methodLink RX2 241 yX2_passChute, Cond.instanceMethod yX2_passChute, Cond.selects RX2 yX2_passChute yX2_passChute, Cond.code yX2_passChute cX2_passChute 3 none, Cond.fieldLink RX2 104 "SorterSteps$Item" "code" "I", Cond.fieldLink RX2 152 "SorterSteps$Item" "rounds" "I", Cond.fieldLink RX2 47 "SorterSteps" "allowedRounds" "I", Cond.methodLink RX2 96 yX2_itemAt, Cond.instanceMethod yX2_itemAt, Cond.selects RX2 yX2_itemAt yX2_itemAt, Cond.code yX2_itemAt cX2_itemAt 3 (some (.object "SorterSteps$Item")), Cond.methodLink RX2 107 yX2_trayAt, Cond.instanceMethod yX2_trayAt]
def wsL_step_r3 : List Cond := [Cond.selects RX2 yX2_trayAt yX2_trayAt, Cond.code yX2_trayAt cX2_trayAt 2 (some .int), Cond.methodLink RX2 168 yX2_isInLoop, Cond.instanceMethod yX2_isInLoop, Cond.selects RX2 yX2_isInLoop yX2_isInLoop, Cond.code yX2_isInLoop cX2_isInLoop 2 (some .boolean), Cond.methodLink RX2 160 yX2_isFull, Cond.instanceMethod yX2_isFull, Cond.selects RX2 yX2_isFull yX2_isFull, Cond.code yX2_isFull cX2_isFull 2 (some .boolean), Cond.methodLink RX2 225 yX2_isChute, Cond.instanceMethod yX2_isChute, Cond.selects RX2 yX2_isChute yX2_isChute, Cond.code yX2_isChute cX2_isChute 2 (some .boolean), Cond.methodLink RX2 247 yX2_takeOffTray, Cond.instanceMethod yX2_takeOffTray, Cond.selects RX2 yX2_takeOffTray yX2_takeOffTray, Cond.code yX2_takeOffTray cX2_takeOffTray 4 none, Cond.fieldLink RX2 115 "SorterSteps$Item" "tray" "I", Cond.fieldLink RX2 123 "SorterSteps$Item" "state" "I", Cond.fieldLink RX2 146 "SorterSteps$Item" "leftTo" "I", Cond.fieldLink RX2 149 "SorterSteps$Item" "leftAtStep" "I", Cond.methodLink RX2 71 yX1_add, Cond.instanceMethod yX1_add]
def wsL_step_r4 : List Cond := [Cond.selects RX1 yX1_add yX1_add, Cond.code yX1_add cX1_add 2 none, Cond.fieldLink RX1 15 "SorterSteps$ItemRow" "places" "[LSorterSteps$Item;", Cond.methodLink RX1 25 yX1_isFilled, Cond.instanceMethod yX1_isFilled, Cond.selects RX1 yX1_isFilled yX1_isFilled, Cond.code yX1_isFilled cX1_isFilled 1 (some .boolean), Cond.methodLink RX2 244 yX2_readAgainAtStart, Cond.instanceMethod yX2_readAgainAtStart, Cond.selects RX2 yX2_readAgainAtStart yX2_readAgainAtStart, Cond.code yX2_readAgainAtStart cX2_readAgainAtStart 2 none, Cond.fieldLink RX2 130 "SorterSteps$Item" "retries" "I", Cond.fieldLink RX2 133 "SorterSteps$Item" "codeAfterRetries" "I"]
def wsL_step : List Cond := .codeWith yL_step cL_step 4 (some .int) [(0, 9, 12, 13), (0, 9, 15, 21)] :: ((wsL_step_r1 ++ (wsL_step_r2 ++ (wsL_step_r3 ++ wsL_step_r4))) ++ wsX20 ++ wsX10 ++ wsX00 ++ (vx_atS RX2 86 "java/lang/IllegalArgumentException" ["java/lang/RuntimeException", "java/lang/Exception"]).filter goodWord ++ (vx_atS RX2 103 "java/lang/IllegalStateException" ["java/lang/RuntimeException", "java/lang/Exception"]).filter goodWord)
def wsL_out : List Cond := .codeWith yL_out cL_out 5 (some .int) [(0, 10, 13, 13)] :: ([.classLink RL 13 "java/lang/IllegalArgumentException", .methodLink RL 33 yX2_out, .instanceMethod yX2_out, .selects RX2 yX2_out yX2_out, .initialized RX2, .code yX2_out cX2_out 4 (some .int), .classLink RX2 82 "java/lang/IllegalArgumentException", .initialized "java/lang/IllegalArgumentException", .fieldLink RX2 18 "SorterSteps" "left" "LSorterSteps$ItemRow;", .fieldLink RX2 75 "SorterSteps$Item" "number" "I", .fieldLink RX2 146 "SorterSteps$Item" "leftTo" "I", .fieldLink RX2 149 "SorterSteps$Item" "leftAtStep" "I", .fieldLink RX2 152 "SorterSteps$Item" "rounds" "I", .methodLink RX2 141 yX1_at, .instanceMethod yX1_at, .selects RX1 yX1_at yX1_at, .initialized RX1, .code yX1_at cX1_at 2 (some (.object "SorterSteps$Item")), .fieldLink RX1 21 "SorterSteps$ItemRow" "size" "I", .fieldLink RX1 15 "SorterSteps$ItemRow" "places" "[LSorterSteps$Item;"] ++ wsX20 ++ wsX00 ++ wsX10 ++ (vx_atS RX2 86 "java/lang/IllegalArgumentException" ["java/lang/RuntimeException", "java/lang/Exception"]).filter goodWord)
def wsL_chute_r1 : List Cond := [Cond.classLink RL 13 "java/lang/IllegalArgumentException", Cond.methodLink RL 37 yX2_chute, Cond.instanceMethod yX2_chute, Cond.selects RX2 yX2_chute yX2_chute, Cond.initialized RX2, Cond.code yX2_chute cX2_chute 4 (some .boolean), Cond.methodLink RX2 157 yX2_requireChute, Cond.instanceMethod yX2_requireChute, Cond.selects RX2 yX2_requireChute yX2_requireChute, Cond.code yX2_requireChute cX2_requireChute 2 none, Cond.classLink RX2 82 "java/lang/IllegalArgumentException", Cond.initialized "java/lang/IllegalArgumentException", Cond.methodLink RX2 225 yX2_isChute, Cond.instanceMethod yX2_isChute, Cond.selects RX2 yX2_isChute yX2_isChute, Cond.code yX2_isChute cX2_isChute 2 (some .boolean), Cond.fieldLink RX2 43 "SorterSteps" "fullChutes" "[Z", Cond.methodLink RX2 160 yX2_isFull, Cond.instanceMethod yX2_isFull, Cond.selects RX2 yX2_isFull yX2_isFull, Cond.code yX2_isFull cX2_isFull 2 (some .boolean), Cond.methodLink RX2 164 yX2_setFull, Cond.instanceMethod yX2_setFull, Cond.selects RX2 yX2_setFull yX2_setFull]
def wsL_chute_r2 : List Cond := [Cond.code yX2_setFull cX2_setFull 3 none]
def wsL_chute : List Cond := .codeWith yL_chute cL_chute 5 (some .int) [(0, 17, 20, 13)] :: ((wsL_chute_r1 ++ wsL_chute_r2) ++ wsX20 ++ (vx_atS RX2 86 "java/lang/IllegalArgumentException" ["java/lang/RuntimeException", "java/lang/Exception"]).filter goodWord)
def wsL_jam_r1 : List Cond := [Cond.classLink RL 13 "java/lang/IllegalArgumentException", Cond.classLink RL 21 "java/lang/IllegalStateException", Cond.methodLink RL 41 yX2_jam, Cond.instanceMethod yX2_jam, Cond.selects RX2 yX2_jam yX2_jam, Cond.initialized RX2, Cond.code yX2_jam cX2_jam 5 (some .int), Cond.classLink RX2 82 "java/lang/IllegalArgumentException", Cond.initialized "java/lang/IllegalArgumentException", Cond.fieldLink RX2 173 "SorterSteps" "jammed" "Z", Cond.fieldLink RX2 21 "SorterSteps" "doubted" "LSorterSteps$ItemRow;", Cond.methodLink RX2 168 yX2_isInLoop, Cond.instanceMethod yX2_isInLoop, Cond.selects RX2 yX2_isInLoop yX2_isInLoop, Cond.code yX2_isInLoop cX2_isInLoop 2 (some .boolean), Cond.fieldLink RX2 39 "SorterSteps" "onTrays" "[LSorterSteps$Item;", Cond.methodLink RX2 90 yX2_requireNotJammed, Cond.instanceMethod yX2_requireNotJammed, Cond.selects RX2 yX2_requireNotJammed yX2_requireNotJammed, Cond.code yX2_requireNotJammed cX2_requireNotJammed 1 none, Cond.classLink RX2 99 "java/lang/IllegalStateException", Cond.initialized "java/lang/IllegalStateException", Cond.methodLink RX2 177 yX2_intoLoop, Cond.instanceMethod yX2_intoLoop]
def wsL_jam_r2 : List Cond := [Cond.selects RX2 yX2_intoLoop yX2_intoLoop, Cond.code yX2_intoLoop cX2_intoLoop 2 (some .int), Cond.methodLink RX2 180 yX2_doubtItemAt, Cond.instanceMethod yX2_doubtItemAt, Cond.selects RX2 yX2_doubtItemAt yX2_doubtItemAt, Cond.code yX2_doubtItemAt cX2_doubtItemAt 3 none, Cond.fieldLink RX2 183 "SorterSteps$Item" "doubted" "Z", Cond.fieldLink RX2 187 "SorterSteps$Item" "found" "Z", Cond.methodLink RX2 96 yX2_itemAt, Cond.instanceMethod yX2_itemAt, Cond.selects RX2 yX2_itemAt yX2_itemAt, Cond.code yX2_itemAt cX2_itemAt 3 (some (.object "SorterSteps$Item")), Cond.methodLink RX2 107 yX2_trayAt, Cond.instanceMethod yX2_trayAt, Cond.selects RX2 yX2_trayAt yX2_trayAt, Cond.code yX2_trayAt cX2_trayAt 2 (some .int), Cond.fieldLink RX2 238 "SorterSteps" "positionOfFirstTray" "I", Cond.methodLink RX2 71 yX1_add, Cond.instanceMethod yX1_add, Cond.selects RX1 yX1_add yX1_add, Cond.initialized RX1, Cond.code yX1_add cX1_add 2 none, Cond.fieldLink RX1 15 "SorterSteps$ItemRow" "places" "[LSorterSteps$Item;", Cond.fieldLink RX1 21 "SorterSteps$ItemRow" "size" "I"]
def wsL_jam_r3 : List Cond := [Cond.methodLink RX1 25 yX1_isFilled, Cond.instanceMethod yX1_isFilled, Cond.selects RX1 yX1_isFilled yX1_isFilled, Cond.code yX1_isFilled cX1_isFilled 1 (some .boolean), Cond.methodLink RX2 64 yX1_size, Cond.instanceMethod yX1_size, Cond.selects RX1 yX1_size yX1_size, Cond.code yX1_size cX1_size 1 (some .int)]
def wsL_jam : List Cond := .codeWith yL_jam cL_jam 5 (some .int) [(0, 10, 13, 13), (0, 10, 17, 21)] :: ((wsL_jam_r1 ++ (wsL_jam_r2 ++ wsL_jam_r3)) ++ wsX20 ++ wsX00 ++ wsX10 ++ (vx_atS RX2 86 "java/lang/IllegalArgumentException" ["java/lang/RuntimeException", "java/lang/Exception"]).filter goodWord ++ (vx_atS RX2 103 "java/lang/IllegalStateException" ["java/lang/RuntimeException", "java/lang/Exception"]).filter goodWord)
def wsL_found_r1 : List Cond := [Cond.classLink RL 13 "java/lang/IllegalArgumentException", Cond.classLink RL 21 "java/lang/IllegalStateException", Cond.methodLink RL 44 yX2_found, Cond.instanceMethod yX2_found, Cond.selects RX2 yX2_found yX2_found, Cond.initialized RX2, Cond.code yX2_found cX2_found 4 (some .int), Cond.classLink RX2 99 "java/lang/IllegalStateException", Cond.initialized "java/lang/IllegalStateException", Cond.fieldLink RX2 183 "SorterSteps$Item" "doubted" "Z", Cond.fieldLink RX2 187 "SorterSteps$Item" "found" "Z", Cond.methodLink RX2 78 yX2_itemNumbered, Cond.instanceMethod yX2_itemNumbered, Cond.selects RX2 yX2_itemNumbered yX2_itemNumbered, Cond.code yX2_itemNumbered cX2_itemNumbered 3 (some (.object "SorterSteps$Item")), Cond.classLink RX2 82 "java/lang/IllegalArgumentException", Cond.initialized "java/lang/IllegalArgumentException", Cond.fieldLink RX2 14 "SorterSteps" "items" "LSorterSteps$ItemRow;", Cond.methodLink RX2 141 yX1_at, Cond.instanceMethod yX1_at, Cond.selects RX1 yX1_at yX1_at, Cond.initialized RX1, Cond.code yX1_at cX1_at 2 (some (.object "SorterSteps$Item")), Cond.fieldLink RX1 21 "SorterSteps$ItemRow" "size" "I"]
def wsL_found_r2 : List Cond := [Cond.fieldLink RX1 15 "SorterSteps$ItemRow" "places" "[LSorterSteps$Item;", Cond.methodLink RX2 190 yX2_countNotFound, Cond.instanceMethod yX2_countNotFound, Cond.selects RX2 yX2_countNotFound yX2_countNotFound, Cond.code yX2_countNotFound cX2_countNotFound 4 (some .int), Cond.fieldLink RX2 21 "SorterSteps" "doubted" "LSorterSteps$ItemRow;", Cond.methodLink RX2 64 yX1_size, Cond.instanceMethod yX1_size, Cond.selects RX1 yX1_size yX1_size, Cond.code yX1_size cX1_size 1 (some .int)]
def wsL_found : List Cond := .codeWith yL_found cL_found 5 (some .int) [(0, 10, 13, 13), (0, 10, 17, 21)] :: ((wsL_found_r1 ++ wsL_found_r2) ++ wsX00 ++ wsX20 ++ wsX10 ++ (vx_atS RX2 103 "java/lang/IllegalStateException" ["java/lang/RuntimeException", "java/lang/Exception"]).filter goodWord ++ (vx_atS RX2 86 "java/lang/IllegalArgumentException" ["java/lang/RuntimeException", "java/lang/Exception"]).filter goodWord)
def wsL_retrack_r1 : List Cond := [Cond.classLink RL 21 "java/lang/IllegalStateException", Cond.methodLink RL 48 yX2_retrack, Cond.instanceMethod yX2_retrack, Cond.selects RX2 yX2_retrack yX2_retrack, Cond.initialized RX2, Cond.code yX2_retrack cX2_retrack 3 (some .int), Cond.classLink RX2 99 "java/lang/IllegalStateException", Cond.initialized "java/lang/IllegalStateException", Cond.fieldLink RX2 173 "SorterSteps" "jammed" "Z", Cond.fieldLink RX2 18 "SorterSteps" "left" "LSorterSteps$ItemRow;", Cond.fieldLink RX2 21 "SorterSteps" "doubted" "LSorterSteps$ItemRow;", Cond.methodLink RX2 64 yX1_size, Cond.instanceMethod yX1_size, Cond.selects RX1 yX1_size yX1_size, Cond.initialized RX1, Cond.code yX1_size cX1_size 1 (some .int), Cond.fieldLink RX1 21 "SorterSteps$ItemRow" "size" "I", Cond.methodLink RX2 141 yX1_at, Cond.instanceMethod yX1_at, Cond.selects RX1 yX1_at yX1_at, Cond.code yX1_at cX1_at 2 (some (.object "SorterSteps$Item")), Cond.fieldLink RX1 15 "SorterSteps$ItemRow" "places" "[LSorterSteps$Item;", Cond.methodLink RX2 195 yX2_endDoubt, Cond.instanceMethod yX2_endDoubt]
def wsL_retrack_r2 : List Cond := [Cond.selects RX2 yX2_endDoubt yX2_endDoubt, Cond.code yX2_endDoubt cX2_endDoubt 2 none, Cond.fieldLink RX2 183 "SorterSteps$Item" "doubted" "Z", Cond.fieldLink RX2 187 "SorterSteps$Item" "found" "Z", Cond.methodLink RX2 247 yX2_takeOffTray, Cond.instanceMethod yX2_takeOffTray, Cond.selects RX2 yX2_takeOffTray yX2_takeOffTray, Cond.code yX2_takeOffTray cX2_takeOffTray 4 none, Cond.fieldLink RX2 115 "SorterSteps$Item" "tray" "I", Cond.fieldLink RX2 39 "SorterSteps" "onTrays" "[LSorterSteps$Item;", Cond.fieldLink RX2 123 "SorterSteps$Item" "state" "I", Cond.fieldLink RX2 146 "SorterSteps$Item" "leftTo" "I", Cond.fieldLink RX2 215 "SorterSteps" "steps" "I", Cond.fieldLink RX2 149 "SorterSteps$Item" "leftAtStep" "I", Cond.methodLink RX2 168 yX2_isInLoop, Cond.instanceMethod yX2_isInLoop, Cond.selects RX2 yX2_isInLoop yX2_isInLoop, Cond.code yX2_isInLoop cX2_isInLoop 2 (some .boolean), Cond.methodLink RX2 71 yX1_add, Cond.instanceMethod yX1_add, Cond.selects RX1 yX1_add yX1_add, Cond.code yX1_add cX1_add 2 none, Cond.methodLink RX1 25 yX1_isFilled, Cond.instanceMethod yX1_isFilled]
def wsL_retrack_r3 : List Cond := [Cond.selects RX1 yX1_isFilled yX1_isFilled, Cond.code yX1_isFilled cX1_isFilled 1 (some .boolean), Cond.methodLink RX2 198 yX1_clear, Cond.instanceMethod yX1_clear, Cond.selects RX1 yX1_clear yX1_clear, Cond.code yX1_clear cX1_clear 1 none]
def wsL_retrack : List Cond := .codeWith yL_retrack cL_retrack 3 (some .int) [(0, 8, 11, 21)] :: ((wsL_retrack_r1 ++ (wsL_retrack_r2 ++ wsL_retrack_r3)) ++ wsX20 ++ wsX10 ++ wsX00 ++ (vx_atS RX2 103 "java/lang/IllegalStateException" ["java/lang/RuntimeException", "java/lang/Exception"]).filter goodWord)
def wsL_manual_r1 : List Cond := [Cond.classLink RL 13 "java/lang/IllegalArgumentException", Cond.classLink RL 21 "java/lang/IllegalStateException", Cond.methodLink RL 52 yX2_manual, Cond.instanceMethod yX2_manual, Cond.selects RX2 yX2_manual yX2_manual, Cond.initialized RX2, Cond.code yX2_manual cX2_manual 4 (some .boolean), Cond.classLink RX2 99 "java/lang/IllegalStateException", Cond.initialized "java/lang/IllegalStateException", Cond.fieldLink RX2 123 "SorterSteps$Item" "state" "I", Cond.methodLink RX2 78 yX2_itemNumbered, Cond.instanceMethod yX2_itemNumbered, Cond.selects RX2 yX2_itemNumbered yX2_itemNumbered, Cond.code yX2_itemNumbered cX2_itemNumbered 3 (some (.object "SorterSteps$Item")), Cond.classLink RX2 82 "java/lang/IllegalArgumentException", Cond.initialized "java/lang/IllegalArgumentException", Cond.fieldLink RX2 14 "SorterSteps" "items" "LSorterSteps$ItemRow;", Cond.methodLink RX2 141 yX1_at, Cond.instanceMethod yX1_at, Cond.selects RX1 yX1_at yX1_at, Cond.initialized RX1, Cond.code yX1_at cX1_at 2 (some (.object "SorterSteps$Item")), Cond.fieldLink RX1 21 "SorterSteps$ItemRow" "size" "I", Cond.fieldLink RX1 15 "SorterSteps$ItemRow" "places" "[LSorterSteps$Item;"]
def wsL_manual_r2 : List Cond := [Cond.methodLink RX2 157 yX2_requireChute, Cond.instanceMethod yX2_requireChute, Cond.selects RX2 yX2_requireChute yX2_requireChute, Cond.code yX2_requireChute cX2_requireChute 2 none, Cond.methodLink RX2 225 yX2_isChute, Cond.instanceMethod yX2_isChute, Cond.selects RX2 yX2_isChute yX2_isChute, Cond.code yX2_isChute cX2_isChute 2 (some .boolean), Cond.fieldLink RX2 43 "SorterSteps" "fullChutes" "[Z", Cond.methodLink RX2 160 yX2_isFull, Cond.instanceMethod yX2_isFull, Cond.selects RX2 yX2_isFull yX2_isFull, Cond.code yX2_isFull cX2_isFull 2 (some .boolean)]
def wsL_manual : List Cond := .codeWith yL_manual cL_manual 5 (some .int) [(0, 17, 20, 13), (0, 17, 24, 21)] :: ((wsL_manual_r1 ++ wsL_manual_r2) ++ wsX00 ++ wsX20 ++ wsX10 ++ (vx_atS RX2 103 "java/lang/IllegalStateException" ["java/lang/RuntimeException", "java/lang/Exception"]).filter goodWord ++ (vx_atS RX2 86 "java/lang/IllegalArgumentException" ["java/lang/RuntimeException", "java/lang/Exception"]).filter goodWord)
def wsL_tray : List Cond := .codeWith yL_tray cL_tray 4 (some .int) [(0, 9, 12, 59)] :: ([.methodLink RL 56 yX2_tray, .instanceMethod yX2_tray, .selects RX2 yX2_tray yX2_tray, .initialized RX2, .code yX2_tray cX2_tray 3 (some .int), .classLink RX2 203 RJx00060, .instantiable RJx00060 6, .initialized RJx00060, .fieldLink RX2 39 "SorterSteps" "onTrays" "[LSorterSteps$Item;", .fieldLink RX2 75 "SorterSteps$Item" "number" "I", .methodLink RX2 168 yX2_isInLoop, .instanceMethod yX2_isInLoop, .selects RX2 yX2_isInLoop yX2_isInLoop, .code yX2_isInLoop cX2_isInLoop 2 (some .boolean)] ++ wsJx000600 ++ wsX20 ++ wsX00)
def wsL_told_r1 : List Cond := [Cond.classLink RL 13 "java/lang/IllegalArgumentException", Cond.methodLink RL 61 yX2_told, Cond.instanceMethod yX2_told, Cond.selects RX2 yX2_told yX2_told, Cond.initialized RX2, Cond.code yX2_told cX2_told 4 (some .int), Cond.classLink RX2 82 "java/lang/IllegalArgumentException", Cond.initialized "java/lang/IllegalArgumentException", Cond.fieldLink RX2 123 "SorterSteps$Item" "state" "I", Cond.fieldLink RX2 104 "SorterSteps$Item" "code" "I", Cond.fieldLink RX2 152 "SorterSteps$Item" "rounds" "I", Cond.fieldLink RX2 118 "SorterSteps$Item" "length" "I", Cond.fieldLink RX2 115 "SorterSteps$Item" "tray" "I", Cond.fieldLink RX2 130 "SorterSteps$Item" "retries" "I", Cond.methodLink RX2 78 yX2_itemNumbered, Cond.instanceMethod yX2_itemNumbered, Cond.selects RX2 yX2_itemNumbered yX2_itemNumbered, Cond.code yX2_itemNumbered cX2_itemNumbered 3 (some (.object "SorterSteps$Item")), Cond.fieldLink RX2 14 "SorterSteps" "items" "LSorterSteps$ItemRow;", Cond.methodLink RX2 141 yX1_at, Cond.instanceMethod yX1_at, Cond.selects RX1 yX1_at yX1_at, Cond.initialized RX1, Cond.code yX1_at cX1_at 2 (some (.object "SorterSteps$Item"))]
def wsL_told_r2 : List Cond := [Cond.fieldLink RX1 21 "SorterSteps$ItemRow" "size" "I", Cond.fieldLink RX1 15 "SorterSteps$ItemRow" "places" "[LSorterSteps$Item;", Cond.methodLink RX2 208 yX2_positionOf, Cond.instanceMethod yX2_positionOf, Cond.selects RX2 yX2_positionOf yX2_positionOf, Cond.code yX2_positionOf cX2_positionOf 2 (some .int), Cond.fieldLink RX2 238 "SorterSteps" "positionOfFirstTray" "I", Cond.methodLink RX2 177 yX2_intoLoop, Cond.instanceMethod yX2_intoLoop, Cond.selects RX2 yX2_intoLoop yX2_intoLoop, Cond.code yX2_intoLoop cX2_intoLoop 2 (some .int), Cond.fieldLink RX2 39 "SorterSteps" "onTrays" "[LSorterSteps$Item;"]
def wsL_told : List Cond := .codeWith yL_told cL_told 5 (some .int) [(0, 10, 13, 13)] :: ((wsL_told_r1 ++ wsL_told_r2) ++ wsX00 ++ wsX20 ++ wsX10 ++ (vx_atS RX2 86 "java/lang/IllegalArgumentException" ["java/lang/RuntimeException", "java/lang/Exception"]).filter goodWord)
def wsL_law0_r1 : List Cond := [Cond.classLink RL 8 RX2, Cond.instantiable RX2 10, Cond.initialized RX2, Cond.classLink RL 73 RX3, Cond.instantiable RX3 23, Cond.initialized RX3, Cond.arrayClass .long, Cond.methodLink RL 64 yL_cell, Cond.static yL_cell, Cond.initialized RL, Cond.code yL_cell cL_cell 2 (some .int), Cond.methodLink RL 70 yX2_init, Cond.instanceMethod yX2_init, Cond.code yX2_init cX2_init 5 none, Cond.methodLink RX2 1 objectInit, Cond.instanceMethod objectInit, Cond.code objectInit ⟨#[0xb1]⟩ 1 none, Cond.classLink RX2 7 RX1, Cond.instantiable RX1 2, Cond.initialized RX1, Cond.fieldLink RX2 14 "SorterSteps" "items" "LSorterSteps$ItemRow;", Cond.fieldLink RX2 18 "SorterSteps" "left" "LSorterSteps$ItemRow;", Cond.fieldLink RX2 21 "SorterSteps" "doubted" "LSorterSteps$ItemRow;", Cond.fieldLink RX2 24 "SorterSteps" "trayLength" "I"]
def wsL_law0_r2 : List Cond := [Cond.methodLink RX2 28 Lib.Math.max.name, Cond.static Lib.Math.max.name, Cond.initialized "java/lang/Math", Cond.code Lib.Math.max.name Lib.Math.max.code 2 (some .int), Cond.methodLink RX2 34 Lib.Math.min.name, Cond.static Lib.Math.min.name, Cond.code Lib.Math.min.name Lib.Math.min.code 2 (some .int), Cond.classLink RX2 37 RX0, Cond.fieldLink RX2 39 "SorterSteps" "onTrays" "[LSorterSteps$Item;", Cond.arrayClass .boolean, Cond.fieldLink RX2 43 "SorterSteps" "fullChutes" "[Z", Cond.fieldLink RX2 47 "SorterSteps" "allowedRounds" "I", Cond.methodLink RX2 11 yX1_init, Cond.instanceMethod yX1_init, Cond.code yX1_init cX1_init 2 none, Cond.methodLink RX1 1 objectInit, Cond.methodLink RX1 7 Lib.Math.max.name, Cond.classLink RX1 13 RX0, Cond.fieldLink RX1 15 "SorterSteps$ItemRow" "places" "[LSorterSteps$Item;", Cond.methodLink RL 75 yX3_init, Cond.instanceMethod yX3_init, Cond.code yX3_init cX3_init 3 none, Cond.methodLink RX3 1 objectInit, Cond.fieldLink RX3 7 "SorterStepsModel" "longest" "I"]
def wsL_law0_r3 : List Cond := [Cond.arrayClass .int, Cond.fieldLink RX3 13 "SorterStepsModel" "on" "[I", Cond.fieldLink RX3 17 "SorterStepsModel" "full" "[Z", Cond.fieldLink RX3 21 "SorterStepsModel" "length" "[I", Cond.fieldLink RX3 24 "SorterStepsModel" "state" "[I", Cond.fieldLink RX3 27 "SorterStepsModel" "way" "[I", Cond.fieldLink RX3 30 "SorterStepsModel" "rounds" "[I", Cond.fieldLink RX3 33 "SorterStepsModel" "retries" "[I", Cond.fieldLink RX3 36 "SorterStepsModel" "later" "[I", Cond.fieldLink RX3 39 "SorterStepsModel" "leftItem" "[I", Cond.fieldLink RX3 42 "SorterStepsModel" "leftChute" "[I", Cond.fieldLink RX3 45 "SorterStepsModel" "leftStep" "[I", Cond.fieldLink RX3 48 "SorterStepsModel" "leftRounds" "[I", Cond.fieldLink RX3 51 "SorterStepsModel" "doubted" "[I", Cond.fieldLink RX3 54 "SorterStepsModel" "isFound" "[Z", Cond.fieldLink RX3 57 "SorterStepsModel" "trays" "I", Cond.fieldLink RX3 60 "SorterStepsModel" "most" "I", Cond.methodLink RL 76 yL_item, Cond.static yL_item, Cond.codeWith yL_item cL_item 4 (some .int) [(0, 9, 12, 13), (0, 9, 15, 15)], Cond.classLink RL 13 "java/lang/IllegalArgumentException", Cond.classLink RL 15 "java/lang/UnsupportedOperationException", Cond.methodLink RL 7 yX2_item, Cond.instanceMethod yX2_item]
def wsL_law0_r4 : List Cond := [Cond.selects RX2 yX2_item yX2_item, Cond.code yX2_item cX2_item 3 (some .int), Cond.classLink RX2 57 "java/lang/UnsupportedOperationException", Cond.initialized "java/lang/UnsupportedOperationException", Cond.instantiable RX0 12, Cond.initialized RX0, Cond.fieldLink RX2 75 "SorterSteps$Item" "number" "I", Cond.methodLink RX2 50 yX2_requireLength, Cond.instanceMethod yX2_requireLength, Cond.selects RX2 yX2_requireLength yX2_requireLength, Cond.code yX2_requireLength cX2_requireLength 2 none, Cond.classLink RX2 82 "java/lang/IllegalArgumentException", Cond.initialized "java/lang/IllegalArgumentException", Cond.methodLink RX2 53 yX1_isFilled, Cond.instanceMethod yX1_isFilled, Cond.selects RX1 yX1_isFilled yX1_isFilled, Cond.code yX1_isFilled cX1_isFilled 1 (some .boolean), Cond.fieldLink RX1 21 "SorterSteps$ItemRow" "size" "I", Cond.methodLink RX2 64 yX1_size, Cond.instanceMethod yX1_size, Cond.selects RX1 yX1_size yX1_size, Cond.code yX1_size cX1_size 1 (some .int), Cond.methodLink RX2 68 yX0_init, Cond.instanceMethod yX0_init]
def wsL_law0_r5 : List Cond := [Cond.code yX0_init cX0_init 3 none, Cond.methodLink RX0 3 objectInit, Cond.fieldLink RX0 9 "SorterSteps$Item" "state" "I", Cond.fieldLink RX0 15 "SorterSteps$Item" "code" "I", Cond.fieldLink RX0 18 "SorterSteps$Item" "tray" "I", Cond.fieldLink RX0 21 "SorterSteps$Item" "number" "I", Cond.fieldLink RX0 24 "SorterSteps$Item" "length" "I", Cond.methodLink RX2 71 yX1_add, Cond.instanceMethod yX1_add, Cond.selects RX1 yX1_add yX1_add, Cond.code yX1_add cX1_add 2 none, Cond.methodLink RX1 25 yX1_isFilled, Cond.methodLink RL 79 yX3_item, Cond.instanceMethod yX3_item, Cond.selects RX3 yX3_item yX3_item, Cond.code yX3_item cX3_item 2 (some .int), Cond.fieldLink RX3 66 "SorterStepsModel" "items" "I", Cond.fieldLink RX3 63 "SorterStepsModel" "code" "I", Cond.methodLink RX3 69 yX3_in, Cond.static yX3_in, Cond.code yX3_in cX3_in 3 (some .boolean), Cond.methodLink RL 80 yX3_thrown, Cond.instanceMethod yX3_thrown, Cond.selects RX3 yX3_thrown yX3_thrown]
def wsL_law0_r6 : List Cond := [Cond.code yX3_thrown cX3_thrown 1 (some .int), Cond.methodLink RL 83 yL_induct, Cond.static yL_induct, Cond.codeWith yL_induct cL_induct 6 (some .int) [(0, 12, 15, 13), (0, 12, 19, 21)], Cond.classLink RL 21 "java/lang/IllegalStateException", Cond.methodLink RL 17 yX2_induct, Cond.instanceMethod yX2_induct, Cond.selects RX2 yX2_induct yX2_induct, Cond.code yX2_induct cX2_induct 5 (some .int), Cond.classLink RX2 99 "java/lang/IllegalStateException", Cond.initialized "java/lang/IllegalStateException", Cond.fieldLink RX2 104 "SorterSteps$Item" "code" "I", Cond.fieldLink RX2 115 "SorterSteps$Item" "tray" "I", Cond.methodLink RX2 78 yX2_itemNumbered, Cond.instanceMethod yX2_itemNumbered, Cond.selects RX2 yX2_itemNumbered yX2_itemNumbered, Cond.code yX2_itemNumbered cX2_itemNumbered 3 (some (.object "SorterSteps$Item")), Cond.methodLink RX2 141 yX1_at, Cond.instanceMethod yX1_at, Cond.selects RX1 yX1_at yX1_at, Cond.code yX1_at cX1_at 2 (some (.object "SorterSteps$Item")), Cond.methodLink RX2 87 yX2_requireCode, Cond.instanceMethod yX2_requireCode, Cond.selects RX2 yX2_requireCode yX2_requireCode]
def wsL_law0_r7 : List Cond := [Cond.code yX2_requireCode cX2_requireCode 2 none, Cond.methodLink RX2 225 yX2_isChute, Cond.instanceMethod yX2_isChute, Cond.selects RX2 yX2_isChute yX2_isChute, Cond.code yX2_isChute cX2_isChute 2 (some .boolean), Cond.methodLink RX2 90 yX2_requireNotJammed, Cond.instanceMethod yX2_requireNotJammed, Cond.selects RX2 yX2_requireNotJammed yX2_requireNotJammed, Cond.code yX2_requireNotJammed cX2_requireNotJammed 1 none, Cond.fieldLink RX2 173 "SorterSteps" "jammed" "Z", Cond.methodLink RX2 93 yX2_requireFit, Cond.instanceMethod yX2_requireFit, Cond.selects RX2 yX2_requireFit yX2_requireFit, Cond.code yX2_requireFit cX2_requireFit 2 none, Cond.fieldLink RX2 123 "SorterSteps$Item" "state" "I", Cond.fieldLink RX2 118 "SorterSteps$Item" "length" "I", Cond.methodLink RX2 96 yX2_itemAt, Cond.instanceMethod yX2_itemAt, Cond.selects RX2 yX2_itemAt yX2_itemAt, Cond.code yX2_itemAt cX2_itemAt 3 (some (.object "SorterSteps$Item")), Cond.methodLink RX2 107 yX2_trayAt, Cond.instanceMethod yX2_trayAt, Cond.selects RX2 yX2_trayAt yX2_trayAt, Cond.code yX2_trayAt cX2_trayAt 2 (some .int)]
def wsL_law0_r8 : List Cond := [Cond.fieldLink RX2 238 "SorterSteps" "positionOfFirstTray" "I", Cond.methodLink RX2 177 yX2_intoLoop, Cond.instanceMethod yX2_intoLoop, Cond.selects RX2 yX2_intoLoop yX2_intoLoop, Cond.code yX2_intoLoop cX2_intoLoop 2 (some .int), Cond.methodLink RX2 168 yX2_isInLoop, Cond.instanceMethod yX2_isInLoop, Cond.selects RX2 yX2_isInLoop yX2_isInLoop, Cond.code yX2_isInLoop cX2_isInLoop 2 (some .boolean), Cond.methodLink RX2 111 yX2_putOnTray, Cond.instanceMethod yX2_putOnTray, Cond.selects RX2 yX2_putOnTray yX2_putOnTray, Cond.code yX2_putOnTray cX2_putOnTray 3 none, Cond.methodLink RL 86 yX3_induct, Cond.instanceMethod yX3_induct, Cond.selects RX3 yX3_induct yX3_induct, Cond.code yX3_induct cX3_induct 4 (some .int), Cond.fieldLink RX3 94 "SorterStepsModel" "jammed" "Z", Cond.methodLink RX3 84 yX3_isItem, Cond.instanceMethod yX3_isItem, Cond.selects RX3 yX3_isItem yX3_isItem, Cond.code yX3_isItem cX3_isItem 2 (some .boolean), Cond.methodLink RX3 87 yX3_isCode, Cond.instanceMethod yX3_isCode]
def wsL_law0_r9 : List Cond := [Cond.selects RX3 yX3_isCode yX3_isCode, Cond.code yX3_isCode cX3_isCode 2 (some .boolean), Cond.methodLink RX3 77 yX3_isChute, Cond.instanceMethod yX3_isChute, Cond.selects RX3 yX3_isChute yX3_isChute, Cond.code yX3_isChute cX3_isChute 2 (some .boolean), Cond.methodLink RX3 73 yX3_chutes, Cond.instanceMethod yX3_chutes, Cond.selects RX3 yX3_chutes yX3_chutes, Cond.code yX3_chutes cX3_chutes 1 (some .int), Cond.methodLink RX3 90 yX3_trayAt, Cond.instanceMethod yX3_trayAt, Cond.selects RX3 yX3_trayAt yX3_trayAt, Cond.code yX3_trayAt cX3_trayAt 2 (some .int), Cond.fieldLink RX3 81 "SorterStepsModel" "steps" "I", Cond.methodLink RL 87 yL_length, Cond.static yL_length, Cond.codeWith yL_length cL_length 4 (some .int) [(0, 9, 12, 13)], Cond.methodLink RL 23 yX2_length, Cond.instanceMethod yX2_length, Cond.selects RX2 yX2_length yX2_length, Cond.code yX2_length cX2_length 7 (some .int), Cond.methodLink RL 89 yX3_length, Cond.instanceMethod yX3_length]
def wsL_law0_r10 : List Cond := [Cond.selects RX3 yX3_length yX3_length, Cond.code yX3_length cX3_length 4 (some .int), Cond.methodLink RL 90 yL_retry, Cond.static yL_retry, Cond.codeWith yL_retry cL_retry 5 (some .int) [(0, 7, 10, 13), (0, 7, 14, 21)], Cond.methodLink RL 26 yX2_retry, Cond.instanceMethod yX2_retry, Cond.selects RX2 yX2_retry yX2_retry, Cond.code yX2_retry cX2_retry 5 none, Cond.fieldLink RX2 130 "SorterSteps$Item" "retries" "I", Cond.fieldLink RX2 133 "SorterSteps$Item" "codeAfterRetries" "I", Cond.methodLink RL 93 yX3_retry, Cond.instanceMethod yX3_retry, Cond.selects RX3 yX3_retry yX3_retry, Cond.code yX3_retry cX3_retry 4 none, Cond.methodLink RL 94 yL_step, Cond.static yL_step, Cond.codeWith yL_step cL_step 4 (some .int) [(0, 9, 12, 13), (0, 9, 15, 21)], Cond.methodLink RL 30 yX2_step, Cond.instanceMethod yX2_step, Cond.selects RX2 yX2_step yX2_step, Cond.code yX2_step cX2_step 4 (some .int), Cond.methodLink RX2 138 yX2_makeOneStep, Cond.instanceMethod yX2_makeOneStep]
def wsL_law0_r11 : List Cond := [Cond.selects RX2 yX2_makeOneStep yX2_makeOneStep, Cond.code yX2_makeOneStep cX2_makeOneStep 2 none, Cond.fieldLink RX2 215 "SorterSteps" "steps" "I", Cond.methodLink RX2 241 yX2_passChute, Cond.instanceMethod yX2_passChute, Cond.selects RX2 yX2_passChute yX2_passChute, Cond.code yX2_passChute cX2_passChute 3 none, Cond.fieldLink RX2 152 "SorterSteps$Item" "rounds" "I", Cond.methodLink RX2 160 yX2_isFull, Cond.instanceMethod yX2_isFull, Cond.selects RX2 yX2_isFull yX2_isFull, Cond.code yX2_isFull cX2_isFull 2 (some .boolean), Cond.methodLink RX2 247 yX2_takeOffTray, Cond.instanceMethod yX2_takeOffTray, Cond.selects RX2 yX2_takeOffTray yX2_takeOffTray, Cond.code yX2_takeOffTray cX2_takeOffTray 4 none, Cond.fieldLink RX2 146 "SorterSteps$Item" "leftTo" "I", Cond.fieldLink RX2 149 "SorterSteps$Item" "leftAtStep" "I", Cond.methodLink RX2 244 yX2_readAgainAtStart, Cond.instanceMethod yX2_readAgainAtStart, Cond.selects RX2 yX2_readAgainAtStart yX2_readAgainAtStart, Cond.code yX2_readAgainAtStart cX2_readAgainAtStart 2 none, Cond.methodLink RL 96 yX3_step, Cond.instanceMethod yX3_step]
def wsL_law0_r12 : List Cond := [Cond.selects RX3 yX3_step yX3_step, Cond.code yX3_step cX3_step 5 (some .int), Cond.fieldLink RX3 98 "SorterStepsModel" "left" "I", Cond.methodLink RX3 105 yX3_atChute, Cond.instanceMethod yX3_atChute, Cond.selects RX3 yX3_atChute yX3_atChute, Cond.code yX3_atChute cX3_atChute 4 none, Cond.methodLink RX3 101 yX3_leave, Cond.instanceMethod yX3_leave, Cond.selects RX3 yX3_leave yX3_leave, Cond.code yX3_leave cX3_leave 5 none, Cond.methodLink RX3 109 yX3_atReader, Cond.instanceMethod yX3_atReader, Cond.selects RX3 yX3_atReader yX3_atReader, Cond.code yX3_atReader cX3_atReader 3 none, Cond.methodLink RL 97 yL_out, Cond.static yL_out, Cond.codeWith yL_out cL_out 5 (some .int) [(0, 10, 13, 13)], Cond.methodLink RL 33 yX2_out, Cond.instanceMethod yX2_out, Cond.selects RX2 yX2_out yX2_out, Cond.code yX2_out cX2_out 4 (some .int), Cond.methodLink RL 100 yX3_out, Cond.instanceMethod yX3_out]
def wsL_law0_r13 : List Cond := [Cond.selects RX3 yX3_out yX3_out, Cond.code yX3_out cX3_out 3 (some .int), Cond.methodLink RL 101 yL_chute, Cond.static yL_chute, Cond.codeWith yL_chute cL_chute 5 (some .int) [(0, 17, 20, 13)], Cond.methodLink RL 37 yX2_chute, Cond.instanceMethod yX2_chute, Cond.selects RX2 yX2_chute yX2_chute, Cond.code yX2_chute cX2_chute 4 (some .boolean), Cond.methodLink RX2 157 yX2_requireChute, Cond.instanceMethod yX2_requireChute, Cond.selects RX2 yX2_requireChute yX2_requireChute, Cond.code yX2_requireChute cX2_requireChute 2 none, Cond.methodLink RX2 164 yX2_setFull, Cond.instanceMethod yX2_setFull, Cond.selects RX2 yX2_setFull yX2_setFull, Cond.code yX2_setFull cX2_setFull 3 none, Cond.methodLink RL 104 yX3_chute, Cond.instanceMethod yX3_chute, Cond.selects RX3 yX3_chute yX3_chute, Cond.code yX3_chute cX3_chute 4 (some .boolean), Cond.methodLink RL 105 yL_jam, Cond.static yL_jam, Cond.codeWith yL_jam cL_jam 5 (some .int) [(0, 10, 13, 13), (0, 10, 17, 21)]]
def wsL_law0_r14 : List Cond := [Cond.methodLink RL 41 yX2_jam, Cond.instanceMethod yX2_jam, Cond.selects RX2 yX2_jam yX2_jam, Cond.code yX2_jam cX2_jam 5 (some .int), Cond.methodLink RX2 180 yX2_doubtItemAt, Cond.instanceMethod yX2_doubtItemAt, Cond.selects RX2 yX2_doubtItemAt yX2_doubtItemAt, Cond.code yX2_doubtItemAt cX2_doubtItemAt 3 none, Cond.fieldLink RX2 183 "SorterSteps$Item" "doubted" "Z", Cond.fieldLink RX2 187 "SorterSteps$Item" "found" "Z", Cond.methodLink RL 107 yX3_jam, Cond.instanceMethod yX3_jam, Cond.selects RX3 yX3_jam yX3_jam, Cond.code yX3_jam cX3_jam 6 (some .int), Cond.fieldLink RX3 112 "SorterStepsModel" "doubts" "I", Cond.methodLink RL 108 yX2_doubt, Cond.instanceMethod yX2_doubt, Cond.selects RX2 yX2_doubt yX2_doubt, Cond.code yX2_doubt cX2_doubt 3 (some .int), Cond.methodLink RL 111 yX3_doubt, Cond.instanceMethod yX3_doubt, Cond.selects RX3 yX3_doubt yX3_doubt, Cond.code yX3_doubt cX3_doubt 2 (some .int), Cond.methodLink RL 112 yL_found]
def wsL_law0_r15 : List Cond := [Cond.static yL_found, Cond.codeWith yL_found cL_found 5 (some .int) [(0, 10, 13, 13), (0, 10, 17, 21)], Cond.methodLink RL 44 yX2_found, Cond.instanceMethod yX2_found, Cond.selects RX2 yX2_found yX2_found, Cond.code yX2_found cX2_found 4 (some .int), Cond.methodLink RX2 190 yX2_countNotFound, Cond.instanceMethod yX2_countNotFound, Cond.selects RX2 yX2_countNotFound yX2_countNotFound, Cond.code yX2_countNotFound cX2_countNotFound 4 (some .int), Cond.methodLink RL 114 yX3_found, Cond.instanceMethod yX3_found, Cond.selects RX3 yX3_found yX3_found, Cond.code yX3_found cX3_found 6 (some .int), Cond.methodLink RL 115 yL_retrack, Cond.static yL_retrack, Cond.codeWith yL_retrack cL_retrack 3 (some .int) [(0, 8, 11, 21)], Cond.methodLink RL 48 yX2_retrack, Cond.instanceMethod yX2_retrack, Cond.selects RX2 yX2_retrack yX2_retrack, Cond.code yX2_retrack cX2_retrack 3 (some .int), Cond.methodLink RX2 195 yX2_endDoubt, Cond.instanceMethod yX2_endDoubt, Cond.selects RX2 yX2_endDoubt yX2_endDoubt]
def wsL_law0_r16 : List Cond := [Cond.code yX2_endDoubt cX2_endDoubt 2 none, Cond.methodLink RX2 198 yX1_clear, Cond.instanceMethod yX1_clear, Cond.selects RX1 yX1_clear yX1_clear, Cond.code yX1_clear cX1_clear 1 none, Cond.methodLink RL 118 yX3_retrack, Cond.instanceMethod yX3_retrack, Cond.selects RX3 yX3_retrack yX3_retrack, Cond.code yX3_retrack cX3_retrack 3 (some .int), Cond.methodLink RX3 115 yX3_trayOf, Cond.instanceMethod yX3_trayOf, Cond.selects RX3 yX3_trayOf yX3_trayOf, Cond.code yX3_trayOf cX3_trayOf 3 (some .int), Cond.methodLink RL 119 yL_manual, Cond.static yL_manual, Cond.codeWith yL_manual cL_manual 5 (some .int) [(0, 17, 20, 13), (0, 17, 24, 21)], Cond.methodLink RL 52 yX2_manual, Cond.instanceMethod yX2_manual, Cond.selects RX2 yX2_manual yX2_manual, Cond.code yX2_manual cX2_manual 4 (some .boolean), Cond.methodLink RL 121 yX3_manual, Cond.instanceMethod yX3_manual, Cond.selects RX3 yX3_manual yX3_manual, Cond.code yX3_manual cX3_manual 3 (some .boolean)]
def wsL_law0_r17 : List Cond := [Cond.methodLink RL 122 yL_tray, Cond.static yL_tray, Cond.codeWith yL_tray cL_tray 4 (some .int) [(0, 9, 12, 59)], Cond.methodLink RL 56 yX2_tray, Cond.instanceMethod yX2_tray, Cond.selects RX2 yX2_tray yX2_tray, Cond.code yX2_tray cX2_tray 3 (some .int), Cond.classLink RX2 203 RJx00060, Cond.instantiable RJx00060 6, Cond.initialized RJx00060, Cond.methodLink RL 124 yX3_tray, Cond.instanceMethod yX3_tray, Cond.selects RX3 yX3_tray yX3_tray, Cond.code yX3_tray cX3_tray 2 (some .int), Cond.methodLink RL 125 yL_told, Cond.static yL_told, Cond.codeWith yL_told cL_told 5 (some .int) [(0, 10, 13, 13)], Cond.methodLink RL 61 yX2_told, Cond.instanceMethod yX2_told, Cond.selects RX2 yX2_told yX2_told, Cond.code yX2_told cX2_told 4 (some .int), Cond.methodLink RX2 208 yX2_positionOf, Cond.instanceMethod yX2_positionOf, Cond.selects RX2 yX2_positionOf yX2_positionOf]
def wsL_law0_r18 : List Cond := [Cond.code yX2_positionOf cX2_positionOf 2 (some .int), Cond.methodLink RL 127 yX3_told, Cond.instanceMethod yX3_told, Cond.selects RX3 yX3_told yX3_told, Cond.code yX3_told cX3_told 4 (some .int), Cond.methodLink RL 128 yX2_count, Cond.instanceMethod yX2_count, Cond.selects RX2 yX2_count yX2_count, Cond.code yX2_count cX2_count 2 (some .int), Cond.methodLink RX2 212 yX2_countEmptyTrays, Cond.instanceMethod yX2_countEmptyTrays, Cond.selects RX2 yX2_countEmptyTrays yX2_countEmptyTrays, Cond.code yX2_countEmptyTrays cX2_countEmptyTrays 6 (some .int), Cond.methodLink RX2 218 yX2_countOut, Cond.instanceMethod yX2_countOut, Cond.selects RX2 yX2_countOut yX2_countOut, Cond.code yX2_countOut cX2_countOut 4 (some .int), Cond.methodLink RL 131 yX3_count, Cond.instanceMethod yX3_count, Cond.selects RX3 yX3_count yX3_count, Cond.code yX3_count cX3_count 4 (some .int)]
def wsL_law0 : List Cond := (wsL_law0_r1 ++ (wsL_law0_r2 ++ (wsL_law0_r3 ++ (wsL_law0_r4 ++ (wsL_law0_r5 ++ (wsL_law0_r6 ++ (wsL_law0_r7 ++ (wsL_law0_r8 ++ (wsL_law0_r9 ++ (wsL_law0_r10 ++ (wsL_law0_r11 ++ (wsL_law0_r12 ++ (wsL_law0_r13 ++ (wsL_law0_r14 ++ (wsL_law0_r15 ++ (wsL_law0_r16 ++ (wsL_law0_r17 ++ wsL_law0_r18))))))))))))))))) ++ wsX20 ++ wsX30 ++ wsX10 ++ wsX00 ++ wsJx000600 ++ ([] : List Cond)
def wsL_law : List Cond := wsL_law0 ++ (vx_atS RX2 61 "java/lang/UnsupportedOperationException" ["java/lang/RuntimeException", "java/lang/Exception"]).filter goodWord ++ (vx_atS RX2 86 "java/lang/IllegalArgumentException" ["java/lang/RuntimeException", "java/lang/Exception"]).filter goodWord ++ (vx_atS RX2 103 "java/lang/IllegalStateException" ["java/lang/RuntimeException", "java/lang/Exception"]).filter goodWord
end
section
set_option maxRecDepth 20000 in
theorem wsL_law_ch1 : ∀ w ∈ wsL_law0_r1, w ∈ lw_tbl := fun w h => (goodIn_p wsL_law0_r1 [137, 52, 55] (by decide +kernel) (by decide +kernel) w h).1
set_option maxRecDepth 20000 in
theorem wsL_law_ch2 : ∀ w ∈ wsL_law0_r2, w ∈ lw_tbl := fun w h => (goodIn_p wsL_law0_r2 [64, 77, 60, 524] (by decide +kernel) (by decide +kernel) w h).1
set_option maxRecDepth 20000 in
theorem wsL_law_ch3 : ∀ w ∈ wsL_law0_r3, w ∈ lw_tbl := fun w h => (goodIn_p wsL_law0_r3 [] (by decide +kernel) (by decide +kernel) w h).1
set_option maxRecDepth 20000 in
theorem wsL_law_ch4 : ∀ w ∈ wsL_law0_r4, w ∈ lw_tbl := fun w h => (goodIn_p wsL_law0_r4 [146, 150, 223, 126] (by decide +kernel) (by decide +kernel) w h).1
set_option maxRecDepth 20000 in
theorem wsL_law_ch5 : ∀ w ∈ wsL_law0_r5, w ∈ lw_tbl := fun w h => (goodIn_p wsL_law0_r5 [243, 290, 604, 607] (by decide +kernel) (by decide +kernel) w h).1
set_option maxRecDepth 20000 in
theorem wsL_law_ch6 : ∀ w ∈ wsL_law0_r6, w ∈ lw_tbl := fun w h => (goodIn_p wsL_law0_r6 [600, 299, 303, 118] (by decide +kernel) (by decide +kernel) w h).1
set_option maxRecDepth 20000 in
theorem wsL_law_ch7 : ∀ w ∈ wsL_law0_r7, w ∈ lw_tbl := fun w h => (goodIn_p wsL_law0_r7 [309, 313, 318, 338, 344, 348] (by decide +kernel) (by decide +kernel) w h).1
set_option maxRecDepth 20000 in
theorem wsL_law_ch8 : ∀ w ∈ wsL_law0_r8, w ∈ lw_tbl := fun w h => (goodIn_p wsL_law0_r8 [352, 356, 361, 611, 615] (by decide +kernel) (by decide +kernel) w h).1
set_option maxRecDepth 20000 in
theorem wsL_law_ch9 : ∀ w ∈ wsL_law0_r9, w ∈ lw_tbl := fun w h => (goodIn_p wsL_law0_r9 [619, 623, 627, 631, 368] (by decide +kernel) (by decide +kernel) w h).1
set_option maxRecDepth 20000 in
theorem wsL_law_ch10 : ∀ w ∈ wsL_law0_r10, w ∈ lw_tbl := fun w h => (goodIn_p wsL_law0_r10 [635, 375, 639, 385] (by decide +kernel) (by decide +kernel) w h).1
set_option maxRecDepth 20000 in
theorem wsL_law_ch11 : ∀ w ∈ wsL_law0_r11, w ∈ lw_tbl := fun w h => (goodIn_p wsL_law0_r11 [390, 394, 398, 402, 406] (by decide +kernel) (by decide +kernel) w h).1
set_option maxRecDepth 20000 in
theorem wsL_law_ch12 : ∀ w ∈ wsL_law0_r12, w ∈ lw_tbl := fun w h => (goodIn_p wsL_law0_r12 [643, 647, 651, 655, 413] (by decide +kernel) (by decide +kernel) w h).1
set_option maxRecDepth 20000 in
theorem wsL_law_ch13 : ∀ w ∈ wsL_law0_r13, w ∈ lw_tbl := fun w h => (goodIn_p wsL_law0_r13 [659, 422, 426, 431, 663] (by decide +kernel) (by decide +kernel) w h).1
set_option maxRecDepth 20000 in
theorem wsL_law_ch14 : ∀ w ∈ wsL_law0_r14, w ∈ lw_tbl := fun w h => (goodIn_p wsL_law0_r14 [438, 443, 667, 114, 671] (by decide +kernel) (by decide +kernel) w h).1
set_option maxRecDepth 20000 in
theorem wsL_law_ch15 : ∀ w ∈ wsL_law0_r15, w ∈ lw_tbl := fun w h => (goodIn_p wsL_law0_r15 [450, 455, 675, 462] (by decide +kernel) (by decide +kernel) w h).1
set_option maxRecDepth 20000 in
theorem wsL_law_ch16 : ∀ w ∈ wsL_law0_r16, w ∈ lw_tbl := fun w h => (goodIn_p wsL_law0_r16 [467, 471, 679, 683, 478, 687] (by decide +kernel) (by decide +kernel) w h).1
set_option maxRecDepth 20000 in
theorem wsL_law_ch17 : ∀ w ∈ wsL_law0_r17, w ∈ lw_tbl := fun w h => (goodIn_p wsL_law0_r17 [487, 691, 515] (by decide +kernel) (by decide +kernel) w h).1
set_option maxRecDepth 20000 in
theorem wsL_law_ch18 : ∀ w ∈ wsL_law0_r18, w ∈ lw_tbl := fun w h => (goodIn_p wsL_law0_r18 [519, 695, 122, 130, 134, 699] (by decide +kernel) (by decide +kernel) w h).1
theorem wsL_law_tr : ∀ w ∈ (wsL_law0_r1 ++ (wsL_law0_r2 ++ (wsL_law0_r3 ++ (wsL_law0_r4 ++ (wsL_law0_r5 ++ (wsL_law0_r6 ++ (wsL_law0_r7 ++ (wsL_law0_r8 ++ (wsL_law0_r9 ++ (wsL_law0_r10 ++ (wsL_law0_r11 ++ (wsL_law0_r12 ++ (wsL_law0_r13 ++ (wsL_law0_r14 ++ (wsL_law0_r15 ++ (wsL_law0_r16 ++ (wsL_law0_r17 ++ (wsL_law0_r18)))))))))))))))))), w ∈ lw_tbl := fun w h => (fun h => (List.mem_append.mp h).elim (fun h => wsL_law_ch1 w h) (fun h => (List.mem_append.mp h).elim (fun h => wsL_law_ch2 w h) (fun h => (List.mem_append.mp h).elim (fun h => wsL_law_ch3 w h) (fun h => (List.mem_append.mp h).elim (fun h => wsL_law_ch4 w h) (fun h => (List.mem_append.mp h).elim (fun h => wsL_law_ch5 w h) (fun h => (List.mem_append.mp h).elim (fun h => wsL_law_ch6 w h) (fun h => (List.mem_append.mp h).elim (fun h => wsL_law_ch7 w h) (fun h => (List.mem_append.mp h).elim (fun h => wsL_law_ch8 w h) (fun h => (List.mem_append.mp h).elim (fun h => wsL_law_ch9 w h) (fun h => (List.mem_append.mp h).elim (fun h => wsL_law_ch10 w h) (fun h => (List.mem_append.mp h).elim (fun h => wsL_law_ch11 w h) (fun h => (List.mem_append.mp h).elim (fun h => wsL_law_ch12 w h) (fun h => (List.mem_append.mp h).elim (fun h => wsL_law_ch13 w h) (fun h => (List.mem_append.mp h).elim (fun h => wsL_law_ch14 w h) (fun h => (List.mem_append.mp h).elim (fun h => wsL_law_ch15 w h) (fun h => (List.mem_append.mp h).elim (fun h => wsL_law_ch16 w h) (fun h => (List.mem_append.mp h).elim (fun h => wsL_law_ch17 w h) (fun h => wsL_law_ch18 w h)))))))))))))))))) h
theorem wsL_law_swsX20 : ∀ w ∈ wsX20, w ∈ lw_tbl := by decide +kernel
theorem wsL_law_swsX30 : ∀ w ∈ wsX30, w ∈ lw_tbl := by decide +kernel
theorem wsL_law_swsX10 : ∀ w ∈ wsX10, w ∈ lw_tbl := by decide +kernel
theorem wsL_law_swsX00 : ∀ w ∈ wsX00, w ∈ lw_tbl := by decide +kernel
theorem wsL_law_swsJx000600 : ∀ w ∈ wsJx000600, w ∈ lw_tbl := by decide +kernel
theorem wsL_law_in0 : ∀ w ∈ wsL_law0, w ∈ lw_tbl := fun w h => (fun h => (List.mem_append.mp h).elim (fun h => (List.mem_append.mp h).elim (fun h => (List.mem_append.mp h).elim (fun h => (List.mem_append.mp h).elim (fun h => (List.mem_append.mp h).elim (fun h => (List.mem_append.mp h).elim (fun h => wsL_law_tr w h) (fun h => wsL_law_swsX20 w h)) (fun h => wsL_law_swsX30 w h)) (fun h => wsL_law_swsX10 w h)) (fun h => wsL_law_swsX00 w h)) (fun h => wsL_law_swsJx000600 w h)) (fun h => absurd h List.not_mem_nil)) h
theorem wsL_law_x0 : ∀ w ∈ (vx_atS RX2 61 "java/lang/UnsupportedOperationException" ["java/lang/RuntimeException", "java/lang/Exception"]).filter goodWord, w ∈ lw_tbl := by decide +kernel
theorem wsL_law_x1 : ∀ w ∈ (vx_atS RX2 86 "java/lang/IllegalArgumentException" ["java/lang/RuntimeException", "java/lang/Exception"]).filter goodWord, w ∈ lw_tbl := by decide +kernel
theorem wsL_law_x2 : ∀ w ∈ (vx_atS RX2 103 "java/lang/IllegalStateException" ["java/lang/RuntimeException", "java/lang/Exception"]).filter goodWord, w ∈ lw_tbl := by decide +kernel
theorem wsL_law_in : ∀ w ∈ wsL_law, w ∈ lw_tbl := fun w h => (List.mem_append.mp h).elim (fun h => (List.mem_append.mp h).elim (fun h => (List.mem_append.mp h).elim (fun h => wsL_law_in0 w h) (fun h => wsL_law_x0 w h)) (fun h => wsL_law_x1 w h)) (fun h => wsL_law_x2 w h)
theorem inlX0 : ∀ w ∈ wsX00, w ∈ wsL_law := fun _ h => List.mem_append_left _ (List.mem_append_left _ (List.mem_append_left _ (List.mem_append_left _ (List.mem_append_left _ (List.mem_append_right _ h)))))
theorem inX0 : ∀ w ∈ wsX00, w ∈ lw_tbl := fun w h => wsL_law_in w (inlX0 w h)
theorem inlX1 : ∀ w ∈ wsX10, w ∈ wsL_law := fun _ h => List.mem_append_left _ (List.mem_append_left _ (List.mem_append_left _ (List.mem_append_left _ (List.mem_append_left _ (List.mem_append_left _ (List.mem_append_right _ h))))))
theorem inX1 : ∀ w ∈ wsX10, w ∈ lw_tbl := fun w h => wsL_law_in w (inlX1 w h)
theorem inlX2 : ∀ w ∈ wsX20, w ∈ wsL_law := fun _ h => List.mem_append_left _ (List.mem_append_left _ (List.mem_append_left _ (List.mem_append_left _ (List.mem_append_left _ (List.mem_append_left _ (List.mem_append_left _ (List.mem_append_left _ (List.mem_append_right _ h))))))))
theorem inX2 : ∀ w ∈ wsX20, w ∈ lw_tbl := fun w h => wsL_law_in w (inlX2 w h)
theorem inlX3 : ∀ w ∈ wsX30, w ∈ wsL_law := fun _ h => List.mem_append_left _ (List.mem_append_left _ (List.mem_append_left _ (List.mem_append_left _ (List.mem_append_left _ (List.mem_append_left _ (List.mem_append_left _ (List.mem_append_right _ h)))))))
theorem inX3 : ∀ w ∈ wsX30, w ∈ lw_tbl := fun w h => wsL_law_in w (inlX3 w h)
theorem inlJx00060 : ∀ w ∈ wsJx000600, w ∈ wsL_law := fun _ h => List.mem_append_left _ (List.mem_append_left _ (List.mem_append_left _ (List.mem_append_left _ (List.mem_append_right _ h))))
theorem inJx00060 : ∀ w ∈ wsJx000600, w ∈ lw_tbl := fun w h => wsL_law_in w (inlJx00060 w h)
theorem inJ9 : ∀ w ∈ wsJ90, w ∈ lw_tbl := by decide +kernel
theorem inJ0 : ∀ w ∈ wsJ00, w ∈ lw_tbl := by decide +kernel
theorem dX0_init_0 : decode cX0_init 0 = .ok (.aload_n 0, 1) := by decide +kernel
theorem dX0_init_1 : decode cX0_init 1 = .ok (.invokespecial 3, 3) := by decide +kernel
theorem dX0_init_4 : decode cX0_init 4 = .ok (.aload_n 0, 1) := by decide +kernel
theorem dX0_init_5 : decode cX0_init 5 = .ok (.iconst 0, 1) := by decide +kernel
theorem dX0_init_6 : decode cX0_init 6 = .ok (.putfield 9, 3) := by decide +kernel
theorem dX0_init_9 : decode cX0_init 9 = .ok (.aload_n 0, 1) := by decide +kernel
theorem dX0_init_10 : decode cX0_init 10 = .ok (.iconst 0, 1) := by decide +kernel
theorem dX0_init_11 : decode cX0_init 11 = .ok (.putfield 15, 3) := by decide +kernel
theorem dX0_init_14 : decode cX0_init 14 = .ok (.aload_n 0, 1) := by decide +kernel
theorem dX0_init_15 : decode cX0_init 15 = .ok (.iconst (-1), 1) := by decide +kernel
theorem dX0_init_16 : decode cX0_init 16 = .ok (.putfield 18, 3) := by decide +kernel
theorem dX0_init_19 : decode cX0_init 19 = .ok (.aload_n 0, 1) := by decide +kernel
theorem dX0_init_20 : decode cX0_init 20 = .ok (.iload_n 1, 1) := by decide +kernel
theorem dX0_init_21 : decode cX0_init 21 = .ok (.putfield 21, 3) := by decide +kernel
theorem dX0_init_24 : decode cX0_init 24 = .ok (.aload_n 0, 1) := by decide +kernel
theorem dX0_init_25 : decode cX0_init 25 = .ok (.iload_n 2, 1) := by decide +kernel
theorem dX0_init_26 : decode cX0_init 26 = .ok (.putfield 24, 3) := by decide +kernel
theorem dX0_init_29 : decode cX0_init 29 = .ok (.return_, 1) := by decide +kernel
theorem dX1_init_0 : decode cX1_init 0 = .ok (.aload_n 0, 1) := by decide +kernel
theorem dX1_init_1 : decode cX1_init 1 = .ok (.invokespecial 1, 3) := by decide +kernel
theorem dX1_init_4 : decode cX1_init 4 = .ok (.aload_n 0, 1) := by decide +kernel
theorem dX1_init_5 : decode cX1_init 5 = .ok (.iload_n 1, 1) := by decide +kernel
theorem dX1_init_6 : decode cX1_init 6 = .ok (.iconst 0, 1) := by decide +kernel
theorem dX1_init_7 : decode cX1_init 7 = .ok (.invokestatic 7, 3) := by decide +kernel
theorem dX1_init_10 : decode cX1_init 10 = .ok (.anewarray 13, 3) := by decide +kernel
theorem dX1_init_13 : decode cX1_init 13 = .ok (.putfield 15, 3) := by decide +kernel
theorem dX1_init_16 : decode cX1_init 16 = .ok (.return_, 1) := by decide +kernel
theorem dX1_size_0 : decode cX1_size 0 = .ok (.aload_n 0, 1) := by decide +kernel
theorem dX1_size_1 : decode cX1_size 1 = .ok (.getfield 21, 3) := by decide +kernel
theorem dX1_size_4 : decode cX1_size 4 = .ok (.ireturn, 1) := by decide +kernel
theorem dX1_isFilled_0 : decode cX1_isFilled 0 = .ok (.aload_n 0, 1) := by decide +kernel
theorem dX1_isFilled_1 : decode cX1_isFilled 1 = .ok (.getfield 21, 3) := by decide +kernel
theorem dX1_isFilled_4 : decode cX1_isFilled 4 = .ok (.aload_n 0, 1) := by decide +kernel
theorem dX1_isFilled_5 : decode cX1_isFilled 5 = .ok (.getfield 15, 3) := by decide +kernel
theorem dX1_isFilled_8 : decode cX1_isFilled 8 = .ok (.arraylength, 1) := by decide +kernel
theorem dX1_isFilled_9 : decode cX1_isFilled 9 = .ok (.if_icmp .lt 7, 3) := by decide +kernel
theorem dX1_isFilled_12 : decode cX1_isFilled 12 = .ok (.iconst 1, 1) := by decide +kernel
theorem dX1_isFilled_13 : decode cX1_isFilled 13 = .ok (.goto 4, 3) := by decide +kernel
theorem dX1_isFilled_16 : decode cX1_isFilled 16 = .ok (.iconst 0, 1) := by decide +kernel
theorem dX1_isFilled_17 : decode cX1_isFilled 17 = .ok (.ireturn, 1) := by decide +kernel
set_option maxRecDepth 20000 in
theorem ggX1_add_X1_isFilled : GoodIn wsX1_add wsX1_isFilled := goodIn_r _ [7, 2, 1, 8, 9] (by decide +kernel) (by decide +kernel)
set_option maxRecDepth 20000 in
theorem gX1_add_X1_isFilled : GoodIn wsX1_add (wsV RX1 25 RX1 yX1_isFilled wsX1_isFilled) := goodIn_app (goodIn_of _ (by decide +kernel)) ggX1_add_X1_isFilled
theorem dX1_add_0 : decode cX1_add 0 = .ok (.aload_n 0, 1) := by decide +kernel
theorem dX1_add_1 : decode cX1_add 1 = .ok (.invokevirtual 25, 3) := by decide +kernel
theorem dX1_add_4 : decode cX1_add 4 = .ok (.ifCond .ne 23, 3) := by decide +kernel
theorem dX1_add_7 : decode cX1_add 7 = .ok (.aload_n 0, 1) := by decide +kernel
theorem dX1_add_8 : decode cX1_add 8 = .ok (.getfield 15, 3) := by decide +kernel
theorem dX1_add_11 : decode cX1_add 11 = .ok (.aload_n 0, 1) := by decide +kernel
theorem dX1_add_12 : decode cX1_add 12 = .ok (.getfield 21, 3) := by decide +kernel
theorem dX1_add_15 : decode cX1_add 15 = .ok (.aload_n 1, 1) := by decide +kernel
theorem dX1_add_16 : decode cX1_add 16 = .ok (.aastore, 1) := by decide +kernel
theorem dX1_add_17 : decode cX1_add 17 = .ok (.aload_n 0, 1) := by decide +kernel
theorem dX1_add_18 : decode cX1_add 18 = .ok (.dup, 1) := by decide +kernel
theorem dX1_add_19 : decode cX1_add 19 = .ok (.getfield 21, 3) := by decide +kernel
theorem dX1_add_22 : decode cX1_add 22 = .ok (.iconst 1, 1) := by decide +kernel
theorem dX1_add_23 : decode cX1_add 23 = .ok (.iadd, 1) := by decide +kernel
theorem dX1_add_24 : decode cX1_add 24 = .ok (.putfield 21, 3) := by decide +kernel
theorem dX1_add_27 : decode cX1_add 27 = .ok (.return_, 1) := by decide +kernel
theorem dX1_at_0 : decode cX1_at 0 = .ok (.iload_n 1, 1) := by decide +kernel
theorem dX1_at_1 : decode cX1_at 1 = .ok (.ifCond .lt 20, 3) := by decide +kernel
theorem dX1_at_4 : decode cX1_at 4 = .ok (.iload_n 1, 1) := by decide +kernel
theorem dX1_at_5 : decode cX1_at 5 = .ok (.aload_n 0, 1) := by decide +kernel
theorem dX1_at_6 : decode cX1_at 6 = .ok (.getfield 21, 3) := by decide +kernel
theorem dX1_at_9 : decode cX1_at 9 = .ok (.if_icmp .ge 12, 3) := by decide +kernel
theorem dX1_at_12 : decode cX1_at 12 = .ok (.aload_n 0, 1) := by decide +kernel
theorem dX1_at_13 : decode cX1_at 13 = .ok (.getfield 15, 3) := by decide +kernel
theorem dX1_at_16 : decode cX1_at 16 = .ok (.iload_n 1, 1) := by decide +kernel
theorem dX1_at_17 : decode cX1_at 17 = .ok (.aaload, 1) := by decide +kernel
theorem dX1_at_18 : decode cX1_at 18 = .ok (.goto 4, 3) := by decide +kernel
theorem dX1_at_21 : decode cX1_at 21 = .ok (.aconst_null, 1) := by decide +kernel
theorem dX1_at_22 : decode cX1_at 22 = .ok (.areturn, 1) := by decide +kernel
theorem dX1_clear_0 : decode cX1_clear 0 = .ok (.aload_n 0, 1) := by decide +kernel
theorem dX1_clear_1 : decode cX1_clear 1 = .ok (.iconst 0, 1) := by decide +kernel
theorem dX1_clear_2 : decode cX1_clear 2 = .ok (.putfield 21, 3) := by decide +kernel
theorem dX1_clear_5 : decode cX1_clear 5 = .ok (.return_, 1) := by decide +kernel
set_option maxRecDepth 20000 in
theorem ggX2_init_X1_init : GoodIn wsX2_init wsX1_init := goodIn_r _ [25, 26, 2, 3, 27, 12, 13, 14, 28, 29, 30, 31] (by decide +kernel) (by decide +kernel)
set_option maxRecDepth 20000 in
theorem gX2_init_X1_init : GoodIn wsX2_init (wsX1_init) := ggX2_init_X1_init
theorem dX2_init_0 : decode cX2_init 0 = .ok (.aload_n 0, 1) := by decide +kernel
theorem dX2_init_1 : decode cX2_init 1 = .ok (.invokespecial 1, 3) := by decide +kernel
theorem dX2_init_4 : decode cX2_init 4 = .ok (.aload_n 0, 1) := by decide +kernel
theorem dX2_init_5 : decode cX2_init 5 = .ok (.new 7, 3) := by decide +kernel
theorem dX2_init_8 : decode cX2_init 8 = .ok (.dup, 1) := by decide +kernel
theorem dX2_init_9 : decode cX2_init 9 = .ok (.bipush 60, 2) := by decide +kernel
theorem dX2_init_11 : decode cX2_init 11 = .ok (.invokespecial 11, 3) := by decide +kernel
theorem dX2_init_14 : decode cX2_init 14 = .ok (.putfield 14, 3) := by decide +kernel
theorem dX2_init_17 : decode cX2_init 17 = .ok (.aload_n 0, 1) := by decide +kernel
theorem dX2_init_18 : decode cX2_init 18 = .ok (.new 7, 3) := by decide +kernel
theorem dX2_init_21 : decode cX2_init 21 = .ok (.dup, 1) := by decide +kernel
theorem dX2_init_22 : decode cX2_init 22 = .ok (.bipush 60, 2) := by decide +kernel
theorem dX2_init_24 : decode cX2_init 24 = .ok (.invokespecial 11, 3) := by decide +kernel
theorem dX2_init_27 : decode cX2_init 27 = .ok (.putfield 18, 3) := by decide +kernel
theorem dX2_init_30 : decode cX2_init 30 = .ok (.aload_n 0, 1) := by decide +kernel
theorem dX2_init_31 : decode cX2_init 31 = .ok (.new 7, 3) := by decide +kernel
theorem dX2_init_34 : decode cX2_init 34 = .ok (.dup, 1) := by decide +kernel
theorem dX2_init_35 : decode cX2_init 35 = .ok (.bipush 40, 2) := by decide +kernel
theorem dX2_init_37 : decode cX2_init 37 = .ok (.invokespecial 11, 3) := by decide +kernel
theorem dX2_init_40 : decode cX2_init 40 = .ok (.putfield 21, 3) := by decide +kernel
theorem dX2_init_43 : decode cX2_init 43 = .ok (.aload_n 0, 1) := by decide +kernel
theorem dX2_init_44 : decode cX2_init 44 = .ok (.bipush 60, 2) := by decide +kernel
theorem dX2_init_46 : decode cX2_init 46 = .ok (.putfield 24, 3) := by decide +kernel
theorem dX2_init_49 : decode cX2_init 49 = .ok (.iload_n 1, 1) := by decide +kernel
theorem dX2_init_50 : decode cX2_init 50 = .ok (.iconst 2, 1) := by decide +kernel
theorem dX2_init_51 : decode cX2_init 51 = .ok (.invokestatic 28, 3) := by decide +kernel
theorem dX2_init_54 : decode cX2_init 54 = .ok (.bipush 40, 2) := by decide +kernel
theorem dX2_init_56 : decode cX2_init 56 = .ok (.invokestatic 34, 3) := by decide +kernel
theorem dX2_init_59 : decode cX2_init 59 = .ok (.istore_n 3, 1) := by decide +kernel
theorem dX2_init_60 : decode cX2_init 60 = .ok (.iload_n 3, 1) := by decide +kernel
theorem dX2_init_61 : decode cX2_init 61 = .ok (.iconst 1, 1) := by decide +kernel
theorem dX2_init_62 : decode cX2_init 62 = .ok (.isub, 1) := by decide +kernel
theorem dX2_init_63 : decode cX2_init 63 = .ok (.iconst 2, 1) := by decide +kernel
theorem dX2_init_64 : decode cX2_init 64 = .ok (.idiv, 1) := by decide +kernel
theorem dX2_init_65 : decode cX2_init 65 = .ok (.bipush 6, 2) := by decide +kernel
theorem dX2_init_67 : decode cX2_init 67 = .ok (.invokestatic 34, 3) := by decide +kernel
theorem dX2_init_70 : decode cX2_init 70 = .ok (.istore 4, 2) := by decide +kernel
theorem dX2_init_72 : decode cX2_init 72 = .ok (.aload_n 0, 1) := by decide +kernel
theorem dX2_init_73 : decode cX2_init 73 = .ok (.iload_n 3, 1) := by decide +kernel
theorem dX2_init_74 : decode cX2_init 74 = .ok (.anewarray 37, 3) := by decide +kernel
theorem dX2_init_77 : decode cX2_init 77 = .ok (.putfield 39, 3) := by decide +kernel
theorem dX2_init_80 : decode cX2_init 80 = .ok (.aload_n 0, 1) := by decide +kernel
theorem dX2_init_81 : decode cX2_init 81 = .ok (.iload 4, 2) := by decide +kernel
theorem dX2_init_83 : decode cX2_init 83 = .ok (.iconst 1, 1) := by decide +kernel
theorem dX2_init_84 : decode cX2_init 84 = .ok (.iadd, 1) := by decide +kernel
theorem dX2_init_85 : decode cX2_init 85 = .ok (.newarray .boolean, 2) := by decide +kernel
theorem dX2_init_87 : decode cX2_init 87 = .ok (.putfield 43, 3) := by decide +kernel
theorem dX2_init_90 : decode cX2_init 90 = .ok (.aload_n 0, 1) := by decide +kernel
theorem dX2_init_91 : decode cX2_init 91 = .ok (.iload_n 2, 1) := by decide +kernel
theorem dX2_init_92 : decode cX2_init 92 = .ok (.iconst 0, 1) := by decide +kernel
theorem dX2_init_93 : decode cX2_init 93 = .ok (.invokestatic 28, 3) := by decide +kernel
theorem dX2_init_96 : decode cX2_init 96 = .ok (.bipush 9, 2) := by decide +kernel
theorem dX2_init_98 : decode cX2_init 98 = .ok (.invokestatic 34, 3) := by decide +kernel
theorem dX2_init_101 : decode cX2_init 101 = .ok (.putfield 47, 3) := by decide +kernel
theorem dX2_init_104 : decode cX2_init 104 = .ok (.return_, 1) := by decide +kernel
set_option maxRecDepth 20000 in
theorem ggX2_item_X2_requireLength : GoodIn wsX2_item wsX2_requireLength := goodIn_ca (goodIn_r _ [12, 13, 14] (by decide +kernel) (by decide +kernel)) (goodIn_sub (fun _ h => List.mem_cons_of_mem _ (List.mem_append_right _ h)) (by decide +kernel))
set_option maxRecDepth 20000 in
theorem gX2_item_X2_requireLength : GoodIn wsX2_item (wsV RX2 50 RX2 yX2_requireLength wsX2_requireLength) := goodIn_app (goodIn_of _ (by decide +kernel)) ggX2_item_X2_requireLength
set_option maxRecDepth 20000 in
theorem ggX2_item_X1_isFilled : GoodIn wsX2_item wsX1_isFilled := goodIn_r _ [19, 20, 21, 64, 65] (by decide +kernel) (by decide +kernel)
set_option maxRecDepth 20000 in
theorem gX2_item_X1_isFilled : GoodIn wsX2_item (wsV RX2 53 RX1 yX1_isFilled wsX1_isFilled) := goodIn_app (goodIn_of _ (by decide +kernel)) ggX2_item_X1_isFilled
set_option maxRecDepth 20000 in
theorem ggX2_item_X1_size : GoodIn wsX2_item wsX1_size := goodIn_r _ [25, 20, 64, 65] (by decide +kernel) (by decide +kernel)
set_option maxRecDepth 20000 in
theorem gX2_item_X1_size : GoodIn wsX2_item (wsV RX2 64 RX1 yX1_size wsX1_size) := goodIn_app (goodIn_of _ (by decide +kernel)) ggX2_item_X1_size
set_option maxRecDepth 20000 in
theorem ggX2_item_X0_init : GoodIn wsX2_item wsX0_init := goodIn_r _ [28, 29, 30, 31, 32, 33, 34, 35, 36, 52, 53, 54, 55, 56, 57, 58, 59, 60, 61, 62, 63] (by decide +kernel) (by decide +kernel)
set_option maxRecDepth 20000 in
theorem gX2_item_X0_init : GoodIn wsX2_item (wsX0_init) := ggX2_item_X0_init
set_option maxRecDepth 20000 in
theorem ggX2_item_X1_add : GoodIn wsX2_item wsX1_add := goodIn_r _ [40, 21, 20, 41, 16, 17, 18, 19, 64, 65] (by decide +kernel) (by decide +kernel)
set_option maxRecDepth 20000 in
theorem gX2_item_X1_add : GoodIn wsX2_item (wsV RX2 71 RX1 yX1_add wsX1_add) := goodIn_app (goodIn_of _ (by decide +kernel)) ggX2_item_X1_add
theorem dX2_item_0 : decode cX2_item 0 = .ok (.aload_n 0, 1) := by decide +kernel
theorem dX2_item_1 : decode cX2_item 1 = .ok (.iload_n 1, 1) := by decide +kernel
theorem dX2_item_2 : decode cX2_item 2 = .ok (.invokevirtual 50, 3) := by decide +kernel
theorem dX2_item_5 : decode cX2_item 5 = .ok (.aload_n 0, 1) := by decide +kernel
theorem dX2_item_6 : decode cX2_item 6 = .ok (.getfield 14, 3) := by decide +kernel
theorem dX2_item_9 : decode cX2_item 9 = .ok (.invokevirtual 53, 3) := by decide +kernel
theorem dX2_item_12 : decode cX2_item 12 = .ok (.ifCond .eq 13, 3) := by decide +kernel
theorem dX2_item_15 : decode cX2_item 15 = .ok (.new 57, 3) := by decide +kernel
theorem dX2_item_18 : decode cX2_item 18 = .ok (.dup, 1) := by decide +kernel
theorem dX2_item_19 : decode cX2_item 19 = .ok (.ldc 59, 2) := by decide +kernel
theorem dX2_item_21 : decode cX2_item 21 = .ok (.invokespecial 61, 3) := by decide +kernel
theorem dX2_item_24 : decode cX2_item 24 = .ok (.athrow, 1) := by decide +kernel
theorem dX2_item_25 : decode cX2_item 25 = .ok (.new 37, 3) := by decide +kernel
theorem dX2_item_28 : decode cX2_item 28 = .ok (.dup, 1) := by decide +kernel
theorem dX2_item_29 : decode cX2_item 29 = .ok (.aload_n 0, 1) := by decide +kernel
theorem dX2_item_30 : decode cX2_item 30 = .ok (.getfield 14, 3) := by decide +kernel
theorem dX2_item_33 : decode cX2_item 33 = .ok (.invokevirtual 64, 3) := by decide +kernel
theorem dX2_item_36 : decode cX2_item 36 = .ok (.iconst 1, 1) := by decide +kernel
theorem dX2_item_37 : decode cX2_item 37 = .ok (.iadd, 1) := by decide +kernel
theorem dX2_item_38 : decode cX2_item 38 = .ok (.iload_n 1, 1) := by decide +kernel
theorem dX2_item_39 : decode cX2_item 39 = .ok (.invokespecial 68, 3) := by decide +kernel
theorem dX2_item_42 : decode cX2_item 42 = .ok (.astore_n 2, 1) := by decide +kernel
theorem dX2_item_43 : decode cX2_item 43 = .ok (.aload_n 0, 1) := by decide +kernel
theorem dX2_item_44 : decode cX2_item 44 = .ok (.getfield 14, 3) := by decide +kernel
theorem dX2_item_47 : decode cX2_item 47 = .ok (.aload_n 2, 1) := by decide +kernel
theorem dX2_item_48 : decode cX2_item 48 = .ok (.invokevirtual 71, 3) := by decide +kernel
theorem dX2_item_51 : decode cX2_item 51 = .ok (.aload_n 2, 1) := by decide +kernel
theorem dX2_item_52 : decode cX2_item 52 = .ok (.getfield 75, 3) := by decide +kernel
theorem dX2_item_55 : decode cX2_item 55 = .ok (.ireturn, 1) := by decide +kernel
set_option maxRecDepth 20000 in
theorem ggX2_induct_X2_itemNumbered : GoodIn wsX2_induct wsX2_itemNumbered := goodIn_ca (goodIn_r _ [11, 1, 2, 12, 13, 14, 15, 16, 17, 18, 19, 75, 76, 77, 78, 79, 80, 81, 82, 83, 84, 85, 86] (by decide +kernel) (by decide +kernel)) (goodIn_sub (fun _ h => List.mem_cons_of_mem _ (List.mem_append_left _ (List.mem_append_right _ h))) (by decide +kernel))
set_option maxRecDepth 20000 in
theorem gX2_induct_X2_itemNumbered : GoodIn wsX2_induct (wsV RX2 78 RX2 yX2_itemNumbered wsX2_itemNumbered) := goodIn_app (goodIn_of _ (by decide +kernel)) ggX2_induct_X2_itemNumbered
set_option maxRecDepth 20000 in
theorem ggX2_induct_X2_requireCode : GoodIn wsX2_induct wsX2_requireCode := goodIn_ca (goodIn_r _ [23, 1, 2, 24, 25, 26, 10, 27, 28, 75, 76, 77, 78, 79, 80, 81, 82, 83, 84] (by decide +kernel) (by decide +kernel)) (goodIn_sub (fun _ h => List.mem_cons_of_mem _ (List.mem_append_left _ (List.mem_append_right _ h))) (by decide +kernel))
set_option maxRecDepth 20000 in
theorem gX2_induct_X2_requireCode : GoodIn wsX2_induct (wsV RX2 87 RX2 yX2_requireCode wsX2_requireCode) := goodIn_app (goodIn_of _ (by decide +kernel)) ggX2_induct_X2_requireCode
set_option maxRecDepth 20000 in
theorem ggX2_induct_X2_requireNotJammed : GoodIn wsX2_induct wsX2_requireNotJammed := goodIn_ca (goodIn_r _ [32, 3, 4, 33, 75, 76, 77, 78, 79, 80, 81, 82, 83, 84] (by decide +kernel) (by decide +kernel)) (goodIn_sub (fun _ h => List.mem_cons_of_mem _ (List.mem_append_right _ h)) (by decide +kernel))
set_option maxRecDepth 20000 in
theorem gX2_induct_X2_requireNotJammed : GoodIn wsX2_induct (wsV RX2 90 RX2 yX2_requireNotJammed wsX2_requireNotJammed) := goodIn_app (goodIn_of _ (by decide +kernel)) ggX2_induct_X2_requireNotJammed
set_option maxRecDepth 20000 in
theorem ggX2_induct_X2_requireFit : GoodIn wsX2_induct wsX2_requireFit := goodIn_ca (goodIn_r _ [37, 3, 4, 38, 39, 40, 63, 64, 65, 66, 67, 68, 69, 70, 71, 72, 73, 74, 75, 76, 77, 78, 79, 80, 81, 82, 83, 84] (by decide +kernel) (by decide +kernel)) (goodIn_sub (fun _ h => List.mem_cons_of_mem _ (List.mem_append_right _ h)) (by decide +kernel))
set_option maxRecDepth 20000 in
theorem gX2_induct_X2_requireFit : GoodIn wsX2_induct (wsV RX2 93 RX2 yX2_requireFit wsX2_requireFit) := goodIn_app (goodIn_of _ (by decide +kernel)) ggX2_induct_X2_requireFit
set_option maxRecDepth 20000 in
theorem ggX2_induct_X2_itemAt : GoodIn wsX2_induct wsX2_itemAt := goodIn_r _ [44, 45, 46, 47, 48, 10, 49, 50, 51, 52, 53, 54, 55, 56, 57, 58, 75, 76, 77, 78, 79, 80, 81, 82, 83, 84] (by decide +kernel) (by decide +kernel)
set_option maxRecDepth 20000 in
theorem gX2_induct_X2_itemAt : GoodIn wsX2_induct (wsV RX2 96 RX2 yX2_itemAt wsX2_itemAt) := goodIn_app (goodIn_of _ (by decide +kernel)) ggX2_induct_X2_itemAt
set_option maxRecDepth 20000 in
theorem ggX2_induct_X2_trayAt : GoodIn wsX2_induct wsX2_trayAt := goodIn_r _ [49, 50, 51, 52, 53, 10, 54, 45, 75, 76, 77, 78, 79, 80, 81, 82, 83, 84] (by decide +kernel) (by decide +kernel)
set_option maxRecDepth 20000 in
theorem gX2_induct_X2_trayAt : GoodIn wsX2_induct (wsV RX2 107 RX2 yX2_trayAt wsX2_trayAt) := goodIn_app (goodIn_of _ (by decide +kernel)) ggX2_induct_X2_trayAt
set_option maxRecDepth 20000 in
theorem ggX2_induct_X2_putOnTray : GoodIn wsX2_induct wsX2_putOnTray := goodIn_r _ [62, 45, 6, 38, 55, 56, 57, 10, 58, 75, 76, 77, 78, 79, 80, 81, 82, 83, 84, 63, 64, 65, 66, 67, 68, 69, 70, 71, 72, 73, 74] (by decide +kernel) (by decide +kernel)
set_option maxRecDepth 20000 in
theorem gX2_induct_X2_putOnTray : GoodIn wsX2_induct (wsV RX2 111 RX2 yX2_putOnTray wsX2_putOnTray) := goodIn_app (goodIn_of _ (by decide +kernel)) ggX2_induct_X2_putOnTray
theorem dX2_induct_0 : decode cX2_induct 0 = .ok (.aload_n 0, 1) := by decide +kernel
theorem dX2_induct_1 : decode cX2_induct 1 = .ok (.iload_n 1, 1) := by decide +kernel
theorem dX2_induct_2 : decode cX2_induct 2 = .ok (.invokevirtual 78, 3) := by decide +kernel
theorem dX2_induct_5 : decode cX2_induct 5 = .ok (.astore 4, 2) := by decide +kernel
theorem dX2_induct_7 : decode cX2_induct 7 = .ok (.iload_n 2, 1) := by decide +kernel
theorem dX2_induct_8 : decode cX2_induct 8 = .ok (.ifCond .lt 8, 3) := by decide +kernel
theorem dX2_induct_11 : decode cX2_induct 11 = .ok (.iload_n 2, 1) := by decide +kernel
theorem dX2_induct_12 : decode cX2_induct 12 = .ok (.iconst 2, 1) := by decide +kernel
theorem dX2_induct_13 : decode cX2_induct 13 = .ok (.if_icmp .lt 13, 3) := by decide +kernel
theorem dX2_induct_16 : decode cX2_induct 16 = .ok (.new 82, 3) := by decide +kernel
theorem dX2_induct_19 : decode cX2_induct 19 = .ok (.dup, 1) := by decide +kernel
theorem dX2_induct_20 : decode cX2_induct 20 = .ok (.ldc 84, 2) := by decide +kernel
theorem dX2_induct_22 : decode cX2_induct 22 = .ok (.invokespecial 86, 3) := by decide +kernel
theorem dX2_induct_25 : decode cX2_induct 25 = .ok (.athrow, 1) := by decide +kernel
theorem dX2_induct_26 : decode cX2_induct 26 = .ok (.aload_n 0, 1) := by decide +kernel
theorem dX2_induct_27 : decode cX2_induct 27 = .ok (.iload_n 3, 1) := by decide +kernel
theorem dX2_induct_28 : decode cX2_induct 28 = .ok (.invokevirtual 87, 3) := by decide +kernel
theorem dX2_induct_31 : decode cX2_induct 31 = .ok (.aload_n 0, 1) := by decide +kernel
theorem dX2_induct_32 : decode cX2_induct 32 = .ok (.invokevirtual 90, 3) := by decide +kernel
theorem dX2_induct_35 : decode cX2_induct 35 = .ok (.aload_n 0, 1) := by decide +kernel
theorem dX2_induct_36 : decode cX2_induct 36 = .ok (.aload 4, 2) := by decide +kernel
theorem dX2_induct_38 : decode cX2_induct 38 = .ok (.invokevirtual 93, 3) := by decide +kernel
theorem dX2_induct_41 : decode cX2_induct 41 = .ok (.aload_n 0, 1) := by decide +kernel
theorem dX2_induct_42 : decode cX2_induct 42 = .ok (.iload_n 2, 1) := by decide +kernel
theorem dX2_induct_43 : decode cX2_induct 43 = .ok (.invokevirtual 96, 3) := by decide +kernel
theorem dX2_induct_46 : decode cX2_induct 46 = .ok (.ifnull 13, 3) := by decide +kernel
theorem dX2_induct_49 : decode cX2_induct 49 = .ok (.new 99, 3) := by decide +kernel
theorem dX2_induct_52 : decode cX2_induct 52 = .ok (.dup, 1) := by decide +kernel
theorem dX2_induct_53 : decode cX2_induct 53 = .ok (.ldc 101, 2) := by decide +kernel
theorem dX2_induct_55 : decode cX2_induct 55 = .ok (.invokespecial 103, 3) := by decide +kernel
theorem dX2_induct_58 : decode cX2_induct 58 = .ok (.athrow, 1) := by decide +kernel
theorem dX2_induct_59 : decode cX2_induct 59 = .ok (.aload 4, 2) := by decide +kernel
theorem dX2_induct_61 : decode cX2_induct 61 = .ok (.iload_n 3, 1) := by decide +kernel
theorem dX2_induct_62 : decode cX2_induct 62 = .ok (.putfield 104, 3) := by decide +kernel
theorem dX2_induct_65 : decode cX2_induct 65 = .ok (.aload_n 0, 1) := by decide +kernel
theorem dX2_induct_66 : decode cX2_induct 66 = .ok (.aload 4, 2) := by decide +kernel
theorem dX2_induct_68 : decode cX2_induct 68 = .ok (.aload_n 0, 1) := by decide +kernel
theorem dX2_induct_69 : decode cX2_induct 69 = .ok (.iload_n 2, 1) := by decide +kernel
theorem dX2_induct_70 : decode cX2_induct 70 = .ok (.invokevirtual 107, 3) := by decide +kernel
theorem dX2_induct_73 : decode cX2_induct 73 = .ok (.invokevirtual 111, 3) := by decide +kernel
theorem dX2_induct_76 : decode cX2_induct 76 = .ok (.aload 4, 2) := by decide +kernel
theorem dX2_induct_78 : decode cX2_induct 78 = .ok (.getfield 115, 3) := by decide +kernel
theorem dX2_induct_81 : decode cX2_induct 81 = .ok (.ireturn, 1) := by decide +kernel
set_option maxRecDepth 20000 in
theorem ggX2_length_X2_requireLength : GoodIn wsX2_length wsX2_requireLength := goodIn_ca (goodIn_r _ [8, 9, 10] (by decide +kernel) (by decide +kernel)) (goodIn_sub (fun _ h => List.mem_cons_of_mem _ (List.mem_append_right _ h)) (by decide +kernel))
set_option maxRecDepth 20000 in
theorem gX2_length_X2_requireLength : GoodIn wsX2_length (wsV RX2 50 RX2 yX2_requireLength wsX2_requireLength) := goodIn_app (goodIn_of _ (by decide +kernel)) ggX2_length_X2_requireLength
theorem dX2_length_0 : decode cX2_length 0 = .ok (.aload_n 0, 1) := by decide +kernel
theorem dX2_length_1 : decode cX2_length 1 = .ok (.iload_n 1, 1) := by decide +kernel
theorem dX2_length_2 : decode cX2_length 2 = .ok (.invokevirtual 50, 3) := by decide +kernel
theorem dX2_length_5 : decode cX2_length 5 = .ok (.aload_n 0, 1) := by decide +kernel
theorem dX2_length_6 : decode cX2_length 6 = .ok (.iload_n 1, 1) := by decide +kernel
theorem dX2_length_7 : decode cX2_length 7 = .ok (.putfield 24, 3) := by decide +kernel
theorem dX2_length_10 : decode cX2_length 10 = .ok (.iconst 0, 1) := by decide +kernel
theorem dX2_length_11 : decode cX2_length 11 = .ok (.istore_n 2, 1) := by decide +kernel
theorem dX2_length_12 : decode cX2_length 12 = .ok (.aload_n 0, 1) := by decide +kernel
theorem dX2_length_13 : decode cX2_length 13 = .ok (.getfield 39, 3) := by decide +kernel
theorem dX2_length_16 : decode cX2_length 16 = .ok (.astore_n 3, 1) := by decide +kernel
theorem dX2_length_17 : decode cX2_length 17 = .ok (.aload_n 3, 1) := by decide +kernel
theorem dX2_length_18 : decode cX2_length 18 = .ok (.arraylength, 1) := by decide +kernel
theorem dX2_length_19 : decode cX2_length 19 = .ok (.istore 4, 2) := by decide +kernel
theorem dX2_length_21 : decode cX2_length 21 = .ok (.iconst 0, 1) := by decide +kernel
theorem dX2_length_22 : decode cX2_length 22 = .ok (.istore 5, 2) := by decide +kernel
theorem dX2_length_24 : decode cX2_length 24 = .ok (.iload 5, 2) := by decide +kernel
theorem dX2_length_26 : decode cX2_length 26 = .ok (.iload 4, 2) := by decide +kernel
theorem dX2_length_28 : decode cX2_length 28 = .ok (.if_icmp .ge 35, 3) := by decide +kernel
theorem dX2_length_31 : decode cX2_length 31 = .ok (.aload_n 3, 1) := by decide +kernel
theorem dX2_length_32 : decode cX2_length 32 = .ok (.iload 5, 2) := by decide +kernel
theorem dX2_length_34 : decode cX2_length 34 = .ok (.aaload, 1) := by decide +kernel
theorem dX2_length_35 : decode cX2_length 35 = .ok (.astore 6, 2) := by decide +kernel
theorem dX2_length_37 : decode cX2_length 37 = .ok (.aload 6, 2) := by decide +kernel
theorem dX2_length_39 : decode cX2_length 39 = .ok (.ifnull 18, 3) := by decide +kernel
theorem dX2_length_42 : decode cX2_length 42 = .ok (.aload 6, 2) := by decide +kernel
theorem dX2_length_44 : decode cX2_length 44 = .ok (.getfield 118, 3) := by decide +kernel
theorem dX2_length_47 : decode cX2_length 47 = .ok (.aload_n 0, 1) := by decide +kernel
theorem dX2_length_48 : decode cX2_length 48 = .ok (.getfield 24, 3) := by decide +kernel
theorem dX2_length_51 : decode cX2_length 51 = .ok (.if_icmp .le 6, 3) := by decide +kernel
theorem dX2_length_54 : decode cX2_length 54 = .ok (.iinc 2 1, 3) := by decide +kernel
end
section
theorem dX2_length_57 : decode cX2_length 57 = .ok (.iinc 5 1, 3) := by decide +kernel
theorem dX2_length_60 : decode cX2_length 60 = .ok (.goto (-36), 3) := by decide +kernel
theorem dX2_length_63 : decode cX2_length 63 = .ok (.iload_n 2, 1) := by decide +kernel
theorem dX2_length_64 : decode cX2_length 64 = .ok (.ireturn, 1) := by decide +kernel
set_option maxRecDepth 20000 in
theorem ggX2_retry_X2_itemNumbered : GoodIn wsX2_retry wsX2_itemNumbered := goodIn_ca (goodIn_r _ [13, 1, 2, 14, 15, 16, 17, 18, 19, 20, 21, 43, 44, 45, 46, 47, 48, 49, 50, 51, 52, 53, 54] (by decide +kernel) (by decide +kernel)) (goodIn_sub (fun _ h => List.mem_cons_of_mem _ (List.mem_append_left _ (List.mem_append_right _ h))) (by decide +kernel))
set_option maxRecDepth 20000 in
theorem gX2_retry_X2_itemNumbered : GoodIn wsX2_retry (wsV RX2 78 RX2 yX2_itemNumbered wsX2_itemNumbered) := goodIn_app (goodIn_of _ (by decide +kernel)) ggX2_retry_X2_itemNumbered
set_option maxRecDepth 20000 in
theorem ggX2_retry_X2_requireCode : GoodIn wsX2_retry wsX2_requireCode := goodIn_ca (goodIn_r _ [25, 1, 2, 26, 27, 28, 12, 29, 30, 43, 44, 45, 46, 47, 48, 49, 50, 51, 52] (by decide +kernel) (by decide +kernel)) (goodIn_sub (fun _ h => List.mem_cons_of_mem _ (List.mem_append_left _ (List.mem_append_right _ h))) (by decide +kernel))
set_option maxRecDepth 20000 in
theorem gX2_retry_X2_requireCode : GoodIn wsX2_retry (wsV RX2 87 RX2 yX2_requireCode wsX2_requireCode) := goodIn_app (goodIn_of _ (by decide +kernel)) ggX2_retry_X2_requireCode
theorem dX2_retry_0 : decode cX2_retry 0 = .ok (.aload_n 0, 1) := by decide +kernel
theorem dX2_retry_1 : decode cX2_retry 1 = .ok (.iload_n 1, 1) := by decide +kernel
theorem dX2_retry_2 : decode cX2_retry 2 = .ok (.invokevirtual 78, 3) := by decide +kernel
theorem dX2_retry_5 : decode cX2_retry 5 = .ok (.astore 4, 2) := by decide +kernel
theorem dX2_retry_7 : decode cX2_retry 7 = .ok (.iload_n 2, 1) := by decide +kernel
theorem dX2_retry_8 : decode cX2_retry 8 = .ok (.ifCond .lt 9, 3) := by decide +kernel
theorem dX2_retry_11 : decode cX2_retry 11 = .ok (.iload_n 2, 1) := by decide +kernel
theorem dX2_retry_12 : decode cX2_retry 12 = .ok (.bipush 9, 2) := by decide +kernel
theorem dX2_retry_14 : decode cX2_retry 14 = .ok (.if_icmp .le 13, 3) := by decide +kernel
theorem dX2_retry_17 : decode cX2_retry 17 = .ok (.new 82, 3) := by decide +kernel
theorem dX2_retry_20 : decode cX2_retry 20 = .ok (.dup, 1) := by decide +kernel
theorem dX2_retry_21 : decode cX2_retry 21 = .ok (.ldc 121, 2) := by decide +kernel
theorem dX2_retry_23 : decode cX2_retry 23 = .ok (.invokespecial 86, 3) := by decide +kernel
theorem dX2_retry_26 : decode cX2_retry 26 = .ok (.athrow, 1) := by decide +kernel
theorem dX2_retry_27 : decode cX2_retry 27 = .ok (.aload_n 0, 1) := by decide +kernel
theorem dX2_retry_28 : decode cX2_retry 28 = .ok (.iload_n 3, 1) := by decide +kernel
theorem dX2_retry_29 : decode cX2_retry 29 = .ok (.invokevirtual 87, 3) := by decide +kernel
theorem dX2_retry_32 : decode cX2_retry 32 = .ok (.aload 4, 2) := by decide +kernel
theorem dX2_retry_34 : decode cX2_retry 34 = .ok (.getfield 123, 3) := by decide +kernel
theorem dX2_retry_37 : decode cX2_retry 37 = .ok (.iconst 1, 1) := by decide +kernel
theorem dX2_retry_38 : decode cX2_retry 38 = .ok (.if_icmp .eq 13, 3) := by decide +kernel
theorem dX2_retry_41 : decode cX2_retry 41 = .ok (.new 99, 3) := by decide +kernel
theorem dX2_retry_44 : decode cX2_retry 44 = .ok (.dup, 1) := by decide +kernel
theorem dX2_retry_45 : decode cX2_retry 45 = .ok (.ldc 126, 2) := by decide +kernel
theorem dX2_retry_47 : decode cX2_retry 47 = .ok (.invokespecial 103, 3) := by decide +kernel
theorem dX2_retry_50 : decode cX2_retry 50 = .ok (.athrow, 1) := by decide +kernel
theorem dX2_retry_51 : decode cX2_retry 51 = .ok (.aload 4, 2) := by decide +kernel
theorem dX2_retry_53 : decode cX2_retry 53 = .ok (.getfield 104, 3) := by decide +kernel
theorem dX2_retry_56 : decode cX2_retry 56 = .ok (.ifCond .eq 13, 3) := by decide +kernel
theorem dX2_retry_59 : decode cX2_retry 59 = .ok (.new 99, 3) := by decide +kernel
theorem dX2_retry_62 : decode cX2_retry 62 = .ok (.dup, 1) := by decide +kernel
theorem dX2_retry_63 : decode cX2_retry 63 = .ok (.ldc 128, 2) := by decide +kernel
theorem dX2_retry_65 : decode cX2_retry 65 = .ok (.invokespecial 103, 3) := by decide +kernel
theorem dX2_retry_68 : decode cX2_retry 68 = .ok (.athrow, 1) := by decide +kernel
theorem dX2_retry_69 : decode cX2_retry 69 = .ok (.aload 4, 2) := by decide +kernel
theorem dX2_retry_71 : decode cX2_retry 71 = .ok (.iload_n 2, 1) := by decide +kernel
theorem dX2_retry_72 : decode cX2_retry 72 = .ok (.putfield 130, 3) := by decide +kernel
theorem dX2_retry_75 : decode cX2_retry 75 = .ok (.aload 4, 2) := by decide +kernel
theorem dX2_retry_77 : decode cX2_retry 77 = .ok (.iload_n 3, 1) := by decide +kernel
theorem dX2_retry_78 : decode cX2_retry 78 = .ok (.putfield 133, 3) := by decide +kernel
theorem dX2_retry_81 : decode cX2_retry 81 = .ok (.return_, 1) := by decide +kernel
set_option maxRecDepth 20000 in
theorem ggX2_step_X2_requireNotJammed : GoodIn wsX2_step wsX2_requireNotJammed := goodIn_ca (goodIn_r _ [8, 9, 10, 11, 80, 81, 82, 83, 84, 85, 86, 87, 88, 89] (by decide +kernel) (by decide +kernel)) (goodIn_sub (fun _ h => List.mem_cons_of_mem _ (List.mem_append_right _ h)) (by decide +kernel))
set_option maxRecDepth 20000 in
theorem gX2_step_X2_requireNotJammed : GoodIn wsX2_step (wsV RX2 90 RX2 yX2_requireNotJammed wsX2_requireNotJammed) := goodIn_app (goodIn_of _ (by decide +kernel)) ggX2_step_X2_requireNotJammed
set_option maxRecDepth 20000 in
theorem ggX2_step_X1_size : GoodIn wsX2_step wsX1_size := goodIn_r _ [16, 17, 90, 91] (by decide +kernel) (by decide +kernel)
set_option maxRecDepth 20000 in
theorem gX2_step_X1_size : GoodIn wsX2_step (wsV RX2 64 RX1 yX1_size wsX1_size) := goodIn_app (goodIn_of _ (by decide +kernel)) ggX2_step_X1_size
set_option maxRecDepth 20000 in
theorem ggX2_step_X2_makeOneStep : GoodIn wsX2_step wsX2_makeOneStep := goodIn_r _ [21, 22, 23, 24, 25, 26, 27, 7, 28, 29, 30, 31, 32, 33, 34, 35, 36, 37, 38, 39, 40, 41, 42, 43, 44, 45, 46, 47, 48, 49, 50, 51, 52, 53, 54, 55, 56, 57, 58, 59, 60, 61, 62, 63, 64, 3, 65, 66, 67, 15, 68, 69, 17, 70, 71, 72, 73, 74, 75, 76, 77, 78, 79, 80, 81, 82, 83, 84, 85, 86, 87, 88, 89, 92, 93, 94, 95, 96, 97, 98, 99, 100, 101, 102, 103, 90, 91] (by decide +kernel) (by decide +kernel)
set_option maxRecDepth 20000 in
theorem gX2_step_X2_makeOneStep : GoodIn wsX2_step (wsV RX2 138 RX2 yX2_makeOneStep wsX2_makeOneStep) := goodIn_app (goodIn_of _ (by decide +kernel)) ggX2_step_X2_makeOneStep
theorem dX2_step_0 : decode cX2_step 0 = .ok (.iload_n 1, 1) := by decide +kernel
theorem dX2_step_1 : decode cX2_step 1 = .ok (.ifCond .lt 9, 3) := by decide +kernel
theorem dX2_step_4 : decode cX2_step 4 = .ok (.iload_n 1, 1) := by decide +kernel
theorem dX2_step_5 : decode cX2_step 5 = .ok (.bipush 100, 2) := by decide +kernel
theorem dX2_step_7 : decode cX2_step 7 = .ok (.if_icmp .le 13, 3) := by decide +kernel
theorem dX2_step_10 : decode cX2_step 10 = .ok (.new 82, 3) := by decide +kernel
theorem dX2_step_13 : decode cX2_step 13 = .ok (.dup, 1) := by decide +kernel
theorem dX2_step_14 : decode cX2_step 14 = .ok (.ldc 136, 2) := by decide +kernel
theorem dX2_step_16 : decode cX2_step 16 = .ok (.invokespecial 86, 3) := by decide +kernel
theorem dX2_step_19 : decode cX2_step 19 = .ok (.athrow, 1) := by decide +kernel
theorem dX2_step_20 : decode cX2_step 20 = .ok (.aload_n 0, 1) := by decide +kernel
theorem dX2_step_21 : decode cX2_step 21 = .ok (.invokevirtual 90, 3) := by decide +kernel
theorem dX2_step_24 : decode cX2_step 24 = .ok (.aload_n 0, 1) := by decide +kernel
theorem dX2_step_25 : decode cX2_step 25 = .ok (.getfield 18, 3) := by decide +kernel
theorem dX2_step_28 : decode cX2_step 28 = .ok (.invokevirtual 64, 3) := by decide +kernel
theorem dX2_step_31 : decode cX2_step 31 = .ok (.istore_n 2, 1) := by decide +kernel
theorem dX2_step_32 : decode cX2_step 32 = .ok (.iconst 0, 1) := by decide +kernel
theorem dX2_step_33 : decode cX2_step 33 = .ok (.istore_n 3, 1) := by decide +kernel
theorem dX2_step_34 : decode cX2_step 34 = .ok (.iload_n 3, 1) := by decide +kernel
theorem dX2_step_35 : decode cX2_step 35 = .ok (.iload_n 1, 1) := by decide +kernel
theorem dX2_step_36 : decode cX2_step 36 = .ok (.if_icmp .ge 13, 3) := by decide +kernel
theorem dX2_step_39 : decode cX2_step 39 = .ok (.aload_n 0, 1) := by decide +kernel
theorem dX2_step_40 : decode cX2_step 40 = .ok (.invokevirtual 138, 3) := by decide +kernel
theorem dX2_step_43 : decode cX2_step 43 = .ok (.iinc 3 1, 3) := by decide +kernel
theorem dX2_step_46 : decode cX2_step 46 = .ok (.goto (-12), 3) := by decide +kernel
theorem dX2_step_49 : decode cX2_step 49 = .ok (.aload_n 0, 1) := by decide +kernel
theorem dX2_step_50 : decode cX2_step 50 = .ok (.getfield 18, 3) := by decide +kernel
theorem dX2_step_53 : decode cX2_step 53 = .ok (.invokevirtual 64, 3) := by decide +kernel
theorem dX2_step_56 : decode cX2_step 56 = .ok (.iload_n 2, 1) := by decide +kernel
theorem dX2_step_57 : decode cX2_step 57 = .ok (.isub, 1) := by decide +kernel
theorem dX2_step_58 : decode cX2_step 58 = .ok (.ireturn, 1) := by decide +kernel
set_option maxRecDepth 20000 in
theorem ggX2_out_X1_at : GoodIn wsX2_out wsX1_at := goodIn_r _ [12, 13, 14, 37, 38] (by decide +kernel) (by decide +kernel)
set_option maxRecDepth 20000 in
theorem gX2_out_X1_at : GoodIn wsX2_out (wsV RX2 141 RX1 yX1_at wsX1_at) := goodIn_app (goodIn_of _ (by decide +kernel)) ggX2_out_X1_at
theorem dX2_out_0 : decode cX2_out 0 = .ok (.aload_n 0, 1) := by decide +kernel
theorem dX2_out_1 : decode cX2_out 1 = .ok (.getfield 18, 3) := by decide +kernel
theorem dX2_out_4 : decode cX2_out 4 = .ok (.iload_n 1, 1) := by decide +kernel
theorem dX2_out_5 : decode cX2_out 5 = .ok (.invokevirtual 141, 3) := by decide +kernel
theorem dX2_out_8 : decode cX2_out 8 = .ok (.astore_n 3, 1) := by decide +kernel
theorem dX2_out_9 : decode cX2_out 9 = .ok (.aload_n 3, 1) := by decide +kernel
theorem dX2_out_10 : decode cX2_out 10 = .ok (.ifnonnull 13, 3) := by decide +kernel
theorem dX2_out_13 : decode cX2_out 13 = .ok (.new 82, 3) := by decide +kernel
theorem dX2_out_16 : decode cX2_out 16 = .ok (.dup, 1) := by decide +kernel
theorem dX2_out_17 : decode cX2_out 17 = .ok (.ldc 144, 2) := by decide +kernel
theorem dX2_out_19 : decode cX2_out 19 = .ok (.invokespecial 86, 3) := by decide +kernel
theorem dX2_out_22 : decode cX2_out 22 = .ok (.athrow, 1) := by decide +kernel
theorem dX2_out_23 : decode cX2_out 23 = .ok (.iload_n 2, 1) := by decide +kernel
theorem dX2_out_24 : decode cX2_out 24 = .ok (.tableswitch 52 0 3 #[32, 37, 42, 47], 32) := by decide +kernel
theorem dX2_out_56 : decode cX2_out 56 = .ok (.aload_n 3, 1) := by decide +kernel
theorem dX2_out_57 : decode cX2_out 57 = .ok (.getfield 75, 3) := by decide +kernel
theorem dX2_out_60 : decode cX2_out 60 = .ok (.ireturn, 1) := by decide +kernel
theorem dX2_out_61 : decode cX2_out 61 = .ok (.aload_n 3, 1) := by decide +kernel
theorem dX2_out_62 : decode cX2_out 62 = .ok (.getfield 146, 3) := by decide +kernel
theorem dX2_out_65 : decode cX2_out 65 = .ok (.ireturn, 1) := by decide +kernel
theorem dX2_out_66 : decode cX2_out 66 = .ok (.aload_n 3, 1) := by decide +kernel
theorem dX2_out_67 : decode cX2_out 67 = .ok (.getfield 149, 3) := by decide +kernel
theorem dX2_out_70 : decode cX2_out 70 = .ok (.ireturn, 1) := by decide +kernel
theorem dX2_out_71 : decode cX2_out 71 = .ok (.aload_n 3, 1) := by decide +kernel
theorem dX2_out_72 : decode cX2_out 72 = .ok (.getfield 152, 3) := by decide +kernel
theorem dX2_out_75 : decode cX2_out 75 = .ok (.ireturn, 1) := by decide +kernel
theorem dX2_out_76 : decode cX2_out 76 = .ok (.new 82, 3) := by decide +kernel
theorem dX2_out_79 : decode cX2_out 79 = .ok (.dup, 1) := by decide +kernel
theorem dX2_out_80 : decode cX2_out 80 = .ok (.ldc 155, 2) := by decide +kernel
theorem dX2_out_82 : decode cX2_out 82 = .ok (.invokespecial 86, 3) := by decide +kernel
theorem dX2_out_85 : decode cX2_out 85 = .ok (.athrow, 1) := by decide +kernel
set_option maxRecDepth 20000 in
theorem ggX2_chute_X2_requireChute : GoodIn wsX2_chute wsX2_requireChute := goodIn_ca (goodIn_r _ [5, 6, 7, 8, 9, 10, 4, 11, 12, 21, 22, 23, 24, 25, 26, 27, 28, 29, 30] (by decide +kernel) (by decide +kernel)) (goodIn_sub (fun _ h => List.mem_cons_of_mem _ (List.mem_append_right _ h)) (by decide +kernel))
set_option maxRecDepth 20000 in
theorem gX2_chute_X2_requireChute : GoodIn wsX2_chute (wsV RX2 157 RX2 yX2_requireChute wsX2_requireChute) := goodIn_app (goodIn_of _ (by decide +kernel)) ggX2_chute_X2_requireChute
set_option maxRecDepth 20000 in
theorem ggX2_chute_X2_isFull : GoodIn wsX2_chute wsX2_isFull := goodIn_r _ [16, 12, 8, 9, 10, 4, 11, 21, 22, 23, 24, 25, 26, 27, 28, 29, 30] (by decide +kernel) (by decide +kernel)
set_option maxRecDepth 20000 in
theorem gX2_chute_X2_isFull : GoodIn wsX2_chute (wsV RX2 160 RX2 yX2_isFull wsX2_isFull) := goodIn_app (goodIn_of _ (by decide +kernel)) ggX2_chute_X2_isFull
set_option maxRecDepth 20000 in
theorem ggX2_chute_X2_setFull : GoodIn wsX2_chute wsX2_setFull := goodIn_r _ [20, 12, 8, 9, 10, 4, 11, 21, 22, 23, 24, 25, 26, 27, 28, 29, 30] (by decide +kernel) (by decide +kernel)
set_option maxRecDepth 20000 in
theorem gX2_chute_X2_setFull : GoodIn wsX2_chute (wsV RX2 164 RX2 yX2_setFull wsX2_setFull) := goodIn_app (goodIn_of _ (by decide +kernel)) ggX2_chute_X2_setFull
theorem dX2_chute_0 : decode cX2_chute 0 = .ok (.aload_n 0, 1) := by decide +kernel
theorem dX2_chute_1 : decode cX2_chute 1 = .ok (.iload_n 1, 1) := by decide +kernel
theorem dX2_chute_2 : decode cX2_chute 2 = .ok (.invokevirtual 157, 3) := by decide +kernel
theorem dX2_chute_5 : decode cX2_chute 5 = .ok (.aload_n 0, 1) := by decide +kernel
theorem dX2_chute_6 : decode cX2_chute 6 = .ok (.iload_n 1, 1) := by decide +kernel
theorem dX2_chute_7 : decode cX2_chute 7 = .ok (.invokevirtual 160, 3) := by decide +kernel
theorem dX2_chute_10 : decode cX2_chute 10 = .ok (.istore_n 3, 1) := by decide +kernel
theorem dX2_chute_11 : decode cX2_chute 11 = .ok (.aload_n 0, 1) := by decide +kernel
theorem dX2_chute_12 : decode cX2_chute 12 = .ok (.iload_n 1, 1) := by decide +kernel
theorem dX2_chute_13 : decode cX2_chute 13 = .ok (.iload_n 2, 1) := by decide +kernel
theorem dX2_chute_14 : decode cX2_chute 14 = .ok (.invokevirtual 164, 3) := by decide +kernel
theorem dX2_chute_17 : decode cX2_chute 17 = .ok (.iload_n 3, 1) := by decide +kernel
theorem dX2_chute_18 : decode cX2_chute 18 = .ok (.ireturn, 1) := by decide +kernel
set_option maxRecDepth 20000 in
theorem ggX2_jam_X2_isInLoop : GoodIn wsX2_jam wsX2_isInLoop := goodIn_r _ [9, 10, 51, 52, 53, 54, 55, 56, 57, 58, 59, 60] (by decide +kernel) (by decide +kernel)
set_option maxRecDepth 20000 in
theorem gX2_jam_X2_isInLoop : GoodIn wsX2_jam (wsV RX2 168 RX2 yX2_isInLoop wsX2_isInLoop) := goodIn_app (goodIn_of _ (by decide +kernel)) ggX2_jam_X2_isInLoop
set_option maxRecDepth 20000 in
theorem ggX2_jam_X2_requireNotJammed : GoodIn wsX2_jam wsX2_requireNotJammed := goodIn_ca (goodIn_r _ [14, 15, 16, 3, 51, 52, 53, 54, 55, 56, 57, 58, 59, 60] (by decide +kernel) (by decide +kernel)) (goodIn_sub (fun _ h => List.mem_cons_of_mem _ (List.mem_append_right _ h)) (by decide +kernel))
set_option maxRecDepth 20000 in
theorem gX2_jam_X2_requireNotJammed : GoodIn wsX2_jam (wsV RX2 90 RX2 yX2_requireNotJammed wsX2_requireNotJammed) := goodIn_app (goodIn_of _ (by decide +kernel)) ggX2_jam_X2_requireNotJammed
set_option maxRecDepth 20000 in
theorem ggX2_jam_X2_intoLoop : GoodIn wsX2_jam wsX2_intoLoop := goodIn_r _ [20, 10, 51, 52, 53, 54, 55, 56, 57, 58, 59, 60] (by decide +kernel) (by decide +kernel)
set_option maxRecDepth 20000 in
theorem gX2_jam_X2_intoLoop : GoodIn wsX2_jam (wsV RX2 177 RX2 yX2_intoLoop wsX2_intoLoop) := goodIn_app (goodIn_of _ (by decide +kernel)) ggX2_jam_X2_intoLoop
set_option maxRecDepth 20000 in
theorem ggX2_jam_X2_doubtItemAt : GoodIn wsX2_jam wsX2_doubtItemAt := goodIn_r _ [24, 25, 26, 4, 27, 28, 29, 8, 30, 10, 31, 32, 33, 34, 35, 17, 18, 19, 20, 5, 6, 7, 9, 36, 37, 38, 39, 40, 41, 42, 43, 44, 45, 46, 61, 62, 63, 64, 65, 66, 67, 68, 69, 70, 71, 72, 51, 52, 53, 54, 55, 56, 57, 58, 59, 60, 73, 74] (by decide +kernel) (by decide +kernel)
set_option maxRecDepth 20000 in
theorem gX2_jam_X2_doubtItemAt : GoodIn wsX2_jam (wsV RX2 180 RX2 yX2_doubtItemAt wsX2_doubtItemAt) := goodIn_app (goodIn_of _ (by decide +kernel)) ggX2_jam_X2_doubtItemAt
set_option maxRecDepth 20000 in
theorem ggX2_jam_X1_size : GoodIn wsX2_jam wsX1_size := goodIn_r _ [50, 42, 73, 74] (by decide +kernel) (by decide +kernel)
set_option maxRecDepth 20000 in
theorem gX2_jam_X1_size : GoodIn wsX2_jam (wsV RX2 64 RX1 yX1_size wsX1_size) := goodIn_app (goodIn_of _ (by decide +kernel)) ggX2_jam_X1_size
theorem dX2_jam_0 : decode cX2_jam 0 = .ok (.aload_n 0, 1) := by decide +kernel
theorem dX2_jam_1 : decode cX2_jam 1 = .ok (.iload_n 1, 1) := by decide +kernel
theorem dX2_jam_2 : decode cX2_jam 2 = .ok (.invokevirtual 168, 3) := by decide +kernel
theorem dX2_jam_5 : decode cX2_jam 5 = .ok (.ifCond .eq 11, 3) := by decide +kernel
theorem dX2_jam_8 : decode cX2_jam 8 = .ok (.aload_n 0, 1) := by decide +kernel
theorem dX2_jam_9 : decode cX2_jam 9 = .ok (.iload_n 2, 1) := by decide +kernel
theorem dX2_jam_10 : decode cX2_jam 10 = .ok (.invokevirtual 168, 3) := by decide +kernel
theorem dX2_jam_13 : decode cX2_jam 13 = .ok (.ifCond .ne 13, 3) := by decide +kernel
theorem dX2_jam_16 : decode cX2_jam 16 = .ok (.new 82, 3) := by decide +kernel
theorem dX2_jam_19 : decode cX2_jam 19 = .ok (.dup, 1) := by decide +kernel
theorem dX2_jam_20 : decode cX2_jam 20 = .ok (.ldc 171, 2) := by decide +kernel
theorem dX2_jam_22 : decode cX2_jam 22 = .ok (.invokespecial 86, 3) := by decide +kernel
theorem dX2_jam_25 : decode cX2_jam 25 = .ok (.athrow, 1) := by decide +kernel
theorem dX2_jam_26 : decode cX2_jam 26 = .ok (.aload_n 0, 1) := by decide +kernel
theorem dX2_jam_27 : decode cX2_jam 27 = .ok (.invokevirtual 90, 3) := by decide +kernel
theorem dX2_jam_30 : decode cX2_jam 30 = .ok (.aload_n 0, 1) := by decide +kernel
theorem dX2_jam_31 : decode cX2_jam 31 = .ok (.iconst 1, 1) := by decide +kernel
theorem dX2_jam_32 : decode cX2_jam 32 = .ok (.putfield 173, 3) := by decide +kernel
theorem dX2_jam_35 : decode cX2_jam 35 = .ok (.aload_n 0, 1) := by decide +kernel
theorem dX2_jam_36 : decode cX2_jam 36 = .ok (.iload_n 2, 1) := by decide +kernel
theorem dX2_jam_37 : decode cX2_jam 37 = .ok (.iload_n 1, 1) := by decide +kernel
theorem dX2_jam_38 : decode cX2_jam 38 = .ok (.isub, 1) := by decide +kernel
theorem dX2_jam_39 : decode cX2_jam 39 = .ok (.invokevirtual 177, 3) := by decide +kernel
theorem dX2_jam_42 : decode cX2_jam 42 = .ok (.istore_n 3, 1) := by decide +kernel
theorem dX2_jam_43 : decode cX2_jam 43 = .ok (.iconst 0, 1) := by decide +kernel
theorem dX2_jam_44 : decode cX2_jam 44 = .ok (.istore 4, 2) := by decide +kernel
theorem dX2_jam_46 : decode cX2_jam 46 = .ok (.iload 4, 2) := by decide +kernel
theorem dX2_jam_48 : decode cX2_jam 48 = .ok (.iload_n 3, 1) := by decide +kernel
theorem dX2_jam_49 : decode cX2_jam 49 = .ok (.if_icmp .gt 21, 3) := by decide +kernel
theorem dX2_jam_52 : decode cX2_jam 52 = .ok (.aload_n 0, 1) := by decide +kernel
theorem dX2_jam_53 : decode cX2_jam 53 = .ok (.aload_n 0, 1) := by decide +kernel
theorem dX2_jam_54 : decode cX2_jam 54 = .ok (.iload_n 1, 1) := by decide +kernel
theorem dX2_jam_55 : decode cX2_jam 55 = .ok (.iload 4, 2) := by decide +kernel
theorem dX2_jam_57 : decode cX2_jam 57 = .ok (.iadd, 1) := by decide +kernel
theorem dX2_jam_58 : decode cX2_jam 58 = .ok (.invokevirtual 177, 3) := by decide +kernel
theorem dX2_jam_61 : decode cX2_jam 61 = .ok (.invokevirtual 180, 3) := by decide +kernel
theorem dX2_jam_64 : decode cX2_jam 64 = .ok (.iinc 4 1, 3) := by decide +kernel
theorem dX2_jam_67 : decode cX2_jam 67 = .ok (.goto (-21), 3) := by decide +kernel
theorem dX2_jam_70 : decode cX2_jam 70 = .ok (.aload_n 0, 1) := by decide +kernel
theorem dX2_jam_71 : decode cX2_jam 71 = .ok (.getfield 21, 3) := by decide +kernel
theorem dX2_jam_74 : decode cX2_jam 74 = .ok (.invokevirtual 64, 3) := by decide +kernel
theorem dX2_jam_77 : decode cX2_jam 77 = .ok (.ireturn, 1) := by decide +kernel
set_option maxRecDepth 20000 in
theorem ggX2_doubt_X1_at : GoodIn wsX2_doubt wsX1_at := goodIn_r _ [7, 8, 9, 32, 33] (by decide +kernel) (by decide +kernel)
set_option maxRecDepth 20000 in
theorem gX2_doubt_X1_at : GoodIn wsX2_doubt (wsV RX2 141 RX1 yX1_at wsX1_at) := goodIn_app (goodIn_of _ (by decide +kernel)) ggX2_doubt_X1_at
theorem dX2_doubt_0 : decode cX2_doubt 0 = .ok (.aload_n 0, 1) := by decide +kernel
theorem dX2_doubt_1 : decode cX2_doubt 1 = .ok (.getfield 21, 3) := by decide +kernel
theorem dX2_doubt_4 : decode cX2_doubt 4 = .ok (.iload_n 1, 1) := by decide +kernel
theorem dX2_doubt_5 : decode cX2_doubt 5 = .ok (.invokevirtual 141, 3) := by decide +kernel
theorem dX2_doubt_8 : decode cX2_doubt 8 = .ok (.astore_n 2, 1) := by decide +kernel
theorem dX2_doubt_9 : decode cX2_doubt 9 = .ok (.aload_n 2, 1) := by decide +kernel
theorem dX2_doubt_10 : decode cX2_doubt 10 = .ok (.ifnonnull 7, 3) := by decide +kernel
theorem dX2_doubt_13 : decode cX2_doubt 13 = .ok (.iconst (-1), 1) := by decide +kernel
theorem dX2_doubt_14 : decode cX2_doubt 14 = .ok (.goto 7, 3) := by decide +kernel
theorem dX2_doubt_17 : decode cX2_doubt 17 = .ok (.aload_n 2, 1) := by decide +kernel
theorem dX2_doubt_18 : decode cX2_doubt 18 = .ok (.getfield 75, 3) := by decide +kernel
theorem dX2_doubt_21 : decode cX2_doubt 21 = .ok (.ireturn, 1) := by decide +kernel
set_option maxRecDepth 20000 in
theorem ggX2_found_X2_itemNumbered : GoodIn wsX2_found wsX2_itemNumbered := goodIn_ca (goodIn_r _ [9, 10, 11, 12, 13, 14, 15, 16, 17, 18, 19, 41, 42, 43, 44, 45, 46, 47, 48, 49, 50, 51, 52] (by decide +kernel) (by decide +kernel)) (goodIn_sub (fun _ h => List.mem_cons_of_mem _ (List.mem_append_right _ h)) (by decide +kernel))
set_option maxRecDepth 20000 in
theorem gX2_found_X2_itemNumbered : GoodIn wsX2_found (wsV RX2 78 RX2 yX2_itemNumbered wsX2_itemNumbered) := goodIn_app (goodIn_of _ (by decide +kernel)) ggX2_found_X2_itemNumbered
set_option maxRecDepth 20000 in
theorem ggX2_found_X2_countNotFound : GoodIn wsX2_found wsX2_countNotFound := goodIn_r _ [23, 24, 4, 25, 26, 27, 16, 28, 18, 13, 14, 15, 17, 19, 41, 42, 43, 44, 45, 46, 47, 48, 49, 50, 29, 30, 31, 32, 33, 34, 35, 36, 37, 38, 39, 40, 51, 52] (by decide +kernel) (by decide +kernel)
set_option maxRecDepth 20000 in
theorem gX2_found_X2_countNotFound : GoodIn wsX2_found (wsV RX2 190 RX2 yX2_countNotFound wsX2_countNotFound) := goodIn_app (goodIn_of _ (by decide +kernel)) ggX2_found_X2_countNotFound
theorem dX2_found_0 : decode cX2_found 0 = .ok (.aload_n 0, 1) := by decide +kernel
theorem dX2_found_1 : decode cX2_found 1 = .ok (.iload_n 1, 1) := by decide +kernel
theorem dX2_found_2 : decode cX2_found 2 = .ok (.invokevirtual 78, 3) := by decide +kernel
theorem dX2_found_5 : decode cX2_found 5 = .ok (.astore_n 3, 1) := by decide +kernel
theorem dX2_found_6 : decode cX2_found 6 = .ok (.aload_n 3, 1) := by decide +kernel
theorem dX2_found_7 : decode cX2_found 7 = .ok (.getfield 183, 3) := by decide +kernel
theorem dX2_found_10 : decode cX2_found 10 = .ok (.ifCond .ne 13, 3) := by decide +kernel
theorem dX2_found_13 : decode cX2_found 13 = .ok (.new 99, 3) := by decide +kernel
theorem dX2_found_16 : decode cX2_found 16 = .ok (.dup, 1) := by decide +kernel
theorem dX2_found_17 : decode cX2_found 17 = .ok (.ldc 185, 2) := by decide +kernel
theorem dX2_found_19 : decode cX2_found 19 = .ok (.invokespecial 103, 3) := by decide +kernel
theorem dX2_found_22 : decode cX2_found 22 = .ok (.athrow, 1) := by decide +kernel
theorem dX2_found_23 : decode cX2_found 23 = .ok (.aload_n 3, 1) := by decide +kernel
theorem dX2_found_24 : decode cX2_found 24 = .ok (.iload_n 2, 1) := by decide +kernel
theorem dX2_found_25 : decode cX2_found 25 = .ok (.putfield 187, 3) := by decide +kernel
theorem dX2_found_28 : decode cX2_found 28 = .ok (.aload_n 0, 1) := by decide +kernel
theorem dX2_found_29 : decode cX2_found 29 = .ok (.invokevirtual 190, 3) := by decide +kernel
theorem dX2_found_32 : decode cX2_found 32 = .ok (.ireturn, 1) := by decide +kernel
set_option maxRecDepth 20000 in
theorem ggX2_retrack_X1_size : GoodIn wsX2_retrack wsX1_size := goodIn_r _ [10, 11, 60, 61] (by decide +kernel) (by decide +kernel)
set_option maxRecDepth 20000 in
theorem gX2_retrack_X1_size : GoodIn wsX2_retrack (wsV RX2 64 RX1 yX1_size wsX1_size) := goodIn_app (goodIn_of _ (by decide +kernel)) ggX2_retrack_X1_size
set_option maxRecDepth 20000 in
theorem ggX2_retrack_X1_at : GoodIn wsX2_retrack wsX1_at := goodIn_r _ [15, 11, 16, 60, 61] (by decide +kernel) (by decide +kernel)
set_option maxRecDepth 20000 in
theorem gX2_retrack_X1_at : GoodIn wsX2_retrack (wsV RX2 141 RX1 yX1_at wsX1_at) := goodIn_app (goodIn_of _ (by decide +kernel)) ggX2_retrack_X1_at
set_option maxRecDepth 20000 in
theorem ggX2_retrack_X2_endDoubt : GoodIn wsX2_retrack wsX2_endDoubt := goodIn_r _ [21, 22, 23, 24, 25, 26, 20, 27, 28, 29, 30, 31, 32, 33, 4, 34, 35, 36, 37, 38, 39, 40, 9, 41, 16, 11, 42, 43, 44, 45, 62, 63, 64, 65, 66, 67, 68, 69, 70, 71, 72, 73, 50, 51, 52, 53, 54, 55, 56, 57, 58, 59, 60, 61] (by decide +kernel) (by decide +kernel)
set_option maxRecDepth 20000 in
theorem gX2_retrack_X2_endDoubt : GoodIn wsX2_retrack (wsV RX2 195 RX2 yX2_endDoubt wsX2_endDoubt) := goodIn_app (goodIn_of _ (by decide +kernel)) ggX2_retrack_X2_endDoubt
set_option maxRecDepth 20000 in
theorem ggX2_retrack_X1_clear : GoodIn wsX2_retrack wsX1_clear := goodIn_r _ [49, 11, 60, 61] (by decide +kernel) (by decide +kernel)
set_option maxRecDepth 20000 in
theorem gX2_retrack_X1_clear : GoodIn wsX2_retrack (wsV RX2 198 RX1 yX1_clear wsX1_clear) := goodIn_app (goodIn_of _ (by decide +kernel)) ggX2_retrack_X1_clear
theorem dX2_retrack_0 : decode cX2_retrack 0 = .ok (.aload_n 0, 1) := by decide +kernel
theorem dX2_retrack_1 : decode cX2_retrack 1 = .ok (.getfield 173, 3) := by decide +kernel
theorem dX2_retrack_4 : decode cX2_retrack 4 = .ok (.ifCond .ne 13, 3) := by decide +kernel
theorem dX2_retrack_7 : decode cX2_retrack 7 = .ok (.new 99, 3) := by decide +kernel
theorem dX2_retrack_10 : decode cX2_retrack 10 = .ok (.dup, 1) := by decide +kernel
theorem dX2_retrack_11 : decode cX2_retrack 11 = .ok (.ldc 193, 2) := by decide +kernel
theorem dX2_retrack_13 : decode cX2_retrack 13 = .ok (.invokespecial 103, 3) := by decide +kernel
theorem dX2_retrack_16 : decode cX2_retrack 16 = .ok (.athrow, 1) := by decide +kernel
theorem dX2_retrack_17 : decode cX2_retrack 17 = .ok (.aload_n 0, 1) := by decide +kernel
theorem dX2_retrack_18 : decode cX2_retrack 18 = .ok (.getfield 18, 3) := by decide +kernel
theorem dX2_retrack_21 : decode cX2_retrack 21 = .ok (.invokevirtual 64, 3) := by decide +kernel
theorem dX2_retrack_24 : decode cX2_retrack 24 = .ok (.istore_n 1, 1) := by decide +kernel
theorem dX2_retrack_25 : decode cX2_retrack 25 = .ok (.iconst 0, 1) := by decide +kernel
theorem dX2_retrack_26 : decode cX2_retrack 26 = .ok (.istore_n 2, 1) := by decide +kernel
theorem dX2_retrack_27 : decode cX2_retrack 27 = .ok (.iload_n 2, 1) := by decide +kernel
theorem dX2_retrack_28 : decode cX2_retrack 28 = .ok (.aload_n 0, 1) := by decide +kernel
theorem dX2_retrack_29 : decode cX2_retrack 29 = .ok (.getfield 21, 3) := by decide +kernel
theorem dX2_retrack_32 : decode cX2_retrack 32 = .ok (.invokevirtual 64, 3) := by decide +kernel
theorem dX2_retrack_35 : decode cX2_retrack 35 = .ok (.if_icmp .ge 21, 3) := by decide +kernel
theorem dX2_retrack_38 : decode cX2_retrack 38 = .ok (.aload_n 0, 1) := by decide +kernel
theorem dX2_retrack_39 : decode cX2_retrack 39 = .ok (.aload_n 0, 1) := by decide +kernel
theorem dX2_retrack_40 : decode cX2_retrack 40 = .ok (.getfield 21, 3) := by decide +kernel
theorem dX2_retrack_43 : decode cX2_retrack 43 = .ok (.iload_n 2, 1) := by decide +kernel
theorem dX2_retrack_44 : decode cX2_retrack 44 = .ok (.invokevirtual 141, 3) := by decide +kernel
theorem dX2_retrack_47 : decode cX2_retrack 47 = .ok (.invokevirtual 195, 3) := by decide +kernel
theorem dX2_retrack_50 : decode cX2_retrack 50 = .ok (.iinc 2 1, 3) := by decide +kernel
theorem dX2_retrack_53 : decode cX2_retrack 53 = .ok (.goto (-26), 3) := by decide +kernel
theorem dX2_retrack_56 : decode cX2_retrack 56 = .ok (.aload_n 0, 1) := by decide +kernel
theorem dX2_retrack_57 : decode cX2_retrack 57 = .ok (.getfield 21, 3) := by decide +kernel
theorem dX2_retrack_60 : decode cX2_retrack 60 = .ok (.invokevirtual 198, 3) := by decide +kernel
theorem dX2_retrack_63 : decode cX2_retrack 63 = .ok (.aload_n 0, 1) := by decide +kernel
theorem dX2_retrack_64 : decode cX2_retrack 64 = .ok (.iconst 0, 1) := by decide +kernel
theorem dX2_retrack_65 : decode cX2_retrack 65 = .ok (.putfield 173, 3) := by decide +kernel
theorem dX2_retrack_68 : decode cX2_retrack 68 = .ok (.aload_n 0, 1) := by decide +kernel
theorem dX2_retrack_69 : decode cX2_retrack 69 = .ok (.getfield 18, 3) := by decide +kernel
theorem dX2_retrack_72 : decode cX2_retrack 72 = .ok (.invokevirtual 64, 3) := by decide +kernel
theorem dX2_retrack_75 : decode cX2_retrack 75 = .ok (.iload_n 1, 1) := by decide +kernel
theorem dX2_retrack_76 : decode cX2_retrack 76 = .ok (.isub, 1) := by decide +kernel
theorem dX2_retrack_77 : decode cX2_retrack 77 = .ok (.ireturn, 1) := by decide +kernel
set_option maxRecDepth 20000 in
theorem ggX2_manual_X2_itemNumbered : GoodIn wsX2_manual wsX2_itemNumbered := goodIn_ca (goodIn_r _ [8, 9, 10, 11, 12, 13, 14, 15, 16, 17, 18, 44, 45, 46, 47, 48, 49, 50, 51, 52, 53, 54, 55] (by decide +kernel) (by decide +kernel)) (goodIn_sub (fun _ h => List.mem_cons_of_mem _ (List.mem_append_right _ h)) (by decide +kernel))
set_option maxRecDepth 20000 in
theorem gX2_manual_X2_itemNumbered : GoodIn wsX2_manual (wsV RX2 78 RX2 yX2_itemNumbered wsX2_itemNumbered) := goodIn_app (goodIn_of _ (by decide +kernel)) ggX2_manual_X2_itemNumbered
set_option maxRecDepth 20000 in
theorem ggX2_manual_X2_requireChute : GoodIn wsX2_manual wsX2_requireChute := goodIn_ca (goodIn_r _ [22, 9, 10, 23, 24, 25, 7, 26, 27, 44, 45, 46, 47, 48, 49, 50, 51, 52, 53] (by decide +kernel) (by decide +kernel)) (goodIn_sub (fun _ h => List.mem_cons_of_mem _ (List.mem_append_right _ h)) (by decide +kernel))
set_option maxRecDepth 20000 in
theorem gX2_manual_X2_requireChute : GoodIn wsX2_manual (wsV RX2 157 RX2 yX2_requireChute wsX2_requireChute) := goodIn_app (goodIn_of _ (by decide +kernel)) ggX2_manual_X2_requireChute
set_option maxRecDepth 20000 in
theorem ggX2_manual_X2_isFull : GoodIn wsX2_manual wsX2_isFull := goodIn_r _ [31, 27, 23, 24, 25, 7, 26, 44, 45, 46, 47, 48, 49, 50, 51, 52, 53] (by decide +kernel) (by decide +kernel)
set_option maxRecDepth 20000 in
theorem gX2_manual_X2_isFull : GoodIn wsX2_manual (wsV RX2 160 RX2 yX2_isFull wsX2_isFull) := goodIn_app (goodIn_of _ (by decide +kernel)) ggX2_manual_X2_isFull
theorem dX2_manual_0 : decode cX2_manual 0 = .ok (.aload_n 0, 1) := by decide +kernel
theorem dX2_manual_1 : decode cX2_manual 1 = .ok (.iload_n 1, 1) := by decide +kernel
theorem dX2_manual_2 : decode cX2_manual 2 = .ok (.invokevirtual 78, 3) := by decide +kernel
theorem dX2_manual_5 : decode cX2_manual 5 = .ok (.astore_n 3, 1) := by decide +kernel
theorem dX2_manual_6 : decode cX2_manual 6 = .ok (.aload_n 0, 1) := by decide +kernel
theorem dX2_manual_7 : decode cX2_manual 7 = .ok (.iload_n 2, 1) := by decide +kernel
theorem dX2_manual_8 : decode cX2_manual 8 = .ok (.invokevirtual 157, 3) := by decide +kernel
theorem dX2_manual_11 : decode cX2_manual 11 = .ok (.aload_n 3, 1) := by decide +kernel
theorem dX2_manual_12 : decode cX2_manual 12 = .ok (.getfield 123, 3) := by decide +kernel
theorem dX2_manual_15 : decode cX2_manual 15 = .ok (.iconst 3, 1) := by decide +kernel
theorem dX2_manual_16 : decode cX2_manual 16 = .ok (.if_icmp .eq 21, 3) := by decide +kernel
theorem dX2_manual_19 : decode cX2_manual 19 = .ok (.aload_n 3, 1) := by decide +kernel
theorem dX2_manual_20 : decode cX2_manual 20 = .ok (.getfield 123, 3) := by decide +kernel
theorem dX2_manual_23 : decode cX2_manual 23 = .ok (.iconst 5, 1) := by decide +kernel
theorem dX2_manual_24 : decode cX2_manual 24 = .ok (.if_icmp .eq 13, 3) := by decide +kernel
theorem dX2_manual_27 : decode cX2_manual 27 = .ok (.new 99, 3) := by decide +kernel
theorem dX2_manual_30 : decode cX2_manual 30 = .ok (.dup, 1) := by decide +kernel
theorem dX2_manual_31 : decode cX2_manual 31 = .ok (.ldc 201, 2) := by decide +kernel
theorem dX2_manual_33 : decode cX2_manual 33 = .ok (.invokespecial 103, 3) := by decide +kernel
theorem dX2_manual_36 : decode cX2_manual 36 = .ok (.athrow, 1) := by decide +kernel
theorem dX2_manual_37 : decode cX2_manual 37 = .ok (.aload_n 0, 1) := by decide +kernel
theorem dX2_manual_38 : decode cX2_manual 38 = .ok (.iload_n 2, 1) := by decide +kernel
theorem dX2_manual_39 : decode cX2_manual 39 = .ok (.invokevirtual 160, 3) := by decide +kernel
end
section
theorem dX2_manual_42 : decode cX2_manual 42 = .ok (.ifCond .eq 5, 3) := by decide +kernel
theorem dX2_manual_45 : decode cX2_manual 45 = .ok (.iconst 0, 1) := by decide +kernel
theorem dX2_manual_46 : decode cX2_manual 46 = .ok (.ireturn, 1) := by decide +kernel
theorem dX2_manual_47 : decode cX2_manual 47 = .ok (.aload_n 3, 1) := by decide +kernel
theorem dX2_manual_48 : decode cX2_manual 48 = .ok (.iconst 2, 1) := by decide +kernel
theorem dX2_manual_49 : decode cX2_manual 49 = .ok (.putfield 123, 3) := by decide +kernel
theorem dX2_manual_52 : decode cX2_manual 52 = .ok (.iconst 1, 1) := by decide +kernel
theorem dX2_manual_53 : decode cX2_manual 53 = .ok (.ireturn, 1) := by decide +kernel
set_option maxRecDepth 20000 in
theorem ggX2_tray_X2_isInLoop : GoodIn wsX2_tray wsX2_isInLoop := goodIn_r _ [10, 4, 17, 18, 19, 20, 21, 22, 23, 24, 25, 26] (by decide +kernel) (by decide +kernel)
set_option maxRecDepth 20000 in
theorem gX2_tray_X2_isInLoop : GoodIn wsX2_tray (wsV RX2 168 RX2 yX2_isInLoop wsX2_isInLoop) := goodIn_app (goodIn_of _ (by decide +kernel)) ggX2_tray_X2_isInLoop
theorem dX2_tray_0 : decode cX2_tray 0 = .ok (.aload_n 0, 1) := by decide +kernel
theorem dX2_tray_1 : decode cX2_tray 1 = .ok (.iload_n 1, 1) := by decide +kernel
theorem dX2_tray_2 : decode cX2_tray 2 = .ok (.invokevirtual 168, 3) := by decide +kernel
theorem dX2_tray_5 : decode cX2_tray 5 = .ok (.ifCond .ne 13, 3) := by decide +kernel
theorem dX2_tray_8 : decode cX2_tray 8 = .ok (.new 203, 3) := by decide +kernel
theorem dX2_tray_11 : decode cX2_tray 11 = .ok (.dup, 1) := by decide +kernel
theorem dX2_tray_12 : decode cX2_tray 12 = .ok (.ldc 205, 2) := by decide +kernel
theorem dX2_tray_14 : decode cX2_tray 14 = .ok (.invokespecial 207, 3) := by decide +kernel
theorem dX2_tray_17 : decode cX2_tray 17 = .ok (.athrow, 1) := by decide +kernel
theorem dX2_tray_18 : decode cX2_tray 18 = .ok (.aload_n 0, 1) := by decide +kernel
theorem dX2_tray_19 : decode cX2_tray 19 = .ok (.getfield 39, 3) := by decide +kernel
theorem dX2_tray_22 : decode cX2_tray 22 = .ok (.iload_n 1, 1) := by decide +kernel
theorem dX2_tray_23 : decode cX2_tray 23 = .ok (.aaload, 1) := by decide +kernel
theorem dX2_tray_24 : decode cX2_tray 24 = .ok (.astore_n 2, 1) := by decide +kernel
theorem dX2_tray_25 : decode cX2_tray 25 = .ok (.aload_n 2, 1) := by decide +kernel
theorem dX2_tray_26 : decode cX2_tray 26 = .ok (.ifnonnull 7, 3) := by decide +kernel
theorem dX2_tray_29 : decode cX2_tray 29 = .ok (.iconst 0, 1) := by decide +kernel
theorem dX2_tray_30 : decode cX2_tray 30 = .ok (.goto 7, 3) := by decide +kernel
theorem dX2_tray_33 : decode cX2_tray 33 = .ok (.aload_n 2, 1) := by decide +kernel
theorem dX2_tray_34 : decode cX2_tray 34 = .ok (.getfield 75, 3) := by decide +kernel
theorem dX2_tray_37 : decode cX2_tray 37 = .ok (.ireturn, 1) := by decide +kernel
set_option maxRecDepth 20000 in
theorem ggX2_told_X2_itemNumbered : GoodIn wsX2_told wsX2_itemNumbered := goodIn_ca (goodIn_r _ [13, 1, 2, 14, 15, 16, 17, 18, 19, 20, 21, 44, 45, 46, 47, 48, 49, 50, 51, 52, 53, 54, 55] (by decide +kernel) (by decide +kernel)) (goodIn_sub (fun _ h => List.mem_cons_of_mem _ (List.mem_append_right _ h)) (by decide +kernel))
set_option maxRecDepth 20000 in
theorem gX2_told_X2_itemNumbered : GoodIn wsX2_told (wsV RX2 78 RX2 yX2_itemNumbered wsX2_itemNumbered) := goodIn_app (goodIn_of _ (by decide +kernel)) ggX2_told_X2_itemNumbered
set_option maxRecDepth 20000 in
theorem ggX2_told_X2_positionOf : GoodIn wsX2_told wsX2_positionOf := goodIn_r _ [25, 7, 26, 27, 28, 29, 12, 30, 31, 32, 33, 34, 35, 36, 37, 38, 39, 40, 41, 42, 43, 44, 45, 46, 47, 48, 49, 50, 51, 52, 53] (by decide +kernel) (by decide +kernel)
set_option maxRecDepth 20000 in
theorem gX2_told_X2_positionOf : GoodIn wsX2_told (wsV RX2 208 RX2 yX2_positionOf wsX2_positionOf) := goodIn_app (goodIn_of _ (by decide +kernel)) ggX2_told_X2_positionOf
theorem dX2_told_0 : decode cX2_told 0 = .ok (.aload_n 0, 1) := by decide +kernel
theorem dX2_told_1 : decode cX2_told 1 = .ok (.iload_n 1, 1) := by decide +kernel
theorem dX2_told_2 : decode cX2_told 2 = .ok (.invokevirtual 78, 3) := by decide +kernel
theorem dX2_told_5 : decode cX2_told 5 = .ok (.astore_n 3, 1) := by decide +kernel
theorem dX2_told_6 : decode cX2_told 6 = .ok (.iload_n 2, 1) := by decide +kernel
theorem dX2_told_7 : decode cX2_told 7 = .ok (.tableswitch 77 0 6 #[41, 46, 51, 56, 61, 66, 72], 41) := by decide +kernel
theorem dX2_told_48 : decode cX2_told 48 = .ok (.aload_n 3, 1) := by decide +kernel
theorem dX2_told_49 : decode cX2_told 49 = .ok (.getfield 123, 3) := by decide +kernel
theorem dX2_told_52 : decode cX2_told 52 = .ok (.ireturn, 1) := by decide +kernel
theorem dX2_told_53 : decode cX2_told 53 = .ok (.aload_n 3, 1) := by decide +kernel
theorem dX2_told_54 : decode cX2_told 54 = .ok (.getfield 104, 3) := by decide +kernel
theorem dX2_told_57 : decode cX2_told 57 = .ok (.ireturn, 1) := by decide +kernel
theorem dX2_told_58 : decode cX2_told 58 = .ok (.aload_n 3, 1) := by decide +kernel
theorem dX2_told_59 : decode cX2_told 59 = .ok (.getfield 152, 3) := by decide +kernel
theorem dX2_told_62 : decode cX2_told 62 = .ok (.ireturn, 1) := by decide +kernel
theorem dX2_told_63 : decode cX2_told 63 = .ok (.aload_n 3, 1) := by decide +kernel
theorem dX2_told_64 : decode cX2_told 64 = .ok (.getfield 118, 3) := by decide +kernel
theorem dX2_told_67 : decode cX2_told 67 = .ok (.ireturn, 1) := by decide +kernel
theorem dX2_told_68 : decode cX2_told 68 = .ok (.aload_n 3, 1) := by decide +kernel
theorem dX2_told_69 : decode cX2_told 69 = .ok (.getfield 115, 3) := by decide +kernel
theorem dX2_told_72 : decode cX2_told 72 = .ok (.ireturn, 1) := by decide +kernel
theorem dX2_told_73 : decode cX2_told 73 = .ok (.aload_n 0, 1) := by decide +kernel
theorem dX2_told_74 : decode cX2_told 74 = .ok (.aload_n 3, 1) := by decide +kernel
theorem dX2_told_75 : decode cX2_told 75 = .ok (.invokevirtual 208, 3) := by decide +kernel
theorem dX2_told_78 : decode cX2_told 78 = .ok (.ireturn, 1) := by decide +kernel
theorem dX2_told_79 : decode cX2_told 79 = .ok (.aload_n 3, 1) := by decide +kernel
theorem dX2_told_80 : decode cX2_told 80 = .ok (.getfield 130, 3) := by decide +kernel
theorem dX2_told_83 : decode cX2_told 83 = .ok (.ireturn, 1) := by decide +kernel
theorem dX2_told_84 : decode cX2_told 84 = .ok (.new 82, 3) := by decide +kernel
theorem dX2_told_87 : decode cX2_told 87 = .ok (.dup, 1) := by decide +kernel
theorem dX2_told_88 : decode cX2_told 88 = .ok (.ldc 155, 2) := by decide +kernel
theorem dX2_told_90 : decode cX2_told 90 = .ok (.invokespecial 86, 3) := by decide +kernel
theorem dX2_told_93 : decode cX2_told 93 = .ok (.athrow, 1) := by decide +kernel
set_option maxRecDepth 20000 in
theorem ggX2_count_X1_size : GoodIn wsX2_count wsX1_size := goodIn_r _ [10, 11, 37, 38] (by decide +kernel) (by decide +kernel)
set_option maxRecDepth 20000 in
theorem gX2_count_X1_size : GoodIn wsX2_count (wsV RX2 64 RX1 yX1_size wsX1_size) := goodIn_app (goodIn_of _ (by decide +kernel)) ggX2_count_X1_size
set_option maxRecDepth 20000 in
theorem ggX2_count_X2_countEmptyTrays : GoodIn wsX2_count wsX2_countEmptyTrays := goodIn_r _ [16, 1, 27, 28, 29, 30, 31, 32, 33, 34, 35, 36] (by decide +kernel) (by decide +kernel)
set_option maxRecDepth 20000 in
theorem gX2_count_X2_countEmptyTrays : GoodIn wsX2_count (wsV RX2 212 RX2 yX2_countEmptyTrays wsX2_countEmptyTrays) := goodIn_app (goodIn_of _ (by decide +kernel)) ggX2_count_X2_countEmptyTrays
set_option maxRecDepth 20000 in
theorem ggX2_count_X2_countOut : GoodIn wsX2_count wsX2_countOut := goodIn_r _ [20, 2, 21, 6, 7, 8, 9, 10, 11, 22, 23, 24, 25, 26, 27, 28, 29, 30, 31, 32, 33, 34, 35, 36, 39, 40, 41, 42, 43, 44, 45, 46, 47, 48, 49, 50, 37, 38] (by decide +kernel) (by decide +kernel)
set_option maxRecDepth 20000 in
theorem gX2_count_X2_countOut : GoodIn wsX2_count (wsV RX2 218 RX2 yX2_countOut wsX2_countOut) := goodIn_app (goodIn_of _ (by decide +kernel)) ggX2_count_X2_countOut
theorem dX2_count_0 : decode cX2_count 0 = .ok (.iload_n 1, 1) := by decide +kernel
theorem dX2_count_1 : decode cX2_count 1 = .ok (.tableswitch 93 0 6 #[43, 49, 57, 62, 67, 75, 80], 43) := by decide +kernel
theorem dX2_count_44 : decode cX2_count 44 = .ok (.aload_n 0, 1) := by decide +kernel
theorem dX2_count_45 : decode cX2_count 45 = .ok (.getfield 39, 3) := by decide +kernel
theorem dX2_count_48 : decode cX2_count 48 = .ok (.arraylength, 1) := by decide +kernel
theorem dX2_count_49 : decode cX2_count 49 = .ok (.ireturn, 1) := by decide +kernel
theorem dX2_count_50 : decode cX2_count 50 = .ok (.aload_n 0, 1) := by decide +kernel
theorem dX2_count_51 : decode cX2_count 51 = .ok (.getfield 14, 3) := by decide +kernel
theorem dX2_count_54 : decode cX2_count 54 = .ok (.invokevirtual 64, 3) := by decide +kernel
theorem dX2_count_57 : decode cX2_count 57 = .ok (.ireturn, 1) := by decide +kernel
theorem dX2_count_58 : decode cX2_count 58 = .ok (.aload_n 0, 1) := by decide +kernel
theorem dX2_count_59 : decode cX2_count 59 = .ok (.invokevirtual 212, 3) := by decide +kernel
theorem dX2_count_62 : decode cX2_count 62 = .ok (.ireturn, 1) := by decide +kernel
theorem dX2_count_63 : decode cX2_count 63 = .ok (.aload_n 0, 1) := by decide +kernel
theorem dX2_count_64 : decode cX2_count 64 = .ok (.getfield 215, 3) := by decide +kernel
theorem dX2_count_67 : decode cX2_count 67 = .ok (.ireturn, 1) := by decide +kernel
theorem dX2_count_68 : decode cX2_count 68 = .ok (.aload_n 0, 1) := by decide +kernel
theorem dX2_count_69 : decode cX2_count 69 = .ok (.getfield 43, 3) := by decide +kernel
theorem dX2_count_72 : decode cX2_count 72 = .ok (.arraylength, 1) := by decide +kernel
theorem dX2_count_73 : decode cX2_count 73 = .ok (.iconst 1, 1) := by decide +kernel
theorem dX2_count_74 : decode cX2_count 74 = .ok (.isub, 1) := by decide +kernel
theorem dX2_count_75 : decode cX2_count 75 = .ok (.ireturn, 1) := by decide +kernel
theorem dX2_count_76 : decode cX2_count 76 = .ok (.aload_n 0, 1) := by decide +kernel
theorem dX2_count_77 : decode cX2_count 77 = .ok (.invokevirtual 218, 3) := by decide +kernel
theorem dX2_count_80 : decode cX2_count 80 = .ok (.ireturn, 1) := by decide +kernel
theorem dX2_count_81 : decode cX2_count 81 = .ok (.aload_n 0, 1) := by decide +kernel
theorem dX2_count_82 : decode cX2_count 82 = .ok (.getfield 173, 3) := by decide +kernel
theorem dX2_count_85 : decode cX2_count 85 = .ok (.ifCond .eq 7, 3) := by decide +kernel
theorem dX2_count_88 : decode cX2_count 88 = .ok (.iconst 1, 1) := by decide +kernel
theorem dX2_count_89 : decode cX2_count 89 = .ok (.goto 4, 3) := by decide +kernel
theorem dX2_count_92 : decode cX2_count 92 = .ok (.iconst 0, 1) := by decide +kernel
theorem dX2_count_93 : decode cX2_count 93 = .ok (.ireturn, 1) := by decide +kernel
theorem dX2_count_94 : decode cX2_count 94 = .ok (.iconst (-1), 1) := by decide +kernel
theorem dX2_count_95 : decode cX2_count 95 = .ok (.ireturn, 1) := by decide +kernel
set_option maxRecDepth 20000 in
theorem ggX2_itemNumbered_X1_at : GoodIn wsX2_itemNumbered wsX1_at := goodIn_r _ [8, 9, 10, 21, 22] (by decide +kernel) (by decide +kernel)
set_option maxRecDepth 20000 in
theorem gX2_itemNumbered_X1_at : GoodIn wsX2_itemNumbered (wsV RX2 141 RX1 yX1_at wsX1_at) := goodIn_app (goodIn_of _ (by decide +kernel)) ggX2_itemNumbered_X1_at
theorem dX2_itemNumbered_0 : decode cX2_itemNumbered 0 = .ok (.aload_n 0, 1) := by decide +kernel
theorem dX2_itemNumbered_1 : decode cX2_itemNumbered 1 = .ok (.getfield 14, 3) := by decide +kernel
theorem dX2_itemNumbered_4 : decode cX2_itemNumbered 4 = .ok (.iload_n 1, 1) := by decide +kernel
theorem dX2_itemNumbered_5 : decode cX2_itemNumbered 5 = .ok (.iconst 1, 1) := by decide +kernel
theorem dX2_itemNumbered_6 : decode cX2_itemNumbered 6 = .ok (.isub, 1) := by decide +kernel
theorem dX2_itemNumbered_7 : decode cX2_itemNumbered 7 = .ok (.invokevirtual 141, 3) := by decide +kernel
theorem dX2_itemNumbered_10 : decode cX2_itemNumbered 10 = .ok (.astore_n 2, 1) := by decide +kernel
theorem dX2_itemNumbered_11 : decode cX2_itemNumbered 11 = .ok (.aload_n 2, 1) := by decide +kernel
theorem dX2_itemNumbered_12 : decode cX2_itemNumbered 12 = .ok (.ifnonnull 13, 3) := by decide +kernel
theorem dX2_itemNumbered_15 : decode cX2_itemNumbered 15 = .ok (.new 82, 3) := by decide +kernel
theorem dX2_itemNumbered_18 : decode cX2_itemNumbered 18 = .ok (.dup, 1) := by decide +kernel
theorem dX2_itemNumbered_19 : decode cX2_itemNumbered 19 = .ok (.ldc 221, 2) := by decide +kernel
theorem dX2_itemNumbered_21 : decode cX2_itemNumbered 21 = .ok (.invokespecial 86, 3) := by decide +kernel
theorem dX2_itemNumbered_24 : decode cX2_itemNumbered 24 = .ok (.athrow, 1) := by decide +kernel
theorem dX2_itemNumbered_25 : decode cX2_itemNumbered 25 = .ok (.aload_n 2, 1) := by decide +kernel
theorem dX2_itemNumbered_26 : decode cX2_itemNumbered 26 = .ok (.areturn, 1) := by decide +kernel
theorem dX2_requireLength_0 : decode cX2_requireLength 0 = .ok (.iload_n 1, 1) := by decide +kernel
theorem dX2_requireLength_1 : decode cX2_requireLength 1 = .ok (.iconst 1, 1) := by decide +kernel
theorem dX2_requireLength_2 : decode cX2_requireLength 2 = .ok (.if_icmp .lt 9, 3) := by decide +kernel
theorem dX2_requireLength_5 : decode cX2_requireLength 5 = .ok (.iload_n 1, 1) := by decide +kernel
theorem dX2_requireLength_6 : decode cX2_requireLength 6 = .ok (.bipush 100, 2) := by decide +kernel
theorem dX2_requireLength_8 : decode cX2_requireLength 8 = .ok (.if_icmp .le 13, 3) := by decide +kernel
theorem dX2_requireLength_11 : decode cX2_requireLength 11 = .ok (.new 82, 3) := by decide +kernel
theorem dX2_requireLength_14 : decode cX2_requireLength 14 = .ok (.dup, 1) := by decide +kernel
theorem dX2_requireLength_15 : decode cX2_requireLength 15 = .ok (.ldc 223, 2) := by decide +kernel
theorem dX2_requireLength_17 : decode cX2_requireLength 17 = .ok (.invokespecial 86, 3) := by decide +kernel
theorem dX2_requireLength_20 : decode cX2_requireLength 20 = .ok (.athrow, 1) := by decide +kernel
theorem dX2_requireLength_21 : decode cX2_requireLength 21 = .ok (.return_, 1) := by decide +kernel
set_option maxRecDepth 20000 in
theorem ggX2_requireChute_X2_isChute : GoodIn wsX2_requireChute wsX2_isChute := goodIn_r _ [7, 8, 9, 10, 11, 12, 13, 14, 15, 16, 17, 18] (by decide +kernel) (by decide +kernel)
set_option maxRecDepth 20000 in
theorem gX2_requireChute_X2_isChute : GoodIn wsX2_requireChute (wsV RX2 225 RX2 yX2_isChute wsX2_isChute) := goodIn_app (goodIn_of _ (by decide +kernel)) ggX2_requireChute_X2_isChute
theorem dX2_requireChute_0 : decode cX2_requireChute 0 = .ok (.aload_n 0, 1) := by decide +kernel
theorem dX2_requireChute_1 : decode cX2_requireChute 1 = .ok (.iload_n 1, 1) := by decide +kernel
theorem dX2_requireChute_2 : decode cX2_requireChute 2 = .ok (.invokevirtual 225, 3) := by decide +kernel
theorem dX2_requireChute_5 : decode cX2_requireChute 5 = .ok (.ifCond .ne 13, 3) := by decide +kernel
theorem dX2_requireChute_8 : decode cX2_requireChute 8 = .ok (.new 82, 3) := by decide +kernel
theorem dX2_requireChute_11 : decode cX2_requireChute 11 = .ok (.dup, 1) := by decide +kernel
theorem dX2_requireChute_12 : decode cX2_requireChute 12 = .ok (.ldc 228, 2) := by decide +kernel
theorem dX2_requireChute_14 : decode cX2_requireChute 14 = .ok (.invokespecial 86, 3) := by decide +kernel
theorem dX2_requireChute_17 : decode cX2_requireChute 17 = .ok (.athrow, 1) := by decide +kernel
theorem dX2_requireChute_18 : decode cX2_requireChute 18 = .ok (.return_, 1) := by decide +kernel
set_option maxRecDepth 20000 in
theorem ggX2_requireCode_X2_isChute : GoodIn wsX2_requireCode wsX2_isChute := goodIn_r _ [7, 8, 9, 10, 11, 12, 13, 14, 15, 16, 17, 18] (by decide +kernel) (by decide +kernel)
set_option maxRecDepth 20000 in
theorem gX2_requireCode_X2_isChute : GoodIn wsX2_requireCode (wsV RX2 225 RX2 yX2_isChute wsX2_isChute) := goodIn_app (goodIn_of _ (by decide +kernel)) ggX2_requireCode_X2_isChute
theorem dX2_requireCode_0 : decode cX2_requireCode 0 = .ok (.iload_n 1, 1) := by decide +kernel
theorem dX2_requireCode_1 : decode cX2_requireCode 1 = .ok (.ifCond .eq 21, 3) := by decide +kernel
theorem dX2_requireCode_4 : decode cX2_requireCode 4 = .ok (.aload_n 0, 1) := by decide +kernel
theorem dX2_requireCode_5 : decode cX2_requireCode 5 = .ok (.iload_n 1, 1) := by decide +kernel
theorem dX2_requireCode_6 : decode cX2_requireCode 6 = .ok (.invokevirtual 225, 3) := by decide +kernel
theorem dX2_requireCode_9 : decode cX2_requireCode 9 = .ok (.ifCond .ne 13, 3) := by decide +kernel
theorem dX2_requireCode_12 : decode cX2_requireCode 12 = .ok (.new 82, 3) := by decide +kernel
theorem dX2_requireCode_15 : decode cX2_requireCode 15 = .ok (.dup, 1) := by decide +kernel
theorem dX2_requireCode_16 : decode cX2_requireCode 16 = .ok (.ldc 230, 2) := by decide +kernel
theorem dX2_requireCode_18 : decode cX2_requireCode 18 = .ok (.invokespecial 86, 3) := by decide +kernel
theorem dX2_requireCode_21 : decode cX2_requireCode 21 = .ok (.athrow, 1) := by decide +kernel
theorem dX2_requireCode_22 : decode cX2_requireCode 22 = .ok (.return_, 1) := by decide +kernel
theorem dX2_requireNotJammed_0 : decode cX2_requireNotJammed 0 = .ok (.aload_n 0, 1) := by decide +kernel
theorem dX2_requireNotJammed_1 : decode cX2_requireNotJammed 1 = .ok (.getfield 173, 3) := by decide +kernel
theorem dX2_requireNotJammed_4 : decode cX2_requireNotJammed 4 = .ok (.ifCond .eq 13, 3) := by decide +kernel
theorem dX2_requireNotJammed_7 : decode cX2_requireNotJammed 7 = .ok (.new 99, 3) := by decide +kernel
theorem dX2_requireNotJammed_10 : decode cX2_requireNotJammed 10 = .ok (.dup, 1) := by decide +kernel
theorem dX2_requireNotJammed_11 : decode cX2_requireNotJammed 11 = .ok (.ldc 232, 2) := by decide +kernel
theorem dX2_requireNotJammed_13 : decode cX2_requireNotJammed 13 = .ok (.invokespecial 103, 3) := by decide +kernel
theorem dX2_requireNotJammed_16 : decode cX2_requireNotJammed 16 = .ok (.athrow, 1) := by decide +kernel
theorem dX2_requireNotJammed_17 : decode cX2_requireNotJammed 17 = .ok (.return_, 1) := by decide +kernel
theorem dX2_requireFit_0 : decode cX2_requireFit 0 = .ok (.aload_n 1, 1) := by decide +kernel
theorem dX2_requireFit_1 : decode cX2_requireFit 1 = .ok (.getfield 123, 3) := by decide +kernel
theorem dX2_requireFit_4 : decode cX2_requireFit 4 = .ok (.ifCond .eq 13, 3) := by decide +kernel
theorem dX2_requireFit_7 : decode cX2_requireFit 7 = .ok (.new 99, 3) := by decide +kernel
theorem dX2_requireFit_10 : decode cX2_requireFit 10 = .ok (.dup, 1) := by decide +kernel
theorem dX2_requireFit_11 : decode cX2_requireFit 11 = .ok (.ldc 234, 2) := by decide +kernel
theorem dX2_requireFit_13 : decode cX2_requireFit 13 = .ok (.invokespecial 103, 3) := by decide +kernel
theorem dX2_requireFit_16 : decode cX2_requireFit 16 = .ok (.athrow, 1) := by decide +kernel
theorem dX2_requireFit_17 : decode cX2_requireFit 17 = .ok (.aload_n 1, 1) := by decide +kernel
theorem dX2_requireFit_18 : decode cX2_requireFit 18 = .ok (.getfield 118, 3) := by decide +kernel
theorem dX2_requireFit_21 : decode cX2_requireFit 21 = .ok (.aload_n 0, 1) := by decide +kernel
theorem dX2_requireFit_22 : decode cX2_requireFit 22 = .ok (.getfield 24, 3) := by decide +kernel
theorem dX2_requireFit_25 : decode cX2_requireFit 25 = .ok (.if_icmp .le 13, 3) := by decide +kernel
theorem dX2_requireFit_28 : decode cX2_requireFit 28 = .ok (.new 99, 3) := by decide +kernel
theorem dX2_requireFit_31 : decode cX2_requireFit 31 = .ok (.dup, 1) := by decide +kernel
theorem dX2_requireFit_32 : decode cX2_requireFit 32 = .ok (.ldc 236, 2) := by decide +kernel
theorem dX2_requireFit_34 : decode cX2_requireFit 34 = .ok (.invokespecial 103, 3) := by decide +kernel
theorem dX2_requireFit_37 : decode cX2_requireFit 37 = .ok (.athrow, 1) := by decide +kernel
theorem dX2_requireFit_38 : decode cX2_requireFit 38 = .ok (.return_, 1) := by decide +kernel
theorem dX2_isChute_0 : decode cX2_isChute 0 = .ok (.iload_n 1, 1) := by decide +kernel
theorem dX2_isChute_1 : decode cX2_isChute 1 = .ok (.iconst 1, 1) := by decide +kernel
theorem dX2_isChute_2 : decode cX2_isChute 2 = .ok (.if_icmp .lt 16, 3) := by decide +kernel
theorem dX2_isChute_5 : decode cX2_isChute 5 = .ok (.iload_n 1, 1) := by decide +kernel
theorem dX2_isChute_6 : decode cX2_isChute 6 = .ok (.aload_n 0, 1) := by decide +kernel
theorem dX2_isChute_7 : decode cX2_isChute 7 = .ok (.getfield 43, 3) := by decide +kernel
theorem dX2_isChute_10 : decode cX2_isChute 10 = .ok (.arraylength, 1) := by decide +kernel
theorem dX2_isChute_11 : decode cX2_isChute 11 = .ok (.if_icmp .ge 7, 3) := by decide +kernel
theorem dX2_isChute_14 : decode cX2_isChute 14 = .ok (.iconst 1, 1) := by decide +kernel
theorem dX2_isChute_15 : decode cX2_isChute 15 = .ok (.goto 4, 3) := by decide +kernel
theorem dX2_isChute_18 : decode cX2_isChute 18 = .ok (.iconst 0, 1) := by decide +kernel
theorem dX2_isChute_19 : decode cX2_isChute 19 = .ok (.ireturn, 1) := by decide +kernel
set_option maxRecDepth 20000 in
theorem ggX2_isFull_X2_isChute : GoodIn wsX2_isFull wsX2_isChute := goodIn_r _ [6, 1, 7, 8, 9, 10, 11, 12, 13, 14, 15, 16] (by decide +kernel) (by decide +kernel)
set_option maxRecDepth 20000 in
theorem gX2_isFull_X2_isChute : GoodIn wsX2_isFull (wsV RX2 225 RX2 yX2_isChute wsX2_isChute) := goodIn_app (goodIn_of _ (by decide +kernel)) ggX2_isFull_X2_isChute
theorem dX2_isFull_0 : decode cX2_isFull 0 = .ok (.aload_n 0, 1) := by decide +kernel
theorem dX2_isFull_1 : decode cX2_isFull 1 = .ok (.iload_n 1, 1) := by decide +kernel
theorem dX2_isFull_2 : decode cX2_isFull 2 = .ok (.invokevirtual 225, 3) := by decide +kernel
theorem dX2_isFull_5 : decode cX2_isFull 5 = .ok (.ifCond .eq 16, 3) := by decide +kernel
theorem dX2_isFull_8 : decode cX2_isFull 8 = .ok (.aload_n 0, 1) := by decide +kernel
theorem dX2_isFull_9 : decode cX2_isFull 9 = .ok (.getfield 43, 3) := by decide +kernel
theorem dX2_isFull_12 : decode cX2_isFull 12 = .ok (.iload_n 1, 1) := by decide +kernel
theorem dX2_isFull_13 : decode cX2_isFull 13 = .ok (.baload, 1) := by decide +kernel
theorem dX2_isFull_14 : decode cX2_isFull 14 = .ok (.ifCond .eq 7, 3) := by decide +kernel
theorem dX2_isFull_17 : decode cX2_isFull 17 = .ok (.iconst 1, 1) := by decide +kernel
theorem dX2_isFull_18 : decode cX2_isFull 18 = .ok (.goto 4, 3) := by decide +kernel
theorem dX2_isFull_21 : decode cX2_isFull 21 = .ok (.iconst 0, 1) := by decide +kernel
theorem dX2_isFull_22 : decode cX2_isFull 22 = .ok (.ireturn, 1) := by decide +kernel
set_option maxRecDepth 20000 in
theorem ggX2_setFull_X2_isChute : GoodIn wsX2_setFull wsX2_isChute := goodIn_r _ [6, 1, 7, 8, 9, 10, 11, 12, 13, 14, 15, 16] (by decide +kernel) (by decide +kernel)
set_option maxRecDepth 20000 in
theorem gX2_setFull_X2_isChute : GoodIn wsX2_setFull (wsV RX2 225 RX2 yX2_isChute wsX2_isChute) := goodIn_app (goodIn_of _ (by decide +kernel)) ggX2_setFull_X2_isChute
theorem dX2_setFull_0 : decode cX2_setFull 0 = .ok (.aload_n 0, 1) := by decide +kernel
theorem dX2_setFull_1 : decode cX2_setFull 1 = .ok (.iload_n 1, 1) := by decide +kernel
theorem dX2_setFull_2 : decode cX2_setFull 2 = .ok (.invokevirtual 225, 3) := by decide +kernel
theorem dX2_setFull_5 : decode cX2_setFull 5 = .ok (.ifCond .eq 10, 3) := by decide +kernel
theorem dX2_setFull_8 : decode cX2_setFull 8 = .ok (.aload_n 0, 1) := by decide +kernel
theorem dX2_setFull_9 : decode cX2_setFull 9 = .ok (.getfield 43, 3) := by decide +kernel
theorem dX2_setFull_12 : decode cX2_setFull 12 = .ok (.iload_n 1, 1) := by decide +kernel
theorem dX2_setFull_13 : decode cX2_setFull 13 = .ok (.iload_n 2, 1) := by decide +kernel
theorem dX2_setFull_14 : decode cX2_setFull 14 = .ok (.bastore, 1) := by decide +kernel
theorem dX2_setFull_15 : decode cX2_setFull 15 = .ok (.return_, 1) := by decide +kernel
theorem dX2_isInLoop_0 : decode cX2_isInLoop 0 = .ok (.iload_n 1, 1) := by decide +kernel
theorem dX2_isInLoop_1 : decode cX2_isInLoop 1 = .ok (.ifCond .lt 16, 3) := by decide +kernel
theorem dX2_isInLoop_4 : decode cX2_isInLoop 4 = .ok (.iload_n 1, 1) := by decide +kernel
theorem dX2_isInLoop_5 : decode cX2_isInLoop 5 = .ok (.aload_n 0, 1) := by decide +kernel
theorem dX2_isInLoop_6 : decode cX2_isInLoop 6 = .ok (.getfield 39, 3) := by decide +kernel
theorem dX2_isInLoop_9 : decode cX2_isInLoop 9 = .ok (.arraylength, 1) := by decide +kernel
theorem dX2_isInLoop_10 : decode cX2_isInLoop 10 = .ok (.if_icmp .ge 7, 3) := by decide +kernel
theorem dX2_isInLoop_13 : decode cX2_isInLoop 13 = .ok (.iconst 1, 1) := by decide +kernel
theorem dX2_isInLoop_14 : decode cX2_isInLoop 14 = .ok (.goto 4, 3) := by decide +kernel
theorem dX2_isInLoop_17 : decode cX2_isInLoop 17 = .ok (.iconst 0, 1) := by decide +kernel
theorem dX2_isInLoop_18 : decode cX2_isInLoop 18 = .ok (.ireturn, 1) := by decide +kernel
theorem dX2_intoLoop_0 : decode cX2_intoLoop 0 = .ok (.iload_n 1, 1) := by decide +kernel
theorem dX2_intoLoop_1 : decode cX2_intoLoop 1 = .ok (.ifCond .ge 11, 3) := by decide +kernel
theorem dX2_intoLoop_4 : decode cX2_intoLoop 4 = .ok (.iload_n 1, 1) := by decide +kernel
theorem dX2_intoLoop_5 : decode cX2_intoLoop 5 = .ok (.aload_n 0, 1) := by decide +kernel
theorem dX2_intoLoop_6 : decode cX2_intoLoop 6 = .ok (.getfield 39, 3) := by decide +kernel
theorem dX2_intoLoop_9 : decode cX2_intoLoop 9 = .ok (.arraylength, 1) := by decide +kernel
theorem dX2_intoLoop_10 : decode cX2_intoLoop 10 = .ok (.iadd, 1) := by decide +kernel
theorem dX2_intoLoop_11 : decode cX2_intoLoop 11 = .ok (.ireturn, 1) := by decide +kernel
theorem dX2_intoLoop_12 : decode cX2_intoLoop 12 = .ok (.iload_n 1, 1) := by decide +kernel
theorem dX2_intoLoop_13 : decode cX2_intoLoop 13 = .ok (.aload_n 0, 1) := by decide +kernel
theorem dX2_intoLoop_14 : decode cX2_intoLoop 14 = .ok (.getfield 39, 3) := by decide +kernel
theorem dX2_intoLoop_17 : decode cX2_intoLoop 17 = .ok (.arraylength, 1) := by decide +kernel
theorem dX2_intoLoop_18 : decode cX2_intoLoop 18 = .ok (.if_icmp .ge 7, 3) := by decide +kernel
theorem dX2_intoLoop_21 : decode cX2_intoLoop 21 = .ok (.iload_n 1, 1) := by decide +kernel
theorem dX2_intoLoop_22 : decode cX2_intoLoop 22 = .ok (.goto 10, 3) := by decide +kernel
theorem dX2_intoLoop_25 : decode cX2_intoLoop 25 = .ok (.iload_n 1, 1) := by decide +kernel
theorem dX2_intoLoop_26 : decode cX2_intoLoop 26 = .ok (.aload_n 0, 1) := by decide +kernel
theorem dX2_intoLoop_27 : decode cX2_intoLoop 27 = .ok (.getfield 39, 3) := by decide +kernel
theorem dX2_intoLoop_30 : decode cX2_intoLoop 30 = .ok (.arraylength, 1) := by decide +kernel
theorem dX2_intoLoop_31 : decode cX2_intoLoop 31 = .ok (.isub, 1) := by decide +kernel
theorem dX2_intoLoop_32 : decode cX2_intoLoop 32 = .ok (.ireturn, 1) := by decide +kernel
set_option maxRecDepth 20000 in
theorem ggX2_trayAt_X2_intoLoop : GoodIn wsX2_trayAt wsX2_intoLoop := goodIn_r _ [6, 7, 8, 9, 10, 11, 12, 13, 14, 15, 16, 17] (by decide +kernel) (by decide +kernel)
set_option maxRecDepth 20000 in
theorem gX2_trayAt_X2_intoLoop : GoodIn wsX2_trayAt (wsV RX2 177 RX2 yX2_intoLoop wsX2_intoLoop) := goodIn_app (goodIn_of _ (by decide +kernel)) ggX2_trayAt_X2_intoLoop
theorem dX2_trayAt_0 : decode cX2_trayAt 0 = .ok (.aload_n 0, 1) := by decide +kernel
theorem dX2_trayAt_1 : decode cX2_trayAt 1 = .ok (.iload_n 1, 1) := by decide +kernel
theorem dX2_trayAt_2 : decode cX2_trayAt 2 = .ok (.aload_n 0, 1) := by decide +kernel
theorem dX2_trayAt_3 : decode cX2_trayAt 3 = .ok (.getfield 238, 3) := by decide +kernel
theorem dX2_trayAt_6 : decode cX2_trayAt 6 = .ok (.isub, 1) := by decide +kernel
theorem dX2_trayAt_7 : decode cX2_trayAt 7 = .ok (.invokevirtual 177, 3) := by decide +kernel
theorem dX2_trayAt_10 : decode cX2_trayAt 10 = .ok (.ireturn, 1) := by decide +kernel
set_option maxRecDepth 20000 in
theorem ggX2_itemAt_X2_trayAt : GoodIn wsX2_itemAt wsX2_trayAt := goodIn_r _ [6, 7, 8, 9, 10, 5, 11, 1, 16, 17, 18, 19, 20, 21, 22, 23, 24, 25] (by decide +kernel) (by decide +kernel)
set_option maxRecDepth 20000 in
theorem gX2_itemAt_X2_trayAt : GoodIn wsX2_itemAt (wsV RX2 107 RX2 yX2_trayAt wsX2_trayAt) := goodIn_app (goodIn_of _ (by decide +kernel)) ggX2_itemAt_X2_trayAt
set_option maxRecDepth 20000 in
theorem ggX2_itemAt_X2_isInLoop : GoodIn wsX2_itemAt wsX2_isInLoop := goodIn_r _ [15, 1, 16, 17, 18, 19, 20, 21, 22, 23, 24, 25] (by decide +kernel) (by decide +kernel)
set_option maxRecDepth 20000 in
theorem gX2_itemAt_X2_isInLoop : GoodIn wsX2_itemAt (wsV RX2 168 RX2 yX2_isInLoop wsX2_isInLoop) := goodIn_app (goodIn_of _ (by decide +kernel)) ggX2_itemAt_X2_isInLoop
theorem dX2_itemAt_0 : decode cX2_itemAt 0 = .ok (.aload_n 0, 1) := by decide +kernel
theorem dX2_itemAt_1 : decode cX2_itemAt 1 = .ok (.iload_n 1, 1) := by decide +kernel
theorem dX2_itemAt_2 : decode cX2_itemAt 2 = .ok (.invokevirtual 107, 3) := by decide +kernel
theorem dX2_itemAt_5 : decode cX2_itemAt 5 = .ok (.istore_n 2, 1) := by decide +kernel
theorem dX2_itemAt_6 : decode cX2_itemAt 6 = .ok (.aload_n 0, 1) := by decide +kernel
theorem dX2_itemAt_7 : decode cX2_itemAt 7 = .ok (.iload_n 2, 1) := by decide +kernel
theorem dX2_itemAt_8 : decode cX2_itemAt 8 = .ok (.invokevirtual 168, 3) := by decide +kernel
theorem dX2_itemAt_11 : decode cX2_itemAt 11 = .ok (.ifCond .eq 12, 3) := by decide +kernel
theorem dX2_itemAt_14 : decode cX2_itemAt 14 = .ok (.aload_n 0, 1) := by decide +kernel
theorem dX2_itemAt_15 : decode cX2_itemAt 15 = .ok (.getfield 39, 3) := by decide +kernel
theorem dX2_itemAt_18 : decode cX2_itemAt 18 = .ok (.iload_n 2, 1) := by decide +kernel
theorem dX2_itemAt_19 : decode cX2_itemAt 19 = .ok (.aaload, 1) := by decide +kernel
theorem dX2_itemAt_20 : decode cX2_itemAt 20 = .ok (.goto 4, 3) := by decide +kernel
theorem dX2_itemAt_23 : decode cX2_itemAt 23 = .ok (.aconst_null, 1) := by decide +kernel
theorem dX2_itemAt_24 : decode cX2_itemAt 24 = .ok (.areturn, 1) := by decide +kernel
set_option maxRecDepth 20000 in
theorem ggX2_positionOf_X2_intoLoop : GoodIn wsX2_positionOf wsX2_intoLoop := goodIn_r _ [7, 8, 21, 22, 23, 24, 25, 26, 27, 28, 29, 30] (by decide +kernel) (by decide +kernel)
set_option maxRecDepth 20000 in
theorem gX2_positionOf_X2_intoLoop : GoodIn wsX2_positionOf (wsV RX2 177 RX2 yX2_intoLoop wsX2_intoLoop) := goodIn_app (goodIn_of _ (by decide +kernel)) ggX2_positionOf_X2_intoLoop
theorem dX2_positionOf_0 : decode cX2_positionOf 0 = .ok (.aload_n 1, 1) := by decide +kernel
theorem dX2_positionOf_1 : decode cX2_positionOf 1 = .ok (.getfield 115, 3) := by decide +kernel
theorem dX2_positionOf_4 : decode cX2_positionOf 4 = .ok (.iconst (-1), 1) := by decide +kernel
theorem dX2_positionOf_5 : decode cX2_positionOf 5 = .ok (.if_icmp .ne 7, 3) := by decide +kernel
theorem dX2_positionOf_8 : decode cX2_positionOf 8 = .ok (.iconst (-1), 1) := by decide +kernel
theorem dX2_positionOf_9 : decode cX2_positionOf 9 = .ok (.goto 16, 3) := by decide +kernel
theorem dX2_positionOf_12 : decode cX2_positionOf 12 = .ok (.aload_n 0, 1) := by decide +kernel
theorem dX2_positionOf_13 : decode cX2_positionOf 13 = .ok (.aload_n 1, 1) := by decide +kernel
theorem dX2_positionOf_14 : decode cX2_positionOf 14 = .ok (.getfield 115, 3) := by decide +kernel
theorem dX2_positionOf_17 : decode cX2_positionOf 17 = .ok (.aload_n 0, 1) := by decide +kernel
theorem dX2_positionOf_18 : decode cX2_positionOf 18 = .ok (.getfield 238, 3) := by decide +kernel
theorem dX2_positionOf_21 : decode cX2_positionOf 21 = .ok (.iadd, 1) := by decide +kernel
theorem dX2_positionOf_22 : decode cX2_positionOf 22 = .ok (.invokevirtual 177, 3) := by decide +kernel
theorem dX2_positionOf_25 : decode cX2_positionOf 25 = .ok (.ireturn, 1) := by decide +kernel
set_option maxRecDepth 20000 in
theorem ggX2_putOnTray_X2_isInLoop : GoodIn wsX2_putOnTray wsX2_isInLoop := goodIn_r _ [8, 1, 9, 10, 11, 12, 13, 14, 15, 16, 17, 18] (by decide +kernel) (by decide +kernel)
set_option maxRecDepth 20000 in
theorem gX2_putOnTray_X2_isInLoop : GoodIn wsX2_putOnTray (wsV RX2 168 RX2 yX2_isInLoop wsX2_isInLoop) := goodIn_app (goodIn_of _ (by decide +kernel)) ggX2_putOnTray_X2_isInLoop
theorem dX2_putOnTray_0 : decode cX2_putOnTray 0 = .ok (.aload_n 0, 1) := by decide +kernel
theorem dX2_putOnTray_1 : decode cX2_putOnTray 1 = .ok (.iload_n 2, 1) := by decide +kernel
theorem dX2_putOnTray_2 : decode cX2_putOnTray 2 = .ok (.invokevirtual 168, 3) := by decide +kernel
theorem dX2_putOnTray_5 : decode cX2_putOnTray 5 = .ok (.ifCond .eq 20, 3) := by decide +kernel
theorem dX2_putOnTray_8 : decode cX2_putOnTray 8 = .ok (.aload_n 0, 1) := by decide +kernel
theorem dX2_putOnTray_9 : decode cX2_putOnTray 9 = .ok (.getfield 39, 3) := by decide +kernel
theorem dX2_putOnTray_12 : decode cX2_putOnTray 12 = .ok (.iload_n 2, 1) := by decide +kernel
theorem dX2_putOnTray_13 : decode cX2_putOnTray 13 = .ok (.aload_n 1, 1) := by decide +kernel
theorem dX2_putOnTray_14 : decode cX2_putOnTray 14 = .ok (.aastore, 1) := by decide +kernel
end
section
theorem dX2_putOnTray_15 : decode cX2_putOnTray 15 = .ok (.aload_n 1, 1) := by decide +kernel
theorem dX2_putOnTray_16 : decode cX2_putOnTray 16 = .ok (.iload_n 2, 1) := by decide +kernel
theorem dX2_putOnTray_17 : decode cX2_putOnTray 17 = .ok (.putfield 115, 3) := by decide +kernel
theorem dX2_putOnTray_20 : decode cX2_putOnTray 20 = .ok (.aload_n 1, 1) := by decide +kernel
theorem dX2_putOnTray_21 : decode cX2_putOnTray 21 = .ok (.iconst 1, 1) := by decide +kernel
theorem dX2_putOnTray_22 : decode cX2_putOnTray 22 = .ok (.putfield 123, 3) := by decide +kernel
theorem dX2_putOnTray_25 : decode cX2_putOnTray 25 = .ok (.return_, 1) := by decide +kernel
set_option maxRecDepth 20000 in
theorem ggX2_takeOffTray_X2_isInLoop : GoodIn wsX2_takeOffTray wsX2_isInLoop := goodIn_r _ [12, 2, 36, 37, 38, 39, 40, 41, 42, 43, 44, 45] (by decide +kernel) (by decide +kernel)
set_option maxRecDepth 20000 in
theorem gX2_takeOffTray_X2_isInLoop : GoodIn wsX2_takeOffTray (wsV RX2 168 RX2 yX2_isInLoop wsX2_isInLoop) := goodIn_app (goodIn_of _ (by decide +kernel)) ggX2_takeOffTray_X2_isInLoop
set_option maxRecDepth 20000 in
theorem ggX2_takeOffTray_X1_add : GoodIn wsX2_takeOffTray wsX1_add := goodIn_r _ [17, 18, 19, 20, 21, 22, 16, 23, 46, 47] (by decide +kernel) (by decide +kernel)
set_option maxRecDepth 20000 in
theorem gX2_takeOffTray_X1_add : GoodIn wsX2_takeOffTray (wsV RX2 71 RX1 yX1_add wsX1_add) := goodIn_app (goodIn_of _ (by decide +kernel)) ggX2_takeOffTray_X1_add
theorem dX2_takeOffTray_0 : decode cX2_takeOffTray 0 = .ok (.aload_n 0, 1) := by decide +kernel
theorem dX2_takeOffTray_1 : decode cX2_takeOffTray 1 = .ok (.aload_n 1, 1) := by decide +kernel
theorem dX2_takeOffTray_2 : decode cX2_takeOffTray 2 = .ok (.getfield 115, 3) := by decide +kernel
theorem dX2_takeOffTray_5 : decode cX2_takeOffTray 5 = .ok (.invokevirtual 168, 3) := by decide +kernel
theorem dX2_takeOffTray_8 : decode cX2_takeOffTray 8 = .ok (.ifCond .eq 13, 3) := by decide +kernel
theorem dX2_takeOffTray_11 : decode cX2_takeOffTray 11 = .ok (.aload_n 0, 1) := by decide +kernel
theorem dX2_takeOffTray_12 : decode cX2_takeOffTray 12 = .ok (.getfield 39, 3) := by decide +kernel
theorem dX2_takeOffTray_15 : decode cX2_takeOffTray 15 = .ok (.aload_n 1, 1) := by decide +kernel
theorem dX2_takeOffTray_16 : decode cX2_takeOffTray 16 = .ok (.getfield 115, 3) := by decide +kernel
theorem dX2_takeOffTray_19 : decode cX2_takeOffTray 19 = .ok (.aconst_null, 1) := by decide +kernel
theorem dX2_takeOffTray_20 : decode cX2_takeOffTray 20 = .ok (.aastore, 1) := by decide +kernel
theorem dX2_takeOffTray_21 : decode cX2_takeOffTray 21 = .ok (.aload_n 1, 1) := by decide +kernel
theorem dX2_takeOffTray_22 : decode cX2_takeOffTray 22 = .ok (.iconst (-1), 1) := by decide +kernel
theorem dX2_takeOffTray_23 : decode cX2_takeOffTray 23 = .ok (.putfield 115, 3) := by decide +kernel
theorem dX2_takeOffTray_26 : decode cX2_takeOffTray 26 = .ok (.aload_n 1, 1) := by decide +kernel
theorem dX2_takeOffTray_27 : decode cX2_takeOffTray 27 = .ok (.iload_n 2, 1) := by decide +kernel
theorem dX2_takeOffTray_28 : decode cX2_takeOffTray 28 = .ok (.putfield 123, 3) := by decide +kernel
theorem dX2_takeOffTray_31 : decode cX2_takeOffTray 31 = .ok (.aload_n 1, 1) := by decide +kernel
theorem dX2_takeOffTray_32 : decode cX2_takeOffTray 32 = .ok (.iload_n 3, 1) := by decide +kernel
theorem dX2_takeOffTray_33 : decode cX2_takeOffTray 33 = .ok (.putfield 146, 3) := by decide +kernel
theorem dX2_takeOffTray_36 : decode cX2_takeOffTray 36 = .ok (.aload_n 1, 1) := by decide +kernel
theorem dX2_takeOffTray_37 : decode cX2_takeOffTray 37 = .ok (.aload_n 0, 1) := by decide +kernel
theorem dX2_takeOffTray_38 : decode cX2_takeOffTray 38 = .ok (.getfield 215, 3) := by decide +kernel
theorem dX2_takeOffTray_41 : decode cX2_takeOffTray 41 = .ok (.putfield 149, 3) := by decide +kernel
theorem dX2_takeOffTray_44 : decode cX2_takeOffTray 44 = .ok (.aload_n 0, 1) := by decide +kernel
theorem dX2_takeOffTray_45 : decode cX2_takeOffTray 45 = .ok (.getfield 18, 3) := by decide +kernel
theorem dX2_takeOffTray_48 : decode cX2_takeOffTray 48 = .ok (.aload_n 1, 1) := by decide +kernel
theorem dX2_takeOffTray_49 : decode cX2_takeOffTray 49 = .ok (.invokevirtual 71, 3) := by decide +kernel
theorem dX2_takeOffTray_52 : decode cX2_takeOffTray 52 = .ok (.return_, 1) := by decide +kernel
set_option maxRecDepth 20000 in
theorem ggX2_makeOneStep_X2_intoLoop : GoodIn wsX2_makeOneStep wsX2_intoLoop := goodIn_r _ [8, 9, 63, 64, 65, 66, 67, 68, 69, 70, 71, 72] (by decide +kernel) (by decide +kernel)
set_option maxRecDepth 20000 in
theorem gX2_makeOneStep_X2_intoLoop : GoodIn wsX2_makeOneStep (wsV RX2 177 RX2 yX2_intoLoop wsX2_intoLoop) := goodIn_app (goodIn_of _ (by decide +kernel)) ggX2_makeOneStep_X2_intoLoop
set_option maxRecDepth 20000 in
theorem ggX2_makeOneStep_X2_passChute : GoodIn wsX2_makeOneStep wsX2_passChute := goodIn_r _ [13, 14, 15, 16, 17, 18, 19, 7, 20, 9, 21, 22, 23, 24, 2, 4, 5, 6, 8, 25, 26, 27, 28, 29, 30, 31, 32, 3, 33, 34, 35, 36, 37, 38, 39, 40, 41, 42, 43, 1, 44, 45, 46, 47, 48, 49, 50, 51, 52, 53, 54, 55, 56, 73, 74, 75, 76, 77, 78, 79, 80, 81, 82, 83, 84, 63, 64, 65, 66, 67, 68, 69, 70, 71, 72, 85, 86] (by decide +kernel) (by decide +kernel)
set_option maxRecDepth 20000 in
theorem gX2_makeOneStep_X2_passChute : GoodIn wsX2_makeOneStep (wsV RX2 241 RX2 yX2_passChute wsX2_passChute) := goodIn_app (goodIn_of _ (by decide +kernel)) ggX2_makeOneStep_X2_passChute
set_option maxRecDepth 20000 in
theorem ggX2_makeOneStep_X2_readAgainAtStart : GoodIn wsX2_makeOneStep wsX2_readAgainAtStart := goodIn_r _ [60, 14, 61, 62, 17, 18, 19, 7, 20, 9, 21, 22, 23, 24, 2, 4, 5, 6, 8, 25, 26, 27, 28, 37, 38, 39, 40, 41, 42, 43, 1, 44, 45, 46, 47, 48, 49, 50, 51, 52, 53, 54, 55, 56, 73, 74, 75, 76, 77, 78, 79, 80, 81, 82, 83, 84, 63, 64, 65, 66, 67, 68, 69, 70, 71, 72, 85, 86] (by decide +kernel) (by decide +kernel)
set_option maxRecDepth 20000 in
theorem gX2_makeOneStep_X2_readAgainAtStart : GoodIn wsX2_makeOneStep (wsV RX2 244 RX2 yX2_readAgainAtStart wsX2_readAgainAtStart) := goodIn_app (goodIn_of _ (by decide +kernel)) ggX2_makeOneStep_X2_readAgainAtStart
theorem dX2_makeOneStep_0 : decode cX2_makeOneStep 0 = .ok (.aload_n 0, 1) := by decide +kernel
theorem dX2_makeOneStep_1 : decode cX2_makeOneStep 1 = .ok (.dup, 1) := by decide +kernel
theorem dX2_makeOneStep_2 : decode cX2_makeOneStep 2 = .ok (.getfield 215, 3) := by decide +kernel
theorem dX2_makeOneStep_5 : decode cX2_makeOneStep 5 = .ok (.iconst 1, 1) := by decide +kernel
theorem dX2_makeOneStep_6 : decode cX2_makeOneStep 6 = .ok (.iadd, 1) := by decide +kernel
theorem dX2_makeOneStep_7 : decode cX2_makeOneStep 7 = .ok (.putfield 215, 3) := by decide +kernel
theorem dX2_makeOneStep_10 : decode cX2_makeOneStep 10 = .ok (.aload_n 0, 1) := by decide +kernel
theorem dX2_makeOneStep_11 : decode cX2_makeOneStep 11 = .ok (.aload_n 0, 1) := by decide +kernel
theorem dX2_makeOneStep_12 : decode cX2_makeOneStep 12 = .ok (.aload_n 0, 1) := by decide +kernel
theorem dX2_makeOneStep_13 : decode cX2_makeOneStep 13 = .ok (.getfield 238, 3) := by decide +kernel
theorem dX2_makeOneStep_16 : decode cX2_makeOneStep 16 = .ok (.iconst 1, 1) := by decide +kernel
theorem dX2_makeOneStep_17 : decode cX2_makeOneStep 17 = .ok (.iadd, 1) := by decide +kernel
theorem dX2_makeOneStep_18 : decode cX2_makeOneStep 18 = .ok (.invokevirtual 177, 3) := by decide +kernel
theorem dX2_makeOneStep_21 : decode cX2_makeOneStep 21 = .ok (.putfield 238, 3) := by decide +kernel
theorem dX2_makeOneStep_24 : decode cX2_makeOneStep 24 = .ok (.iconst 1, 1) := by decide +kernel
theorem dX2_makeOneStep_25 : decode cX2_makeOneStep 25 = .ok (.istore_n 1, 1) := by decide +kernel
theorem dX2_makeOneStep_26 : decode cX2_makeOneStep 26 = .ok (.iload_n 1, 1) := by decide +kernel
theorem dX2_makeOneStep_27 : decode cX2_makeOneStep 27 = .ok (.aload_n 0, 1) := by decide +kernel
theorem dX2_makeOneStep_28 : decode cX2_makeOneStep 28 = .ok (.getfield 43, 3) := by decide +kernel
theorem dX2_makeOneStep_31 : decode cX2_makeOneStep 31 = .ok (.arraylength, 1) := by decide +kernel
theorem dX2_makeOneStep_32 : decode cX2_makeOneStep 32 = .ok (.if_icmp .ge 14, 3) := by decide +kernel
theorem dX2_makeOneStep_35 : decode cX2_makeOneStep 35 = .ok (.aload_n 0, 1) := by decide +kernel
theorem dX2_makeOneStep_36 : decode cX2_makeOneStep 36 = .ok (.iload_n 1, 1) := by decide +kernel
theorem dX2_makeOneStep_37 : decode cX2_makeOneStep 37 = .ok (.invokevirtual 241, 3) := by decide +kernel
theorem dX2_makeOneStep_40 : decode cX2_makeOneStep 40 = .ok (.iinc 1 1, 3) := by decide +kernel
theorem dX2_makeOneStep_43 : decode cX2_makeOneStep 43 = .ok (.goto (-17), 3) := by decide +kernel
theorem dX2_makeOneStep_46 : decode cX2_makeOneStep 46 = .ok (.aload_n 0, 1) := by decide +kernel
theorem dX2_makeOneStep_47 : decode cX2_makeOneStep 47 = .ok (.invokevirtual 244, 3) := by decide +kernel
theorem dX2_makeOneStep_50 : decode cX2_makeOneStep 50 = .ok (.return_, 1) := by decide +kernel
set_option maxRecDepth 20000 in
theorem ggX2_passChute_X2_itemAt : GoodIn wsX2_passChute wsX2_itemAt := goodIn_r _ [8, 9, 10, 11, 12, 7, 13, 14, 15, 16, 17, 18, 19, 20, 21, 22, 65, 66, 67, 68, 69, 70, 71, 72, 73, 74] (by decide +kernel) (by decide +kernel)
set_option maxRecDepth 20000 in
theorem gX2_passChute_X2_itemAt : GoodIn wsX2_passChute (wsV RX2 96 RX2 yX2_itemAt wsX2_itemAt) := goodIn_app (goodIn_of _ (by decide +kernel)) ggX2_passChute_X2_itemAt
set_option maxRecDepth 20000 in
theorem ggX2_passChute_X2_isFull : GoodIn wsX2_passChute wsX2_isFull := goodIn_r _ [26, 27, 28, 29, 30, 7, 31, 65, 66, 67, 68, 69, 70, 71, 72, 73, 74] (by decide +kernel) (by decide +kernel)
set_option maxRecDepth 20000 in
theorem gX2_passChute_X2_isFull : GoodIn wsX2_passChute (wsV RX2 160 RX2 yX2_isFull wsX2_isFull) := goodIn_app (goodIn_of _ (by decide +kernel)) ggX2_passChute_X2_isFull
set_option maxRecDepth 20000 in
theorem ggX2_passChute_X2_takeOffTray : GoodIn wsX2_passChute wsX2_takeOffTray := goodIn_r _ [35, 36, 9, 37, 38, 39, 40, 41, 19, 20, 21, 7, 22, 42, 43, 44, 45, 46, 47, 48, 49, 50, 51, 52, 53, 54, 55, 56, 57, 58, 59, 60, 61, 62, 63, 64, 65, 66, 67, 68, 69, 70, 71, 72, 73, 74, 75, 76] (by decide +kernel) (by decide +kernel)
set_option maxRecDepth 20000 in
theorem gX2_passChute_X2_takeOffTray : GoodIn wsX2_passChute (wsV RX2 247 RX2 yX2_takeOffTray wsX2_takeOffTray) := goodIn_app (goodIn_of _ (by decide +kernel)) ggX2_passChute_X2_takeOffTray
theorem dX2_passChute_0 : decode cX2_passChute 0 = .ok (.aload_n 0, 1) := by decide +kernel
theorem dX2_passChute_1 : decode cX2_passChute 1 = .ok (.iload_n 1, 1) := by decide +kernel
theorem dX2_passChute_2 : decode cX2_passChute 2 = .ok (.iconst 2, 1) := by decide +kernel
theorem dX2_passChute_3 : decode cX2_passChute 3 = .ok (.imul, 1) := by decide +kernel
theorem dX2_passChute_4 : decode cX2_passChute 4 = .ok (.invokevirtual 96, 3) := by decide +kernel
theorem dX2_passChute_7 : decode cX2_passChute 7 = .ok (.astore_n 2, 1) := by decide +kernel
theorem dX2_passChute_8 : decode cX2_passChute 8 = .ok (.aload_n 2, 1) := by decide +kernel
theorem dX2_passChute_9 : decode cX2_passChute 9 = .ok (.ifnull 11, 3) := by decide +kernel
theorem dX2_passChute_12 : decode cX2_passChute 12 = .ok (.aload_n 2, 1) := by decide +kernel
theorem dX2_passChute_13 : decode cX2_passChute 13 = .ok (.getfield 104, 3) := by decide +kernel
theorem dX2_passChute_16 : decode cX2_passChute 16 = .ok (.iload_n 1, 1) := by decide +kernel
theorem dX2_passChute_17 : decode cX2_passChute 17 = .ok (.if_icmp .eq 4, 3) := by decide +kernel
theorem dX2_passChute_20 : decode cX2_passChute 20 = .ok (.return_, 1) := by decide +kernel
theorem dX2_passChute_21 : decode cX2_passChute 21 = .ok (.aload_n 0, 1) := by decide +kernel
theorem dX2_passChute_22 : decode cX2_passChute 22 = .ok (.iload_n 1, 1) := by decide +kernel
theorem dX2_passChute_23 : decode cX2_passChute 23 = .ok (.invokevirtual 160, 3) := by decide +kernel
theorem dX2_passChute_26 : decode cX2_passChute 26 = .ok (.ifCond .ne 11, 3) := by decide +kernel
theorem dX2_passChute_29 : decode cX2_passChute 29 = .ok (.aload_n 0, 1) := by decide +kernel
theorem dX2_passChute_30 : decode cX2_passChute 30 = .ok (.aload_n 2, 1) := by decide +kernel
theorem dX2_passChute_31 : decode cX2_passChute 31 = .ok (.iconst 2, 1) := by decide +kernel
theorem dX2_passChute_32 : decode cX2_passChute 32 = .ok (.iload_n 1, 1) := by decide +kernel
theorem dX2_passChute_33 : decode cX2_passChute 33 = .ok (.invokevirtual 247, 3) := by decide +kernel
theorem dX2_passChute_36 : decode cX2_passChute 36 = .ok (.return_, 1) := by decide +kernel
theorem dX2_passChute_37 : decode cX2_passChute 37 = .ok (.aload_n 2, 1) := by decide +kernel
theorem dX2_passChute_38 : decode cX2_passChute 38 = .ok (.dup, 1) := by decide +kernel
theorem dX2_passChute_39 : decode cX2_passChute 39 = .ok (.getfield 152, 3) := by decide +kernel
theorem dX2_passChute_42 : decode cX2_passChute 42 = .ok (.iconst 1, 1) := by decide +kernel
theorem dX2_passChute_43 : decode cX2_passChute 43 = .ok (.iadd, 1) := by decide +kernel
theorem dX2_passChute_44 : decode cX2_passChute 44 = .ok (.putfield 152, 3) := by decide +kernel
theorem dX2_passChute_47 : decode cX2_passChute 47 = .ok (.aload_n 2, 1) := by decide +kernel
theorem dX2_passChute_48 : decode cX2_passChute 48 = .ok (.getfield 152, 3) := by decide +kernel
theorem dX2_passChute_51 : decode cX2_passChute 51 = .ok (.aload_n 0, 1) := by decide +kernel
theorem dX2_passChute_52 : decode cX2_passChute 52 = .ok (.getfield 47, 3) := by decide +kernel
theorem dX2_passChute_55 : decode cX2_passChute 55 = .ok (.if_icmp .le 10, 3) := by decide +kernel
theorem dX2_passChute_58 : decode cX2_passChute 58 = .ok (.aload_n 0, 1) := by decide +kernel
theorem dX2_passChute_59 : decode cX2_passChute 59 = .ok (.aload_n 2, 1) := by decide +kernel
theorem dX2_passChute_60 : decode cX2_passChute 60 = .ok (.iconst 4, 1) := by decide +kernel
theorem dX2_passChute_61 : decode cX2_passChute 61 = .ok (.iconst (-1), 1) := by decide +kernel
theorem dX2_passChute_62 : decode cX2_passChute 62 = .ok (.invokevirtual 247, 3) := by decide +kernel
theorem dX2_passChute_65 : decode cX2_passChute 65 = .ok (.return_, 1) := by decide +kernel
set_option maxRecDepth 20000 in
theorem ggX2_readAgainAtStart_X2_itemAt : GoodIn wsX2_readAgainAtStart wsX2_itemAt := goodIn_r _ [8, 9, 10, 11, 12, 7, 13, 14, 15, 16, 17, 18, 19, 20, 21, 22, 56, 57, 58, 59, 60, 61, 62, 63, 64, 65] (by decide +kernel) (by decide +kernel)
set_option maxRecDepth 20000 in
theorem gX2_readAgainAtStart_X2_itemAt : GoodIn wsX2_readAgainAtStart (wsV RX2 96 RX2 yX2_itemAt wsX2_itemAt) := goodIn_app (goodIn_of _ (by decide +kernel)) ggX2_readAgainAtStart_X2_itemAt
set_option maxRecDepth 20000 in
theorem ggX2_readAgainAtStart_X2_takeOffTray : GoodIn wsX2_readAgainAtStart wsX2_takeOffTray := goodIn_r _ [26, 27, 9, 28, 29, 30, 31, 32, 19, 20, 21, 7, 22, 33, 34, 35, 36, 37, 38, 39, 40, 41, 42, 43, 44, 45, 46, 47, 48, 49, 50, 51, 52, 53, 54, 55, 56, 57, 58, 59, 60, 61, 62, 63, 64, 65, 66, 67] (by decide +kernel) (by decide +kernel)
set_option maxRecDepth 20000 in
theorem gX2_readAgainAtStart_X2_takeOffTray : GoodIn wsX2_readAgainAtStart (wsV RX2 247 RX2 yX2_takeOffTray wsX2_takeOffTray) := goodIn_app (goodIn_of _ (by decide +kernel)) ggX2_readAgainAtStart_X2_takeOffTray
theorem dX2_readAgainAtStart_0 : decode cX2_readAgainAtStart 0 = .ok (.aload_n 0, 1) := by decide +kernel
theorem dX2_readAgainAtStart_1 : decode cX2_readAgainAtStart 1 = .ok (.iconst 0, 1) := by decide +kernel
theorem dX2_readAgainAtStart_2 : decode cX2_readAgainAtStart 2 = .ok (.invokevirtual 96, 3) := by decide +kernel
theorem dX2_readAgainAtStart_5 : decode cX2_readAgainAtStart 5 = .ok (.astore_n 1, 1) := by decide +kernel
theorem dX2_readAgainAtStart_6 : decode cX2_readAgainAtStart 6 = .ok (.aload_n 1, 1) := by decide +kernel
theorem dX2_readAgainAtStart_7 : decode cX2_readAgainAtStart 7 = .ok (.ifnull 10, 3) := by decide +kernel
theorem dX2_readAgainAtStart_10 : decode cX2_readAgainAtStart 10 = .ok (.aload_n 1, 1) := by decide +kernel
theorem dX2_readAgainAtStart_11 : decode cX2_readAgainAtStart 11 = .ok (.getfield 104, 3) := by decide +kernel
theorem dX2_readAgainAtStart_14 : decode cX2_readAgainAtStart 14 = .ok (.ifCond .eq 4, 3) := by decide +kernel
theorem dX2_readAgainAtStart_17 : decode cX2_readAgainAtStart 17 = .ok (.return_, 1) := by decide +kernel
theorem dX2_readAgainAtStart_18 : decode cX2_readAgainAtStart 18 = .ok (.aload_n 1, 1) := by decide +kernel
theorem dX2_readAgainAtStart_19 : decode cX2_readAgainAtStart 19 = .ok (.getfield 130, 3) := by decide +kernel
theorem dX2_readAgainAtStart_22 : decode cX2_readAgainAtStart 22 = .ok (.ifCond .ne 11, 3) := by decide +kernel
theorem dX2_readAgainAtStart_25 : decode cX2_readAgainAtStart 25 = .ok (.aload_n 0, 1) := by decide +kernel
theorem dX2_readAgainAtStart_26 : decode cX2_readAgainAtStart 26 = .ok (.aload_n 1, 1) := by decide +kernel
theorem dX2_readAgainAtStart_27 : decode cX2_readAgainAtStart 27 = .ok (.iconst 3, 1) := by decide +kernel
theorem dX2_readAgainAtStart_28 : decode cX2_readAgainAtStart 28 = .ok (.iconst 0, 1) := by decide +kernel
theorem dX2_readAgainAtStart_29 : decode cX2_readAgainAtStart 29 = .ok (.invokevirtual 247, 3) := by decide +kernel
theorem dX2_readAgainAtStart_32 : decode cX2_readAgainAtStart 32 = .ok (.return_, 1) := by decide +kernel
theorem dX2_readAgainAtStart_33 : decode cX2_readAgainAtStart 33 = .ok (.aload_n 1, 1) := by decide +kernel
theorem dX2_readAgainAtStart_34 : decode cX2_readAgainAtStart 34 = .ok (.dup, 1) := by decide +kernel
theorem dX2_readAgainAtStart_35 : decode cX2_readAgainAtStart 35 = .ok (.getfield 130, 3) := by decide +kernel
theorem dX2_readAgainAtStart_38 : decode cX2_readAgainAtStart 38 = .ok (.iconst 1, 1) := by decide +kernel
theorem dX2_readAgainAtStart_39 : decode cX2_readAgainAtStart 39 = .ok (.isub, 1) := by decide +kernel
theorem dX2_readAgainAtStart_40 : decode cX2_readAgainAtStart 40 = .ok (.putfield 130, 3) := by decide +kernel
theorem dX2_readAgainAtStart_43 : decode cX2_readAgainAtStart 43 = .ok (.aload_n 1, 1) := by decide +kernel
theorem dX2_readAgainAtStart_44 : decode cX2_readAgainAtStart 44 = .ok (.getfield 130, 3) := by decide +kernel
theorem dX2_readAgainAtStart_47 : decode cX2_readAgainAtStart 47 = .ok (.ifCond .ne 11, 3) := by decide +kernel
theorem dX2_readAgainAtStart_50 : decode cX2_readAgainAtStart 50 = .ok (.aload_n 1, 1) := by decide +kernel
theorem dX2_readAgainAtStart_51 : decode cX2_readAgainAtStart 51 = .ok (.aload_n 1, 1) := by decide +kernel
theorem dX2_readAgainAtStart_52 : decode cX2_readAgainAtStart 52 = .ok (.getfield 133, 3) := by decide +kernel
theorem dX2_readAgainAtStart_55 : decode cX2_readAgainAtStart 55 = .ok (.putfield 104, 3) := by decide +kernel
theorem dX2_readAgainAtStart_58 : decode cX2_readAgainAtStart 58 = .ok (.return_, 1) := by decide +kernel
set_option maxRecDepth 20000 in
theorem ggX2_doubtItemAt_X2_itemAt : GoodIn wsX2_doubtItemAt wsX2_itemAt := goodIn_r _ [8, 9, 10, 11, 12, 7, 13, 14, 15, 16, 17, 18, 19, 20, 21, 22, 46, 47, 48, 49, 50, 51, 52, 53, 54, 55] (by decide +kernel) (by decide +kernel)
set_option maxRecDepth 20000 in
theorem gX2_doubtItemAt_X2_itemAt : GoodIn wsX2_doubtItemAt (wsV RX2 96 RX2 yX2_itemAt wsX2_itemAt) := goodIn_app (goodIn_of _ (by decide +kernel)) ggX2_doubtItemAt_X2_itemAt
set_option maxRecDepth 20000 in
theorem ggX2_doubtItemAt_X1_add : GoodIn wsX2_doubtItemAt wsX1_add := goodIn_r _ [27, 28, 29, 30, 31, 32, 26, 33, 56, 57] (by decide +kernel) (by decide +kernel)
set_option maxRecDepth 20000 in
theorem gX2_doubtItemAt_X1_add : GoodIn wsX2_doubtItemAt (wsV RX2 71 RX1 yX1_add wsX1_add) := goodIn_app (goodIn_of _ (by decide +kernel)) ggX2_doubtItemAt_X1_add
theorem dX2_doubtItemAt_0 : decode cX2_doubtItemAt 0 = .ok (.aload_n 0, 1) := by decide +kernel
theorem dX2_doubtItemAt_1 : decode cX2_doubtItemAt 1 = .ok (.iload_n 1, 1) := by decide +kernel
theorem dX2_doubtItemAt_2 : decode cX2_doubtItemAt 2 = .ok (.invokevirtual 96, 3) := by decide +kernel
theorem dX2_doubtItemAt_5 : decode cX2_doubtItemAt 5 = .ok (.astore_n 2, 1) := by decide +kernel
theorem dX2_doubtItemAt_6 : decode cX2_doubtItemAt 6 = .ok (.aload_n 2, 1) := by decide +kernel
theorem dX2_doubtItemAt_7 : decode cX2_doubtItemAt 7 = .ok (.ifnull 21, 3) := by decide +kernel
theorem dX2_doubtItemAt_10 : decode cX2_doubtItemAt 10 = .ok (.aload_n 2, 1) := by decide +kernel
theorem dX2_doubtItemAt_11 : decode cX2_doubtItemAt 11 = .ok (.iconst 1, 1) := by decide +kernel
theorem dX2_doubtItemAt_12 : decode cX2_doubtItemAt 12 = .ok (.putfield 183, 3) := by decide +kernel
theorem dX2_doubtItemAt_15 : decode cX2_doubtItemAt 15 = .ok (.aload_n 2, 1) := by decide +kernel
theorem dX2_doubtItemAt_16 : decode cX2_doubtItemAt 16 = .ok (.iconst 0, 1) := by decide +kernel
theorem dX2_doubtItemAt_17 : decode cX2_doubtItemAt 17 = .ok (.putfield 187, 3) := by decide +kernel
theorem dX2_doubtItemAt_20 : decode cX2_doubtItemAt 20 = .ok (.aload_n 0, 1) := by decide +kernel
theorem dX2_doubtItemAt_21 : decode cX2_doubtItemAt 21 = .ok (.getfield 21, 3) := by decide +kernel
theorem dX2_doubtItemAt_24 : decode cX2_doubtItemAt 24 = .ok (.aload_n 2, 1) := by decide +kernel
theorem dX2_doubtItemAt_25 : decode cX2_doubtItemAt 25 = .ok (.invokevirtual 71, 3) := by decide +kernel
theorem dX2_doubtItemAt_28 : decode cX2_doubtItemAt 28 = .ok (.return_, 1) := by decide +kernel
set_option maxRecDepth 20000 in
theorem ggX2_endDoubt_X2_takeOffTray : GoodIn wsX2_endDoubt wsX2_takeOffTray := goodIn_r _ [7, 8, 9, 10, 11, 12, 13, 14, 15, 16, 17, 6, 18, 19, 20, 21, 22, 23, 24, 25, 26, 27, 28, 29, 30, 31, 32, 33, 34, 35, 36, 37, 38, 39, 40, 41, 42, 43, 44, 45, 46, 47, 48, 49, 50, 51, 52, 53] (by decide +kernel) (by decide +kernel)
set_option maxRecDepth 20000 in
theorem gX2_endDoubt_X2_takeOffTray : GoodIn wsX2_endDoubt (wsV RX2 247 RX2 yX2_takeOffTray wsX2_takeOffTray) := goodIn_app (goodIn_of _ (by decide +kernel)) ggX2_endDoubt_X2_takeOffTray
theorem dX2_endDoubt_0 : decode cX2_endDoubt 0 = .ok (.aload_n 1, 1) := by decide +kernel
theorem dX2_endDoubt_1 : decode cX2_endDoubt 1 = .ok (.ifnonnull 4, 3) := by decide +kernel
theorem dX2_endDoubt_4 : decode cX2_endDoubt 4 = .ok (.return_, 1) := by decide +kernel
theorem dX2_endDoubt_5 : decode cX2_endDoubt 5 = .ok (.aload_n 1, 1) := by decide +kernel
theorem dX2_endDoubt_6 : decode cX2_endDoubt 6 = .ok (.iconst 0, 1) := by decide +kernel
theorem dX2_endDoubt_7 : decode cX2_endDoubt 7 = .ok (.putfield 183, 3) := by decide +kernel
theorem dX2_endDoubt_10 : decode cX2_endDoubt 10 = .ok (.aload_n 1, 1) := by decide +kernel
theorem dX2_endDoubt_11 : decode cX2_endDoubt 11 = .ok (.getfield 187, 3) := by decide +kernel
theorem dX2_endDoubt_14 : decode cX2_endDoubt 14 = .ok (.ifCond .ne 11, 3) := by decide +kernel
theorem dX2_endDoubt_17 : decode cX2_endDoubt 17 = .ok (.aload_n 0, 1) := by decide +kernel
theorem dX2_endDoubt_18 : decode cX2_endDoubt 18 = .ok (.aload_n 1, 1) := by decide +kernel
theorem dX2_endDoubt_19 : decode cX2_endDoubt 19 = .ok (.iconst 5, 1) := by decide +kernel
theorem dX2_endDoubt_20 : decode cX2_endDoubt 20 = .ok (.bipush (-2), 2) := by decide +kernel
theorem dX2_endDoubt_22 : decode cX2_endDoubt 22 = .ok (.invokevirtual 247, 3) := by decide +kernel
theorem dX2_endDoubt_25 : decode cX2_endDoubt 25 = .ok (.return_, 1) := by decide +kernel
set_option maxRecDepth 20000 in
theorem ggX2_countNotFound_X1_size : GoodIn wsX2_countNotFound wsX1_size := goodIn_r _ [7, 8, 36, 37] (by decide +kernel) (by decide +kernel)
set_option maxRecDepth 20000 in
theorem gX2_countNotFound_X1_size : GoodIn wsX2_countNotFound (wsV RX2 64 RX1 yX1_size wsX1_size) := goodIn_app (goodIn_of _ (by decide +kernel)) ggX2_countNotFound_X1_size
set_option maxRecDepth 20000 in
theorem ggX2_countNotFound_X1_at : GoodIn wsX2_countNotFound wsX1_at := goodIn_r _ [12, 8, 13, 36, 37] (by decide +kernel) (by decide +kernel)
set_option maxRecDepth 20000 in
theorem gX2_countNotFound_X1_at : GoodIn wsX2_countNotFound (wsV RX2 141 RX1 yX1_at wsX1_at) := goodIn_app (goodIn_of _ (by decide +kernel)) ggX2_countNotFound_X1_at
theorem dX2_countNotFound_0 : decode cX2_countNotFound 0 = .ok (.iconst 0, 1) := by decide +kernel
theorem dX2_countNotFound_1 : decode cX2_countNotFound 1 = .ok (.istore_n 1, 1) := by decide +kernel
theorem dX2_countNotFound_2 : decode cX2_countNotFound 2 = .ok (.iconst 0, 1) := by decide +kernel
theorem dX2_countNotFound_3 : decode cX2_countNotFound 3 = .ok (.istore_n 2, 1) := by decide +kernel
theorem dX2_countNotFound_4 : decode cX2_countNotFound 4 = .ok (.iload_n 2, 1) := by decide +kernel
theorem dX2_countNotFound_5 : decode cX2_countNotFound 5 = .ok (.aload_n 0, 1) := by decide +kernel
theorem dX2_countNotFound_6 : decode cX2_countNotFound 6 = .ok (.getfield 21, 3) := by decide +kernel
theorem dX2_countNotFound_9 : decode cX2_countNotFound 9 = .ok (.invokevirtual 64, 3) := by decide +kernel
theorem dX2_countNotFound_12 : decode cX2_countNotFound 12 = .ok (.if_icmp .ge 32, 3) := by decide +kernel
theorem dX2_countNotFound_15 : decode cX2_countNotFound 15 = .ok (.aload_n 0, 1) := by decide +kernel
theorem dX2_countNotFound_16 : decode cX2_countNotFound 16 = .ok (.getfield 21, 3) := by decide +kernel
theorem dX2_countNotFound_19 : decode cX2_countNotFound 19 = .ok (.iload_n 2, 1) := by decide +kernel
theorem dX2_countNotFound_20 : decode cX2_countNotFound 20 = .ok (.invokevirtual 141, 3) := by decide +kernel
theorem dX2_countNotFound_23 : decode cX2_countNotFound 23 = .ok (.astore_n 3, 1) := by decide +kernel
theorem dX2_countNotFound_24 : decode cX2_countNotFound 24 = .ok (.aload_n 3, 1) := by decide +kernel
theorem dX2_countNotFound_25 : decode cX2_countNotFound 25 = .ok (.ifnull 13, 3) := by decide +kernel
theorem dX2_countNotFound_28 : decode cX2_countNotFound 28 = .ok (.aload_n 3, 1) := by decide +kernel
theorem dX2_countNotFound_29 : decode cX2_countNotFound 29 = .ok (.getfield 187, 3) := by decide +kernel
theorem dX2_countNotFound_32 : decode cX2_countNotFound 32 = .ok (.ifCond .ne 6, 3) := by decide +kernel
theorem dX2_countNotFound_35 : decode cX2_countNotFound 35 = .ok (.iinc 1 1, 3) := by decide +kernel
theorem dX2_countNotFound_38 : decode cX2_countNotFound 38 = .ok (.iinc 2 1, 3) := by decide +kernel
theorem dX2_countNotFound_41 : decode cX2_countNotFound 41 = .ok (.goto (-37), 3) := by decide +kernel
theorem dX2_countNotFound_44 : decode cX2_countNotFound 44 = .ok (.iload_n 1, 1) := by decide +kernel
theorem dX2_countNotFound_45 : decode cX2_countNotFound 45 = .ok (.ireturn, 1) := by decide +kernel
theorem dX2_countEmptyTrays_0 : decode cX2_countEmptyTrays 0 = .ok (.iconst 0, 1) := by decide +kernel
theorem dX2_countEmptyTrays_1 : decode cX2_countEmptyTrays 1 = .ok (.istore_n 1, 1) := by decide +kernel
theorem dX2_countEmptyTrays_2 : decode cX2_countEmptyTrays 2 = .ok (.aload_n 0, 1) := by decide +kernel
theorem dX2_countEmptyTrays_3 : decode cX2_countEmptyTrays 3 = .ok (.getfield 39, 3) := by decide +kernel
theorem dX2_countEmptyTrays_6 : decode cX2_countEmptyTrays 6 = .ok (.astore_n 2, 1) := by decide +kernel
theorem dX2_countEmptyTrays_7 : decode cX2_countEmptyTrays 7 = .ok (.aload_n 2, 1) := by decide +kernel
theorem dX2_countEmptyTrays_8 : decode cX2_countEmptyTrays 8 = .ok (.arraylength, 1) := by decide +kernel
theorem dX2_countEmptyTrays_9 : decode cX2_countEmptyTrays 9 = .ok (.istore_n 3, 1) := by decide +kernel
theorem dX2_countEmptyTrays_10 : decode cX2_countEmptyTrays 10 = .ok (.iconst 0, 1) := by decide +kernel
theorem dX2_countEmptyTrays_11 : decode cX2_countEmptyTrays 11 = .ok (.istore 4, 2) := by decide +kernel
theorem dX2_countEmptyTrays_13 : decode cX2_countEmptyTrays 13 = .ok (.iload 4, 2) := by decide +kernel
theorem dX2_countEmptyTrays_15 : decode cX2_countEmptyTrays 15 = .ok (.iload_n 3, 1) := by decide +kernel
theorem dX2_countEmptyTrays_16 : decode cX2_countEmptyTrays 16 = .ok (.if_icmp .ge 23, 3) := by decide +kernel
theorem dX2_countEmptyTrays_19 : decode cX2_countEmptyTrays 19 = .ok (.aload_n 2, 1) := by decide +kernel
theorem dX2_countEmptyTrays_20 : decode cX2_countEmptyTrays 20 = .ok (.iload 4, 2) := by decide +kernel
theorem dX2_countEmptyTrays_22 : decode cX2_countEmptyTrays 22 = .ok (.aaload, 1) := by decide +kernel
theorem dX2_countEmptyTrays_23 : decode cX2_countEmptyTrays 23 = .ok (.astore 5, 2) := by decide +kernel
theorem dX2_countEmptyTrays_25 : decode cX2_countEmptyTrays 25 = .ok (.aload 5, 2) := by decide +kernel
theorem dX2_countEmptyTrays_27 : decode cX2_countEmptyTrays 27 = .ok (.ifnonnull 6, 3) := by decide +kernel
theorem dX2_countEmptyTrays_30 : decode cX2_countEmptyTrays 30 = .ok (.iinc 1 1, 3) := by decide +kernel
theorem dX2_countEmptyTrays_33 : decode cX2_countEmptyTrays 33 = .ok (.iinc 4 1, 3) := by decide +kernel
theorem dX2_countEmptyTrays_36 : decode cX2_countEmptyTrays 36 = .ok (.goto (-23), 3) := by decide +kernel
theorem dX2_countEmptyTrays_39 : decode cX2_countEmptyTrays 39 = .ok (.iload_n 1, 1) := by decide +kernel
theorem dX2_countEmptyTrays_40 : decode cX2_countEmptyTrays 40 = .ok (.ireturn, 1) := by decide +kernel
set_option maxRecDepth 20000 in
theorem ggX2_countOut_X1_size : GoodIn wsX2_countOut wsX1_size := goodIn_r _ [7, 8, 36, 37] (by decide +kernel) (by decide +kernel)
set_option maxRecDepth 20000 in
theorem gX2_countOut_X1_size : GoodIn wsX2_countOut (wsV RX2 64 RX1 yX1_size wsX1_size) := goodIn_app (goodIn_of _ (by decide +kernel)) ggX2_countOut_X1_size
set_option maxRecDepth 20000 in
theorem ggX2_countOut_X1_at : GoodIn wsX2_countOut wsX1_at := goodIn_r _ [12, 8, 13, 36, 37] (by decide +kernel) (by decide +kernel)
set_option maxRecDepth 20000 in
theorem gX2_countOut_X1_at : GoodIn wsX2_countOut (wsV RX2 141 RX1 yX1_at wsX1_at) := goodIn_app (goodIn_of _ (by decide +kernel)) ggX2_countOut_X1_at
theorem dX2_countOut_0 : decode cX2_countOut 0 = .ok (.iconst 0, 1) := by decide +kernel
theorem dX2_countOut_1 : decode cX2_countOut 1 = .ok (.istore_n 1, 1) := by decide +kernel
theorem dX2_countOut_2 : decode cX2_countOut 2 = .ok (.iconst 0, 1) := by decide +kernel
theorem dX2_countOut_3 : decode cX2_countOut 3 = .ok (.istore_n 2, 1) := by decide +kernel
theorem dX2_countOut_4 : decode cX2_countOut 4 = .ok (.iload_n 2, 1) := by decide +kernel
theorem dX2_countOut_5 : decode cX2_countOut 5 = .ok (.aload_n 0, 1) := by decide +kernel
theorem dX2_countOut_6 : decode cX2_countOut 6 = .ok (.getfield 14, 3) := by decide +kernel
theorem dX2_countOut_9 : decode cX2_countOut 9 = .ok (.invokevirtual 64, 3) := by decide +kernel
theorem dX2_countOut_12 : decode cX2_countOut 12 = .ok (.if_icmp .ge 33, 3) := by decide +kernel
theorem dX2_countOut_15 : decode cX2_countOut 15 = .ok (.aload_n 0, 1) := by decide +kernel
theorem dX2_countOut_16 : decode cX2_countOut 16 = .ok (.getfield 14, 3) := by decide +kernel
theorem dX2_countOut_19 : decode cX2_countOut 19 = .ok (.iload_n 2, 1) := by decide +kernel
theorem dX2_countOut_20 : decode cX2_countOut 20 = .ok (.invokevirtual 141, 3) := by decide +kernel
theorem dX2_countOut_23 : decode cX2_countOut 23 = .ok (.astore_n 3, 1) := by decide +kernel
theorem dX2_countOut_24 : decode cX2_countOut 24 = .ok (.aload_n 3, 1) := by decide +kernel
theorem dX2_countOut_25 : decode cX2_countOut 25 = .ok (.ifnull 14, 3) := by decide +kernel
theorem dX2_countOut_28 : decode cX2_countOut 28 = .ok (.aload_n 3, 1) := by decide +kernel
theorem dX2_countOut_29 : decode cX2_countOut 29 = .ok (.getfield 123, 3) := by decide +kernel
theorem dX2_countOut_32 : decode cX2_countOut 32 = .ok (.iconst 2, 1) := by decide +kernel
theorem dX2_countOut_33 : decode cX2_countOut 33 = .ok (.if_icmp .ne 6, 3) := by decide +kernel
theorem dX2_countOut_36 : decode cX2_countOut 36 = .ok (.iinc 1 1, 3) := by decide +kernel
theorem dX2_countOut_39 : decode cX2_countOut 39 = .ok (.iinc 2 1, 3) := by decide +kernel
theorem dX2_countOut_42 : decode cX2_countOut 42 = .ok (.goto (-38), 3) := by decide +kernel
theorem dX2_countOut_45 : decode cX2_countOut 45 = .ok (.iload_n 1, 1) := by decide +kernel
theorem dX2_countOut_46 : decode cX2_countOut 46 = .ok (.ireturn, 1) := by decide +kernel
theorem dX3_init_0 : decode cX3_init 0 = .ok (.aload_n 0, 1) := by decide +kernel
theorem dX3_init_1 : decode cX3_init 1 = .ok (.invokespecial 1, 3) := by decide +kernel
theorem dX3_init_4 : decode cX3_init 4 = .ok (.aload_n 0, 1) := by decide +kernel
theorem dX3_init_5 : decode cX3_init 5 = .ok (.bipush 60, 2) := by decide +kernel
theorem dX3_init_7 : decode cX3_init 7 = .ok (.putfield 7, 3) := by decide +kernel
theorem dX3_init_10 : decode cX3_init 10 = .ok (.aload_n 0, 1) := by decide +kernel
theorem dX3_init_11 : decode cX3_init 11 = .ok (.bipush 40, 2) := by decide +kernel
theorem dX3_init_13 : decode cX3_init 13 = .ok (.newarray .int, 2) := by decide +kernel
theorem dX3_init_15 : decode cX3_init 15 = .ok (.putfield 13, 3) := by decide +kernel
theorem dX3_init_18 : decode cX3_init 18 = .ok (.aload_n 0, 1) := by decide +kernel
theorem dX3_init_19 : decode cX3_init 19 = .ok (.bipush 7, 2) := by decide +kernel
theorem dX3_init_21 : decode cX3_init 21 = .ok (.newarray .boolean, 2) := by decide +kernel
theorem dX3_init_23 : decode cX3_init 23 = .ok (.putfield 17, 3) := by decide +kernel
theorem dX3_init_26 : decode cX3_init 26 = .ok (.aload_n 0, 1) := by decide +kernel
theorem dX3_init_27 : decode cX3_init 27 = .ok (.bipush 61, 2) := by decide +kernel
theorem dX3_init_29 : decode cX3_init 29 = .ok (.newarray .int, 2) := by decide +kernel
theorem dX3_init_31 : decode cX3_init 31 = .ok (.putfield 21, 3) := by decide +kernel
theorem dX3_init_34 : decode cX3_init 34 = .ok (.aload_n 0, 1) := by decide +kernel
theorem dX3_init_35 : decode cX3_init 35 = .ok (.bipush 61, 2) := by decide +kernel
theorem dX3_init_37 : decode cX3_init 37 = .ok (.newarray .int, 2) := by decide +kernel
theorem dX3_init_39 : decode cX3_init 39 = .ok (.putfield 24, 3) := by decide +kernel
theorem dX3_init_42 : decode cX3_init 42 = .ok (.aload_n 0, 1) := by decide +kernel
theorem dX3_init_43 : decode cX3_init 43 = .ok (.bipush 61, 2) := by decide +kernel
theorem dX3_init_45 : decode cX3_init 45 = .ok (.newarray .int, 2) := by decide +kernel
theorem dX3_init_47 : decode cX3_init 47 = .ok (.putfield 27, 3) := by decide +kernel
theorem dX3_init_50 : decode cX3_init 50 = .ok (.aload_n 0, 1) := by decide +kernel
theorem dX3_init_51 : decode cX3_init 51 = .ok (.bipush 61, 2) := by decide +kernel
theorem dX3_init_53 : decode cX3_init 53 = .ok (.newarray .int, 2) := by decide +kernel
theorem dX3_init_55 : decode cX3_init 55 = .ok (.putfield 30, 3) := by decide +kernel
theorem dX3_init_58 : decode cX3_init 58 = .ok (.aload_n 0, 1) := by decide +kernel
theorem dX3_init_59 : decode cX3_init 59 = .ok (.bipush 61, 2) := by decide +kernel
theorem dX3_init_61 : decode cX3_init 61 = .ok (.newarray .int, 2) := by decide +kernel
theorem dX3_init_63 : decode cX3_init 63 = .ok (.putfield 33, 3) := by decide +kernel
theorem dX3_init_66 : decode cX3_init 66 = .ok (.aload_n 0, 1) := by decide +kernel
theorem dX3_init_67 : decode cX3_init 67 = .ok (.bipush 61, 2) := by decide +kernel
theorem dX3_init_69 : decode cX3_init 69 = .ok (.newarray .int, 2) := by decide +kernel
theorem dX3_init_71 : decode cX3_init 71 = .ok (.putfield 36, 3) := by decide +kernel
theorem dX3_init_74 : decode cX3_init 74 = .ok (.aload_n 0, 1) := by decide +kernel
theorem dX3_init_75 : decode cX3_init 75 = .ok (.bipush 60, 2) := by decide +kernel
end
section
theorem dX3_init_77 : decode cX3_init 77 = .ok (.newarray .int, 2) := by decide +kernel
theorem dX3_init_79 : decode cX3_init 79 = .ok (.putfield 39, 3) := by decide +kernel
theorem dX3_init_82 : decode cX3_init 82 = .ok (.aload_n 0, 1) := by decide +kernel
theorem dX3_init_83 : decode cX3_init 83 = .ok (.bipush 60, 2) := by decide +kernel
theorem dX3_init_85 : decode cX3_init 85 = .ok (.newarray .int, 2) := by decide +kernel
theorem dX3_init_87 : decode cX3_init 87 = .ok (.putfield 42, 3) := by decide +kernel
theorem dX3_init_90 : decode cX3_init 90 = .ok (.aload_n 0, 1) := by decide +kernel
theorem dX3_init_91 : decode cX3_init 91 = .ok (.bipush 60, 2) := by decide +kernel
theorem dX3_init_93 : decode cX3_init 93 = .ok (.newarray .int, 2) := by decide +kernel
theorem dX3_init_95 : decode cX3_init 95 = .ok (.putfield 45, 3) := by decide +kernel
theorem dX3_init_98 : decode cX3_init 98 = .ok (.aload_n 0, 1) := by decide +kernel
theorem dX3_init_99 : decode cX3_init 99 = .ok (.bipush 60, 2) := by decide +kernel
theorem dX3_init_101 : decode cX3_init 101 = .ok (.newarray .int, 2) := by decide +kernel
theorem dX3_init_103 : decode cX3_init 103 = .ok (.putfield 48, 3) := by decide +kernel
theorem dX3_init_106 : decode cX3_init 106 = .ok (.aload_n 0, 1) := by decide +kernel
theorem dX3_init_107 : decode cX3_init 107 = .ok (.bipush 40, 2) := by decide +kernel
theorem dX3_init_109 : decode cX3_init 109 = .ok (.newarray .int, 2) := by decide +kernel
theorem dX3_init_111 : decode cX3_init 111 = .ok (.putfield 51, 3) := by decide +kernel
theorem dX3_init_114 : decode cX3_init 114 = .ok (.aload_n 0, 1) := by decide +kernel
theorem dX3_init_115 : decode cX3_init 115 = .ok (.bipush 61, 2) := by decide +kernel
theorem dX3_init_117 : decode cX3_init 117 = .ok (.newarray .boolean, 2) := by decide +kernel
theorem dX3_init_119 : decode cX3_init 119 = .ok (.putfield 54, 3) := by decide +kernel
theorem dX3_init_122 : decode cX3_init 122 = .ok (.aload_n 0, 1) := by decide +kernel
theorem dX3_init_123 : decode cX3_init 123 = .ok (.iload_n 1, 1) := by decide +kernel
theorem dX3_init_124 : decode cX3_init 124 = .ok (.iconst 2, 1) := by decide +kernel
theorem dX3_init_125 : decode cX3_init 125 = .ok (.if_icmp .ge 7, 3) := by decide +kernel
theorem dX3_init_128 : decode cX3_init 128 = .ok (.iconst 2, 1) := by decide +kernel
theorem dX3_init_129 : decode cX3_init 129 = .ok (.goto 15, 3) := by decide +kernel
theorem dX3_init_132 : decode cX3_init 132 = .ok (.iload_n 1, 1) := by decide +kernel
theorem dX3_init_133 : decode cX3_init 133 = .ok (.bipush 40, 2) := by decide +kernel
theorem dX3_init_135 : decode cX3_init 135 = .ok (.if_icmp .le 8, 3) := by decide +kernel
theorem dX3_init_138 : decode cX3_init 138 = .ok (.bipush 40, 2) := by decide +kernel
theorem dX3_init_140 : decode cX3_init 140 = .ok (.goto 4, 3) := by decide +kernel
theorem dX3_init_143 : decode cX3_init 143 = .ok (.iload_n 1, 1) := by decide +kernel
theorem dX3_init_144 : decode cX3_init 144 = .ok (.putfield 57, 3) := by decide +kernel
theorem dX3_init_147 : decode cX3_init 147 = .ok (.aload_n 0, 1) := by decide +kernel
theorem dX3_init_148 : decode cX3_init 148 = .ok (.iload_n 2, 1) := by decide +kernel
theorem dX3_init_149 : decode cX3_init 149 = .ok (.ifCond .ge 7, 3) := by decide +kernel
theorem dX3_init_152 : decode cX3_init 152 = .ok (.iconst 0, 1) := by decide +kernel
theorem dX3_init_153 : decode cX3_init 153 = .ok (.goto 15, 3) := by decide +kernel
theorem dX3_init_156 : decode cX3_init 156 = .ok (.iload_n 2, 1) := by decide +kernel
theorem dX3_init_157 : decode cX3_init 157 = .ok (.bipush 9, 2) := by decide +kernel
theorem dX3_init_159 : decode cX3_init 159 = .ok (.if_icmp .le 8, 3) := by decide +kernel
theorem dX3_init_162 : decode cX3_init 162 = .ok (.bipush 9, 2) := by decide +kernel
theorem dX3_init_164 : decode cX3_init 164 = .ok (.goto 4, 3) := by decide +kernel
theorem dX3_init_167 : decode cX3_init 167 = .ok (.iload_n 2, 1) := by decide +kernel
theorem dX3_init_168 : decode cX3_init 168 = .ok (.putfield 60, 3) := by decide +kernel
theorem dX3_init_171 : decode cX3_init 171 = .ok (.return_, 1) := by decide +kernel
theorem dX3_thrown_0 : decode cX3_thrown 0 = .ok (.aload_n 0, 1) := by decide +kernel
theorem dX3_thrown_1 : decode cX3_thrown 1 = .ok (.getfield 63, 3) := by decide +kernel
theorem dX3_thrown_4 : decode cX3_thrown 4 = .ok (.ireturn, 1) := by decide +kernel
theorem dX3_in_0 : decode cX3_in 0 = .ok (.iload_n 0, 1) := by decide +kernel
theorem dX3_in_1 : decode cX3_in 1 = .ok (.iload_n 1, 1) := by decide +kernel
theorem dX3_in_2 : decode cX3_in 2 = .ok (.if_icmp .lt 12, 3) := by decide +kernel
theorem dX3_in_5 : decode cX3_in 5 = .ok (.iload_n 0, 1) := by decide +kernel
theorem dX3_in_6 : decode cX3_in 6 = .ok (.iload_n 2, 1) := by decide +kernel
theorem dX3_in_7 : decode cX3_in 7 = .ok (.if_icmp .gt 7, 3) := by decide +kernel
theorem dX3_in_10 : decode cX3_in 10 = .ok (.iconst 1, 1) := by decide +kernel
theorem dX3_in_11 : decode cX3_in 11 = .ok (.goto 4, 3) := by decide +kernel
theorem dX3_in_14 : decode cX3_in 14 = .ok (.iconst 0, 1) := by decide +kernel
theorem dX3_in_15 : decode cX3_in 15 = .ok (.ireturn, 1) := by decide +kernel
set_option maxRecDepth 20000 in
theorem ggX3_isItem_X3_in : GoodIn wsX3_isItem wsX3_in := goodIn_r _ [5] (by decide +kernel) (by decide +kernel)
set_option maxRecDepth 20000 in
theorem gX3_isItem_X3_in : GoodIn wsX3_isItem (va_wsS RX3 69 yX3_in wsX3_in) := goodIn_app (goodIn_of _ (by decide +kernel)) ggX3_isItem_X3_in
theorem dX3_isItem_0 : decode cX3_isItem 0 = .ok (.iload_n 1, 1) := by decide +kernel
theorem dX3_isItem_1 : decode cX3_isItem 1 = .ok (.iconst 1, 1) := by decide +kernel
theorem dX3_isItem_2 : decode cX3_isItem 2 = .ok (.aload_n 0, 1) := by decide +kernel
theorem dX3_isItem_3 : decode cX3_isItem 3 = .ok (.getfield 66, 3) := by decide +kernel
theorem dX3_isItem_6 : decode cX3_isItem 6 = .ok (.invokestatic 69, 3) := by decide +kernel
theorem dX3_isItem_9 : decode cX3_isItem 9 = .ok (.ireturn, 1) := by decide +kernel
theorem dX3_chutes_0 : decode cX3_chutes 0 = .ok (.aload_n 0, 1) := by decide +kernel
theorem dX3_chutes_1 : decode cX3_chutes 1 = .ok (.getfield 57, 3) := by decide +kernel
theorem dX3_chutes_4 : decode cX3_chutes 4 = .ok (.bipush 12, 2) := by decide +kernel
theorem dX3_chutes_6 : decode cX3_chutes 6 = .ok (.if_icmp .le 8, 3) := by decide +kernel
theorem dX3_chutes_9 : decode cX3_chutes 9 = .ok (.bipush 6, 2) := by decide +kernel
theorem dX3_chutes_11 : decode cX3_chutes 11 = .ok (.goto 11, 3) := by decide +kernel
theorem dX3_chutes_14 : decode cX3_chutes 14 = .ok (.aload_n 0, 1) := by decide +kernel
theorem dX3_chutes_15 : decode cX3_chutes 15 = .ok (.getfield 57, 3) := by decide +kernel
theorem dX3_chutes_18 : decode cX3_chutes 18 = .ok (.iconst 1, 1) := by decide +kernel
theorem dX3_chutes_19 : decode cX3_chutes 19 = .ok (.isub, 1) := by decide +kernel
theorem dX3_chutes_20 : decode cX3_chutes 20 = .ok (.iconst 2, 1) := by decide +kernel
theorem dX3_chutes_21 : decode cX3_chutes 21 = .ok (.idiv, 1) := by decide +kernel
theorem dX3_chutes_22 : decode cX3_chutes 22 = .ok (.ireturn, 1) := by decide +kernel
set_option maxRecDepth 20000 in
theorem ggX3_isChute_X3_chutes : GoodIn wsX3_isChute wsX3_chutes := goodIn_r _ [5, 6, 10, 11, 12, 13, 14, 15, 16, 17, 18, 19, 20, 21, 22, 23, 24, 25, 26, 27, 28, 29, 30, 31, 32] (by decide +kernel) (by decide +kernel)
set_option maxRecDepth 20000 in
theorem gX3_isChute_X3_chutes : GoodIn wsX3_isChute (wsV RX3 73 RX3 yX3_chutes wsX3_chutes) := goodIn_app (goodIn_of _ (by decide +kernel)) ggX3_isChute_X3_chutes
set_option maxRecDepth 20000 in
theorem ggX3_isChute_X3_in : GoodIn wsX3_isChute wsX3_in := goodIn_r _ [9] (by decide +kernel) (by decide +kernel)
set_option maxRecDepth 20000 in
theorem gX3_isChute_X3_in : GoodIn wsX3_isChute (va_wsS RX3 69 yX3_in wsX3_in) := goodIn_app (goodIn_of _ (by decide +kernel)) ggX3_isChute_X3_in
theorem dX3_isChute_0 : decode cX3_isChute 0 = .ok (.iload_n 1, 1) := by decide +kernel
theorem dX3_isChute_1 : decode cX3_isChute 1 = .ok (.iconst 1, 1) := by decide +kernel
theorem dX3_isChute_2 : decode cX3_isChute 2 = .ok (.aload_n 0, 1) := by decide +kernel
theorem dX3_isChute_3 : decode cX3_isChute 3 = .ok (.invokevirtual 73, 3) := by decide +kernel
theorem dX3_isChute_6 : decode cX3_isChute 6 = .ok (.invokestatic 69, 3) := by decide +kernel
theorem dX3_isChute_9 : decode cX3_isChute 9 = .ok (.ireturn, 1) := by decide +kernel
set_option maxRecDepth 20000 in
theorem ggX3_isCode_X3_isChute : GoodIn wsX3_isCode wsX3_isChute := goodIn_r _ [5, 6, 7, 8, 4, 9, 10, 11, 12, 13, 14, 15, 16, 17, 18, 19, 20, 21, 22, 23, 24, 25, 26, 27, 28, 29, 30, 31, 32, 33, 34, 35, 36] (by decide +kernel) (by decide +kernel)
set_option maxRecDepth 20000 in
theorem gX3_isCode_X3_isChute : GoodIn wsX3_isCode (wsV RX3 77 RX3 yX3_isChute wsX3_isChute) := goodIn_app (goodIn_of _ (by decide +kernel)) ggX3_isCode_X3_isChute
theorem dX3_isCode_0 : decode cX3_isCode 0 = .ok (.iload_n 1, 1) := by decide +kernel
theorem dX3_isCode_1 : decode cX3_isCode 1 = .ok (.ifCond .eq 11, 3) := by decide +kernel
theorem dX3_isCode_4 : decode cX3_isCode 4 = .ok (.aload_n 0, 1) := by decide +kernel
theorem dX3_isCode_5 : decode cX3_isCode 5 = .ok (.iload_n 1, 1) := by decide +kernel
theorem dX3_isCode_6 : decode cX3_isCode 6 = .ok (.invokevirtual 77, 3) := by decide +kernel
theorem dX3_isCode_9 : decode cX3_isCode 9 = .ok (.ifCond .eq 7, 3) := by decide +kernel
theorem dX3_isCode_12 : decode cX3_isCode 12 = .ok (.iconst 1, 1) := by decide +kernel
theorem dX3_isCode_13 : decode cX3_isCode 13 = .ok (.goto 4, 3) := by decide +kernel
theorem dX3_isCode_16 : decode cX3_isCode 16 = .ok (.iconst 0, 1) := by decide +kernel
theorem dX3_isCode_17 : decode cX3_isCode 17 = .ok (.ireturn, 1) := by decide +kernel
theorem dX3_trayAt_0 : decode cX3_trayAt 0 = .ok (.iload_n 1, 1) := by decide +kernel
theorem dX3_trayAt_1 : decode cX3_trayAt 1 = .ok (.aload_n 0, 1) := by decide +kernel
theorem dX3_trayAt_2 : decode cX3_trayAt 2 = .ok (.getfield 57, 3) := by decide +kernel
theorem dX3_trayAt_5 : decode cX3_trayAt 5 = .ok (.iadd, 1) := by decide +kernel
theorem dX3_trayAt_6 : decode cX3_trayAt 6 = .ok (.aload_n 0, 1) := by decide +kernel
theorem dX3_trayAt_7 : decode cX3_trayAt 7 = .ok (.getfield 81, 3) := by decide +kernel
theorem dX3_trayAt_10 : decode cX3_trayAt 10 = .ok (.aload_n 0, 1) := by decide +kernel
theorem dX3_trayAt_11 : decode cX3_trayAt 11 = .ok (.getfield 57, 3) := by decide +kernel
theorem dX3_trayAt_14 : decode cX3_trayAt 14 = .ok (.irem, 1) := by decide +kernel
theorem dX3_trayAt_15 : decode cX3_trayAt 15 = .ok (.isub, 1) := by decide +kernel
theorem dX3_trayAt_16 : decode cX3_trayAt 16 = .ok (.aload_n 0, 1) := by decide +kernel
theorem dX3_trayAt_17 : decode cX3_trayAt 17 = .ok (.getfield 57, 3) := by decide +kernel
theorem dX3_trayAt_20 : decode cX3_trayAt 20 = .ok (.irem, 1) := by decide +kernel
theorem dX3_trayAt_21 : decode cX3_trayAt 21 = .ok (.ireturn, 1) := by decide +kernel
theorem dX3_trayOf_0 : decode cX3_trayOf 0 = .ok (.iconst 0, 1) := by decide +kernel
theorem dX3_trayOf_1 : decode cX3_trayOf 1 = .ok (.istore_n 2, 1) := by decide +kernel
theorem dX3_trayOf_2 : decode cX3_trayOf 2 = .ok (.iload_n 2, 1) := by decide +kernel
theorem dX3_trayOf_3 : decode cX3_trayOf 3 = .ok (.aload_n 0, 1) := by decide +kernel
theorem dX3_trayOf_4 : decode cX3_trayOf 4 = .ok (.getfield 57, 3) := by decide +kernel
theorem dX3_trayOf_7 : decode cX3_trayOf 7 = .ok (.if_icmp .ge 21, 3) := by decide +kernel
theorem dX3_trayOf_10 : decode cX3_trayOf 10 = .ok (.aload_n 0, 1) := by decide +kernel
theorem dX3_trayOf_11 : decode cX3_trayOf 11 = .ok (.getfield 13, 3) := by decide +kernel
theorem dX3_trayOf_14 : decode cX3_trayOf 14 = .ok (.iload_n 2, 1) := by decide +kernel
theorem dX3_trayOf_15 : decode cX3_trayOf 15 = .ok (.iaload, 1) := by decide +kernel
theorem dX3_trayOf_16 : decode cX3_trayOf 16 = .ok (.iload_n 1, 1) := by decide +kernel
theorem dX3_trayOf_17 : decode cX3_trayOf 17 = .ok (.if_icmp .ne 5, 3) := by decide +kernel
theorem dX3_trayOf_20 : decode cX3_trayOf 20 = .ok (.iload_n 2, 1) := by decide +kernel
theorem dX3_trayOf_21 : decode cX3_trayOf 21 = .ok (.ireturn, 1) := by decide +kernel
theorem dX3_trayOf_22 : decode cX3_trayOf 22 = .ok (.iinc 2 1, 3) := by decide +kernel
theorem dX3_trayOf_25 : decode cX3_trayOf 25 = .ok (.goto (-23), 3) := by decide +kernel
theorem dX3_trayOf_28 : decode cX3_trayOf 28 = .ok (.iconst (-1), 1) := by decide +kernel
theorem dX3_trayOf_29 : decode cX3_trayOf 29 = .ok (.ireturn, 1) := by decide +kernel
set_option maxRecDepth 20000 in
theorem ggX3_item_X3_in : GoodIn wsX3_item wsX3_in := goodIn_r _ [7] (by decide +kernel) (by decide +kernel)
set_option maxRecDepth 20000 in
theorem gX3_item_X3_in : GoodIn wsX3_item (va_wsS RX3 69 yX3_in wsX3_in) := goodIn_app (goodIn_of _ (by decide +kernel)) ggX3_item_X3_in
theorem dX3_item_0 : decode cX3_item 0 = .ok (.aload_n 0, 1) := by decide +kernel
theorem dX3_item_1 : decode cX3_item 1 = .ok (.iload_n 1, 1) := by decide +kernel
theorem dX3_item_2 : decode cX3_item 2 = .ok (.iconst 1, 1) := by decide +kernel
theorem dX3_item_3 : decode cX3_item 3 = .ok (.bipush 100, 2) := by decide +kernel
theorem dX3_item_5 : decode cX3_item 5 = .ok (.invokestatic 69, 3) := by decide +kernel
theorem dX3_item_8 : decode cX3_item 8 = .ok (.ifCond .ne 7, 3) := by decide +kernel
theorem dX3_item_11 : decode cX3_item 11 = .ok (.iconst 1, 1) := by decide +kernel
theorem dX3_item_12 : decode cX3_item 12 = .ok (.goto 17, 3) := by decide +kernel
theorem dX3_item_15 : decode cX3_item 15 = .ok (.aload_n 0, 1) := by decide +kernel
theorem dX3_item_16 : decode cX3_item 16 = .ok (.getfield 66, 3) := by decide +kernel
theorem dX3_item_19 : decode cX3_item 19 = .ok (.bipush 60, 2) := by decide +kernel
theorem dX3_item_21 : decode cX3_item 21 = .ok (.if_icmp .ne 7, 3) := by decide +kernel
theorem dX3_item_24 : decode cX3_item 24 = .ok (.iconst 2, 1) := by decide +kernel
theorem dX3_item_25 : decode cX3_item 25 = .ok (.goto 4, 3) := by decide +kernel
theorem dX3_item_28 : decode cX3_item 28 = .ok (.iconst 0, 1) := by decide +kernel
theorem dX3_item_29 : decode cX3_item 29 = .ok (.putfield 63, 3) := by decide +kernel
theorem dX3_item_32 : decode cX3_item 32 = .ok (.aload_n 0, 1) := by decide +kernel
theorem dX3_item_33 : decode cX3_item 33 = .ok (.getfield 63, 3) := by decide +kernel
theorem dX3_item_36 : decode cX3_item 36 = .ok (.ifCond .le 5, 3) := by decide +kernel
theorem dX3_item_39 : decode cX3_item 39 = .ok (.iconst 0, 1) := by decide +kernel
theorem dX3_item_40 : decode cX3_item 40 = .ok (.ireturn, 1) := by decide +kernel
theorem dX3_item_41 : decode cX3_item 41 = .ok (.aload_n 0, 1) := by decide +kernel
theorem dX3_item_42 : decode cX3_item 42 = .ok (.dup, 1) := by decide +kernel
theorem dX3_item_43 : decode cX3_item 43 = .ok (.getfield 66, 3) := by decide +kernel
theorem dX3_item_46 : decode cX3_item 46 = .ok (.iconst 1, 1) := by decide +kernel
theorem dX3_item_47 : decode cX3_item 47 = .ok (.iadd, 1) := by decide +kernel
theorem dX3_item_48 : decode cX3_item 48 = .ok (.putfield 66, 3) := by decide +kernel
theorem dX3_item_51 : decode cX3_item 51 = .ok (.aload_n 0, 1) := by decide +kernel
theorem dX3_item_52 : decode cX3_item 52 = .ok (.getfield 21, 3) := by decide +kernel
theorem dX3_item_55 : decode cX3_item 55 = .ok (.aload_n 0, 1) := by decide +kernel
theorem dX3_item_56 : decode cX3_item 56 = .ok (.getfield 66, 3) := by decide +kernel
theorem dX3_item_59 : decode cX3_item 59 = .ok (.iload_n 1, 1) := by decide +kernel
theorem dX3_item_60 : decode cX3_item 60 = .ok (.iastore, 1) := by decide +kernel
theorem dX3_item_61 : decode cX3_item 61 = .ok (.aload_n 0, 1) := by decide +kernel
theorem dX3_item_62 : decode cX3_item 62 = .ok (.getfield 66, 3) := by decide +kernel
theorem dX3_item_65 : decode cX3_item 65 = .ok (.ireturn, 1) := by decide +kernel
set_option maxRecDepth 20000 in
theorem ggX3_induct_X3_isItem : GoodIn wsX3_induct wsX3_isItem := goodIn_r _ [12, 13, 14, 15, 11, 16, 35, 36, 37, 38, 39, 40, 41, 42, 43, 44, 45, 46, 47, 48, 49, 50, 51, 52, 53, 54, 55, 56, 57] (by decide +kernel) (by decide +kernel)
set_option maxRecDepth 20000 in
theorem gX3_induct_X3_isItem : GoodIn wsX3_induct (wsV RX3 84 RX3 yX3_isItem wsX3_isItem) := goodIn_app (goodIn_of _ (by decide +kernel)) ggX3_induct_X3_isItem
set_option maxRecDepth 20000 in
theorem ggX3_induct_X3_in : GoodIn wsX3_induct wsX3_in := goodIn_r _ [16] (by decide +kernel) (by decide +kernel)
set_option maxRecDepth 20000 in
theorem gX3_induct_X3_in : GoodIn wsX3_induct (va_wsS RX3 69 yX3_in wsX3_in) := goodIn_app (goodIn_of _ (by decide +kernel)) ggX3_induct_X3_in
set_option maxRecDepth 20000 in
theorem ggX3_induct_X3_isCode : GoodIn wsX3_induct wsX3_isCode := goodIn_r _ [20, 21, 22, 23, 11, 24, 25, 26, 27, 28, 29, 14, 15, 16, 35, 36, 37, 38, 39, 40, 41, 42, 43, 44, 45, 46, 47, 48, 49, 50, 51, 52, 53, 54, 55, 56, 57] (by decide +kernel) (by decide +kernel)
set_option maxRecDepth 20000 in
theorem gX3_induct_X3_isCode : GoodIn wsX3_induct (wsV RX3 87 RX3 yX3_isCode wsX3_isCode) := goodIn_app (goodIn_of _ (by decide +kernel)) ggX3_induct_X3_isCode
set_option maxRecDepth 20000 in
theorem ggX3_induct_X3_trayAt : GoodIn wsX3_induct wsX3_trayAt := goodIn_r _ [33, 29, 34, 35, 36, 37, 38, 39, 40, 41, 42, 43, 44, 45, 46, 47, 48, 49, 50, 51, 52, 53, 54, 55, 56, 57] (by decide +kernel) (by decide +kernel)
set_option maxRecDepth 20000 in
theorem gX3_induct_X3_trayAt : GoodIn wsX3_induct (wsV RX3 90 RX3 yX3_trayAt wsX3_trayAt) := goodIn_app (goodIn_of _ (by decide +kernel)) ggX3_induct_X3_trayAt
theorem dX3_induct_0 : decode cX3_induct 0 = .ok (.aload_n 0, 1) := by decide +kernel
theorem dX3_induct_1 : decode cX3_induct 1 = .ok (.aload_n 0, 1) := by decide +kernel
theorem dX3_induct_2 : decode cX3_induct 2 = .ok (.iload_n 1, 1) := by decide +kernel
theorem dX3_induct_3 : decode cX3_induct 3 = .ok (.invokevirtual 84, 3) := by decide +kernel
theorem dX3_induct_6 : decode cX3_induct 6 = .ok (.ifCond .eq 20, 3) := by decide +kernel
theorem dX3_induct_9 : decode cX3_induct 9 = .ok (.iload_n 2, 1) := by decide +kernel
theorem dX3_induct_10 : decode cX3_induct 10 = .ok (.iconst 0, 1) := by decide +kernel
theorem dX3_induct_11 : decode cX3_induct 11 = .ok (.iconst 1, 1) := by decide +kernel
theorem dX3_induct_12 : decode cX3_induct 12 = .ok (.invokestatic 69, 3) := by decide +kernel
theorem dX3_induct_15 : decode cX3_induct 15 = .ok (.ifCond .eq 11, 3) := by decide +kernel
theorem dX3_induct_18 : decode cX3_induct 18 = .ok (.aload_n 0, 1) := by decide +kernel
theorem dX3_induct_19 : decode cX3_induct 19 = .ok (.iload_n 3, 1) := by decide +kernel
theorem dX3_induct_20 : decode cX3_induct 20 = .ok (.invokevirtual 87, 3) := by decide +kernel
theorem dX3_induct_23 : decode cX3_induct 23 = .ok (.ifCond .ne 7, 3) := by decide +kernel
theorem dX3_induct_26 : decode cX3_induct 26 = .ok (.iconst 1, 1) := by decide +kernel
theorem dX3_induct_27 : decode cX3_induct 27 = .ok (.goto 4, 3) := by decide +kernel
theorem dX3_induct_30 : decode cX3_induct 30 = .ok (.iconst 0, 1) := by decide +kernel
theorem dX3_induct_31 : decode cX3_induct 31 = .ok (.putfield 63, 3) := by decide +kernel
theorem dX3_induct_34 : decode cX3_induct 34 = .ok (.aload_n 0, 1) := by decide +kernel
theorem dX3_induct_35 : decode cX3_induct 35 = .ok (.getfield 63, 3) := by decide +kernel
theorem dX3_induct_38 : decode cX3_induct 38 = .ok (.ifCond .ne 54, 3) := by decide +kernel
theorem dX3_induct_41 : decode cX3_induct 41 = .ok (.aload_n 0, 1) := by decide +kernel
theorem dX3_induct_42 : decode cX3_induct 42 = .ok (.aload_n 0, 1) := by decide +kernel
theorem dX3_induct_43 : decode cX3_induct 43 = .ok (.getfield 24, 3) := by decide +kernel
theorem dX3_induct_46 : decode cX3_induct 46 = .ok (.iload_n 1, 1) := by decide +kernel
theorem dX3_induct_47 : decode cX3_induct 47 = .ok (.iaload, 1) := by decide +kernel
theorem dX3_induct_48 : decode cX3_induct 48 = .ok (.ifCond .ne 36, 3) := by decide +kernel
theorem dX3_induct_51 : decode cX3_induct 51 = .ok (.aload_n 0, 1) := by decide +kernel
theorem dX3_induct_52 : decode cX3_induct 52 = .ok (.getfield 13, 3) := by decide +kernel
theorem dX3_induct_55 : decode cX3_induct 55 = .ok (.aload_n 0, 1) := by decide +kernel
theorem dX3_induct_56 : decode cX3_induct 56 = .ok (.iload_n 2, 1) := by decide +kernel
theorem dX3_induct_57 : decode cX3_induct 57 = .ok (.invokevirtual 90, 3) := by decide +kernel
theorem dX3_induct_60 : decode cX3_induct 60 = .ok (.iaload, 1) := by decide +kernel
theorem dX3_induct_61 : decode cX3_induct 61 = .ok (.ifCond .ne 23, 3) := by decide +kernel
theorem dX3_induct_64 : decode cX3_induct 64 = .ok (.aload_n 0, 1) := by decide +kernel
theorem dX3_induct_65 : decode cX3_induct 65 = .ok (.getfield 94, 3) := by decide +kernel
theorem dX3_induct_68 : decode cX3_induct 68 = .ok (.ifCond .ne 16, 3) := by decide +kernel
theorem dX3_induct_71 : decode cX3_induct 71 = .ok (.aload_n 0, 1) := by decide +kernel
theorem dX3_induct_72 : decode cX3_induct 72 = .ok (.getfield 21, 3) := by decide +kernel
theorem dX3_induct_75 : decode cX3_induct 75 = .ok (.iload_n 1, 1) := by decide +kernel
theorem dX3_induct_76 : decode cX3_induct 76 = .ok (.iaload, 1) := by decide +kernel
theorem dX3_induct_77 : decode cX3_induct 77 = .ok (.aload_n 0, 1) := by decide +kernel
theorem dX3_induct_78 : decode cX3_induct 78 = .ok (.getfield 7, 3) := by decide +kernel
theorem dX3_induct_81 : decode cX3_induct 81 = .ok (.if_icmp .le 7, 3) := by decide +kernel
theorem dX3_induct_84 : decode cX3_induct 84 = .ok (.iconst 2, 1) := by decide +kernel
theorem dX3_induct_85 : decode cX3_induct 85 = .ok (.goto 4, 3) := by decide +kernel
theorem dX3_induct_88 : decode cX3_induct 88 = .ok (.iconst 0, 1) := by decide +kernel
theorem dX3_induct_89 : decode cX3_induct 89 = .ok (.putfield 63, 3) := by decide +kernel
theorem dX3_induct_92 : decode cX3_induct 92 = .ok (.aload_n 0, 1) := by decide +kernel
theorem dX3_induct_93 : decode cX3_induct 93 = .ok (.getfield 63, 3) := by decide +kernel
theorem dX3_induct_96 : decode cX3_induct 96 = .ok (.ifCond .le 5, 3) := by decide +kernel
theorem dX3_induct_99 : decode cX3_induct 99 = .ok (.iconst 0, 1) := by decide +kernel
theorem dX3_induct_100 : decode cX3_induct 100 = .ok (.ireturn, 1) := by decide +kernel
theorem dX3_induct_101 : decode cX3_induct 101 = .ok (.aload_n 0, 1) := by decide +kernel
theorem dX3_induct_102 : decode cX3_induct 102 = .ok (.getfield 13, 3) := by decide +kernel
theorem dX3_induct_105 : decode cX3_induct 105 = .ok (.aload_n 0, 1) := by decide +kernel
theorem dX3_induct_106 : decode cX3_induct 106 = .ok (.iload_n 2, 1) := by decide +kernel
theorem dX3_induct_107 : decode cX3_induct 107 = .ok (.invokevirtual 90, 3) := by decide +kernel
theorem dX3_induct_110 : decode cX3_induct 110 = .ok (.iload_n 1, 1) := by decide +kernel
theorem dX3_induct_111 : decode cX3_induct 111 = .ok (.iastore, 1) := by decide +kernel
theorem dX3_induct_112 : decode cX3_induct 112 = .ok (.aload_n 0, 1) := by decide +kernel
theorem dX3_induct_113 : decode cX3_induct 113 = .ok (.getfield 24, 3) := by decide +kernel
theorem dX3_induct_116 : decode cX3_induct 116 = .ok (.iload_n 1, 1) := by decide +kernel
theorem dX3_induct_117 : decode cX3_induct 117 = .ok (.iconst 1, 1) := by decide +kernel
theorem dX3_induct_118 : decode cX3_induct 118 = .ok (.iastore, 1) := by decide +kernel
theorem dX3_induct_119 : decode cX3_induct 119 = .ok (.aload_n 0, 1) := by decide +kernel
theorem dX3_induct_120 : decode cX3_induct 120 = .ok (.getfield 27, 3) := by decide +kernel
theorem dX3_induct_123 : decode cX3_induct 123 = .ok (.iload_n 1, 1) := by decide +kernel
theorem dX3_induct_124 : decode cX3_induct 124 = .ok (.iload_n 3, 1) := by decide +kernel
theorem dX3_induct_125 : decode cX3_induct 125 = .ok (.iastore, 1) := by decide +kernel
theorem dX3_induct_126 : decode cX3_induct 126 = .ok (.aload_n 0, 1) := by decide +kernel
theorem dX3_induct_127 : decode cX3_induct 127 = .ok (.iload_n 2, 1) := by decide +kernel
theorem dX3_induct_128 : decode cX3_induct 128 = .ok (.invokevirtual 90, 3) := by decide +kernel
theorem dX3_induct_131 : decode cX3_induct 131 = .ok (.ireturn, 1) := by decide +kernel
set_option maxRecDepth 20000 in
theorem ggX3_length_X3_in : GoodIn wsX3_length wsX3_in := goodIn_r _ [9] (by decide +kernel) (by decide +kernel)
set_option maxRecDepth 20000 in
theorem gX3_length_X3_in : GoodIn wsX3_length (va_wsS RX3 69 yX3_in wsX3_in) := goodIn_app (goodIn_of _ (by decide +kernel)) ggX3_length_X3_in
theorem dX3_length_0 : decode cX3_length 0 = .ok (.aload_n 0, 1) := by decide +kernel
theorem dX3_length_1 : decode cX3_length 1 = .ok (.iload_n 1, 1) := by decide +kernel
theorem dX3_length_2 : decode cX3_length 2 = .ok (.iconst 1, 1) := by decide +kernel
theorem dX3_length_3 : decode cX3_length 3 = .ok (.bipush 100, 2) := by decide +kernel
theorem dX3_length_5 : decode cX3_length 5 = .ok (.invokestatic 69, 3) := by decide +kernel
theorem dX3_length_8 : decode cX3_length 8 = .ok (.ifCond .eq 7, 3) := by decide +kernel
theorem dX3_length_11 : decode cX3_length 11 = .ok (.iconst 0, 1) := by decide +kernel
theorem dX3_length_12 : decode cX3_length 12 = .ok (.goto 4, 3) := by decide +kernel
theorem dX3_length_15 : decode cX3_length 15 = .ok (.iconst 1, 1) := by decide +kernel
theorem dX3_length_16 : decode cX3_length 16 = .ok (.putfield 63, 3) := by decide +kernel
theorem dX3_length_19 : decode cX3_length 19 = .ok (.aload_n 0, 1) := by decide +kernel
theorem dX3_length_20 : decode cX3_length 20 = .ok (.getfield 63, 3) := by decide +kernel
theorem dX3_length_23 : decode cX3_length 23 = .ok (.ifCond .le 5, 3) := by decide +kernel
theorem dX3_length_26 : decode cX3_length 26 = .ok (.iconst 0, 1) := by decide +kernel
theorem dX3_length_27 : decode cX3_length 27 = .ok (.ireturn, 1) := by decide +kernel
theorem dX3_length_28 : decode cX3_length 28 = .ok (.aload_n 0, 1) := by decide +kernel
theorem dX3_length_29 : decode cX3_length 29 = .ok (.iload_n 1, 1) := by decide +kernel
theorem dX3_length_30 : decode cX3_length 30 = .ok (.putfield 7, 3) := by decide +kernel
theorem dX3_length_33 : decode cX3_length 33 = .ok (.iconst 0, 1) := by decide +kernel
theorem dX3_length_34 : decode cX3_length 34 = .ok (.istore_n 2, 1) := by decide +kernel
theorem dX3_length_35 : decode cX3_length 35 = .ok (.iconst 0, 1) := by decide +kernel
theorem dX3_length_36 : decode cX3_length 36 = .ok (.istore_n 3, 1) := by decide +kernel
theorem dX3_length_37 : decode cX3_length 37 = .ok (.iload_n 3, 1) := by decide +kernel
theorem dX3_length_38 : decode cX3_length 38 = .ok (.aload_n 0, 1) := by decide +kernel
theorem dX3_length_39 : decode cX3_length 39 = .ok (.getfield 57, 3) := by decide +kernel
theorem dX3_length_42 : decode cX3_length 42 = .ok (.if_icmp .ge 41, 3) := by decide +kernel
theorem dX3_length_45 : decode cX3_length 45 = .ok (.iload_n 2, 1) := by decide +kernel
theorem dX3_length_46 : decode cX3_length 46 = .ok (.aload_n 0, 1) := by decide +kernel
theorem dX3_length_47 : decode cX3_length 47 = .ok (.getfield 13, 3) := by decide +kernel
theorem dX3_length_50 : decode cX3_length 50 = .ok (.iload_n 3, 1) := by decide +kernel
theorem dX3_length_51 : decode cX3_length 51 = .ok (.iaload, 1) := by decide +kernel
theorem dX3_length_52 : decode cX3_length 52 = .ok (.ifCond .eq 22, 3) := by decide +kernel
theorem dX3_length_55 : decode cX3_length 55 = .ok (.aload_n 0, 1) := by decide +kernel
theorem dX3_length_56 : decode cX3_length 56 = .ok (.getfield 21, 3) := by decide +kernel
theorem dX3_length_59 : decode cX3_length 59 = .ok (.aload_n 0, 1) := by decide +kernel
theorem dX3_length_60 : decode cX3_length 60 = .ok (.getfield 13, 3) := by decide +kernel
theorem dX3_length_63 : decode cX3_length 63 = .ok (.iload_n 3, 1) := by decide +kernel
theorem dX3_length_64 : decode cX3_length 64 = .ok (.iaload, 1) := by decide +kernel
theorem dX3_length_65 : decode cX3_length 65 = .ok (.iaload, 1) := by decide +kernel
theorem dX3_length_66 : decode cX3_length 66 = .ok (.iload_n 1, 1) := by decide +kernel
theorem dX3_length_67 : decode cX3_length 67 = .ok (.if_icmp .le 7, 3) := by decide +kernel
theorem dX3_length_70 : decode cX3_length 70 = .ok (.iconst 1, 1) := by decide +kernel
theorem dX3_length_71 : decode cX3_length 71 = .ok (.goto 4, 3) := by decide +kernel
theorem dX3_length_74 : decode cX3_length 74 = .ok (.iconst 0, 1) := by decide +kernel
theorem dX3_length_75 : decode cX3_length 75 = .ok (.iadd, 1) := by decide +kernel
theorem dX3_length_76 : decode cX3_length 76 = .ok (.istore_n 2, 1) := by decide +kernel
theorem dX3_length_77 : decode cX3_length 77 = .ok (.iinc 3 1, 3) := by decide +kernel
theorem dX3_length_80 : decode cX3_length 80 = .ok (.goto (-43), 3) := by decide +kernel
theorem dX3_length_83 : decode cX3_length 83 = .ok (.iload_n 2, 1) := by decide +kernel
theorem dX3_length_84 : decode cX3_length 84 = .ok (.ireturn, 1) := by decide +kernel
set_option maxRecDepth 20000 in
theorem ggX3_retry_X3_isItem : GoodIn wsX3_retry wsX3_isItem := goodIn_r _ [10, 11, 12, 13, 9, 14, 28, 29, 30, 31, 32, 33, 34, 35, 36, 37, 38, 39, 40, 41, 42, 43, 44, 45, 46, 47, 48, 49, 50] (by decide +kernel) (by decide +kernel)
set_option maxRecDepth 20000 in
theorem gX3_retry_X3_isItem : GoodIn wsX3_retry (wsV RX3 84 RX3 yX3_isItem wsX3_isItem) := goodIn_app (goodIn_of _ (by decide +kernel)) ggX3_retry_X3_isItem
set_option maxRecDepth 20000 in
theorem ggX3_retry_X3_in : GoodIn wsX3_retry wsX3_in := goodIn_r _ [14] (by decide +kernel) (by decide +kernel)
set_option maxRecDepth 20000 in
theorem gX3_retry_X3_in : GoodIn wsX3_retry (va_wsS RX3 69 yX3_in wsX3_in) := goodIn_app (goodIn_of _ (by decide +kernel)) ggX3_retry_X3_in
set_option maxRecDepth 20000 in
theorem ggX3_retry_X3_isCode : GoodIn wsX3_retry wsX3_isCode := goodIn_r _ [18, 19, 20, 21, 9, 22, 23, 24, 25, 26, 27, 12, 13, 14, 28, 29, 30, 31, 32, 33, 34, 35, 36, 37, 38, 39, 40, 41, 42, 43, 44, 45, 46, 47, 48, 49, 50] (by decide +kernel) (by decide +kernel)
set_option maxRecDepth 20000 in
theorem gX3_retry_X3_isCode : GoodIn wsX3_retry (wsV RX3 87 RX3 yX3_isCode wsX3_isCode) := goodIn_app (goodIn_of _ (by decide +kernel)) ggX3_retry_X3_isCode
theorem dX3_retry_0 : decode cX3_retry 0 = .ok (.aload_n 0, 1) := by decide +kernel
theorem dX3_retry_1 : decode cX3_retry 1 = .ok (.aload_n 0, 1) := by decide +kernel
theorem dX3_retry_2 : decode cX3_retry 2 = .ok (.iload_n 1, 1) := by decide +kernel
theorem dX3_retry_3 : decode cX3_retry 3 = .ok (.invokevirtual 84, 3) := by decide +kernel
theorem dX3_retry_6 : decode cX3_retry 6 = .ok (.ifCond .eq 21, 3) := by decide +kernel
theorem dX3_retry_9 : decode cX3_retry 9 = .ok (.iload_n 2, 1) := by decide +kernel
theorem dX3_retry_10 : decode cX3_retry 10 = .ok (.iconst 0, 1) := by decide +kernel
theorem dX3_retry_11 : decode cX3_retry 11 = .ok (.bipush 9, 2) := by decide +kernel
theorem dX3_retry_13 : decode cX3_retry 13 = .ok (.invokestatic 69, 3) := by decide +kernel
theorem dX3_retry_16 : decode cX3_retry 16 = .ok (.ifCond .eq 11, 3) := by decide +kernel
end
section
theorem dX3_retry_19 : decode cX3_retry 19 = .ok (.aload_n 0, 1) := by decide +kernel
theorem dX3_retry_20 : decode cX3_retry 20 = .ok (.iload_n 3, 1) := by decide +kernel
theorem dX3_retry_21 : decode cX3_retry 21 = .ok (.invokevirtual 87, 3) := by decide +kernel
theorem dX3_retry_24 : decode cX3_retry 24 = .ok (.ifCond .ne 7, 3) := by decide +kernel
theorem dX3_retry_27 : decode cX3_retry 27 = .ok (.iconst 1, 1) := by decide +kernel
theorem dX3_retry_28 : decode cX3_retry 28 = .ok (.goto 4, 3) := by decide +kernel
theorem dX3_retry_31 : decode cX3_retry 31 = .ok (.iconst 0, 1) := by decide +kernel
theorem dX3_retry_32 : decode cX3_retry 32 = .ok (.putfield 63, 3) := by decide +kernel
theorem dX3_retry_35 : decode cX3_retry 35 = .ok (.aload_n 0, 1) := by decide +kernel
theorem dX3_retry_36 : decode cX3_retry 36 = .ok (.getfield 63, 3) := by decide +kernel
theorem dX3_retry_39 : decode cX3_retry 39 = .ok (.ifCond .ne 31, 3) := by decide +kernel
theorem dX3_retry_42 : decode cX3_retry 42 = .ok (.aload_n 0, 1) := by decide +kernel
theorem dX3_retry_43 : decode cX3_retry 43 = .ok (.aload_n 0, 1) := by decide +kernel
theorem dX3_retry_44 : decode cX3_retry 44 = .ok (.getfield 24, 3) := by decide +kernel
theorem dX3_retry_47 : decode cX3_retry 47 = .ok (.iload_n 1, 1) := by decide +kernel
theorem dX3_retry_48 : decode cX3_retry 48 = .ok (.iaload, 1) := by decide +kernel
theorem dX3_retry_49 : decode cX3_retry 49 = .ok (.iconst 1, 1) := by decide +kernel
theorem dX3_retry_50 : decode cX3_retry 50 = .ok (.if_icmp .ne 12, 3) := by decide +kernel
theorem dX3_retry_53 : decode cX3_retry 53 = .ok (.aload_n 0, 1) := by decide +kernel
theorem dX3_retry_54 : decode cX3_retry 54 = .ok (.getfield 27, 3) := by decide +kernel
theorem dX3_retry_57 : decode cX3_retry 57 = .ok (.iload_n 1, 1) := by decide +kernel
theorem dX3_retry_58 : decode cX3_retry 58 = .ok (.iaload, 1) := by decide +kernel
theorem dX3_retry_59 : decode cX3_retry 59 = .ok (.ifCond .eq 7, 3) := by decide +kernel
theorem dX3_retry_62 : decode cX3_retry 62 = .ok (.iconst 2, 1) := by decide +kernel
theorem dX3_retry_63 : decode cX3_retry 63 = .ok (.goto 4, 3) := by decide +kernel
theorem dX3_retry_66 : decode cX3_retry 66 = .ok (.iconst 0, 1) := by decide +kernel
theorem dX3_retry_67 : decode cX3_retry 67 = .ok (.putfield 63, 3) := by decide +kernel
theorem dX3_retry_70 : decode cX3_retry 70 = .ok (.aload_n 0, 1) := by decide +kernel
theorem dX3_retry_71 : decode cX3_retry 71 = .ok (.getfield 63, 3) := by decide +kernel
theorem dX3_retry_74 : decode cX3_retry 74 = .ok (.ifCond .le 4, 3) := by decide +kernel
theorem dX3_retry_77 : decode cX3_retry 77 = .ok (.return_, 1) := by decide +kernel
theorem dX3_retry_78 : decode cX3_retry 78 = .ok (.aload_n 0, 1) := by decide +kernel
theorem dX3_retry_79 : decode cX3_retry 79 = .ok (.getfield 33, 3) := by decide +kernel
theorem dX3_retry_82 : decode cX3_retry 82 = .ok (.iload_n 1, 1) := by decide +kernel
theorem dX3_retry_83 : decode cX3_retry 83 = .ok (.iload_n 2, 1) := by decide +kernel
theorem dX3_retry_84 : decode cX3_retry 84 = .ok (.iastore, 1) := by decide +kernel
theorem dX3_retry_85 : decode cX3_retry 85 = .ok (.aload_n 0, 1) := by decide +kernel
theorem dX3_retry_86 : decode cX3_retry 86 = .ok (.getfield 36, 3) := by decide +kernel
theorem dX3_retry_89 : decode cX3_retry 89 = .ok (.iload_n 1, 1) := by decide +kernel
theorem dX3_retry_90 : decode cX3_retry 90 = .ok (.iload_n 3, 1) := by decide +kernel
theorem dX3_retry_91 : decode cX3_retry 91 = .ok (.iastore, 1) := by decide +kernel
theorem dX3_retry_92 : decode cX3_retry 92 = .ok (.return_, 1) := by decide +kernel
theorem dX3_leave_0 : decode cX3_leave 0 = .ok (.aload_n 0, 1) := by decide +kernel
theorem dX3_leave_1 : decode cX3_leave 1 = .ok (.getfield 13, 3) := by decide +kernel
theorem dX3_leave_4 : decode cX3_leave 4 = .ok (.iload_n 1, 1) := by decide +kernel
theorem dX3_leave_5 : decode cX3_leave 5 = .ok (.iaload, 1) := by decide +kernel
theorem dX3_leave_6 : decode cX3_leave 6 = .ok (.istore 4, 2) := by decide +kernel
theorem dX3_leave_8 : decode cX3_leave 8 = .ok (.aload_n 0, 1) := by decide +kernel
theorem dX3_leave_9 : decode cX3_leave 9 = .ok (.getfield 13, 3) := by decide +kernel
theorem dX3_leave_12 : decode cX3_leave 12 = .ok (.iload_n 1, 1) := by decide +kernel
theorem dX3_leave_13 : decode cX3_leave 13 = .ok (.iconst 0, 1) := by decide +kernel
theorem dX3_leave_14 : decode cX3_leave 14 = .ok (.iastore, 1) := by decide +kernel
theorem dX3_leave_15 : decode cX3_leave 15 = .ok (.aload_n 0, 1) := by decide +kernel
theorem dX3_leave_16 : decode cX3_leave 16 = .ok (.getfield 24, 3) := by decide +kernel
theorem dX3_leave_19 : decode cX3_leave 19 = .ok (.iload 4, 2) := by decide +kernel
theorem dX3_leave_21 : decode cX3_leave 21 = .ok (.iload_n 2, 1) := by decide +kernel
theorem dX3_leave_22 : decode cX3_leave 22 = .ok (.iastore, 1) := by decide +kernel
theorem dX3_leave_23 : decode cX3_leave 23 = .ok (.aload_n 0, 1) := by decide +kernel
theorem dX3_leave_24 : decode cX3_leave 24 = .ok (.getfield 39, 3) := by decide +kernel
theorem dX3_leave_27 : decode cX3_leave 27 = .ok (.aload_n 0, 1) := by decide +kernel
theorem dX3_leave_28 : decode cX3_leave 28 = .ok (.getfield 98, 3) := by decide +kernel
theorem dX3_leave_31 : decode cX3_leave 31 = .ok (.iload 4, 2) := by decide +kernel
theorem dX3_leave_33 : decode cX3_leave 33 = .ok (.iastore, 1) := by decide +kernel
theorem dX3_leave_34 : decode cX3_leave 34 = .ok (.aload_n 0, 1) := by decide +kernel
theorem dX3_leave_35 : decode cX3_leave 35 = .ok (.getfield 42, 3) := by decide +kernel
theorem dX3_leave_38 : decode cX3_leave 38 = .ok (.aload_n 0, 1) := by decide +kernel
theorem dX3_leave_39 : decode cX3_leave 39 = .ok (.getfield 98, 3) := by decide +kernel
theorem dX3_leave_42 : decode cX3_leave 42 = .ok (.iload_n 3, 1) := by decide +kernel
theorem dX3_leave_43 : decode cX3_leave 43 = .ok (.iastore, 1) := by decide +kernel
theorem dX3_leave_44 : decode cX3_leave 44 = .ok (.aload_n 0, 1) := by decide +kernel
theorem dX3_leave_45 : decode cX3_leave 45 = .ok (.getfield 45, 3) := by decide +kernel
theorem dX3_leave_48 : decode cX3_leave 48 = .ok (.aload_n 0, 1) := by decide +kernel
theorem dX3_leave_49 : decode cX3_leave 49 = .ok (.getfield 98, 3) := by decide +kernel
theorem dX3_leave_52 : decode cX3_leave 52 = .ok (.aload_n 0, 1) := by decide +kernel
theorem dX3_leave_53 : decode cX3_leave 53 = .ok (.getfield 81, 3) := by decide +kernel
theorem dX3_leave_56 : decode cX3_leave 56 = .ok (.iastore, 1) := by decide +kernel
theorem dX3_leave_57 : decode cX3_leave 57 = .ok (.aload_n 0, 1) := by decide +kernel
theorem dX3_leave_58 : decode cX3_leave 58 = .ok (.getfield 48, 3) := by decide +kernel
theorem dX3_leave_61 : decode cX3_leave 61 = .ok (.aload_n 0, 1) := by decide +kernel
theorem dX3_leave_62 : decode cX3_leave 62 = .ok (.getfield 98, 3) := by decide +kernel
theorem dX3_leave_65 : decode cX3_leave 65 = .ok (.aload_n 0, 1) := by decide +kernel
theorem dX3_leave_66 : decode cX3_leave 66 = .ok (.getfield 30, 3) := by decide +kernel
theorem dX3_leave_69 : decode cX3_leave 69 = .ok (.iload 4, 2) := by decide +kernel
theorem dX3_leave_71 : decode cX3_leave 71 = .ok (.iaload, 1) := by decide +kernel
theorem dX3_leave_72 : decode cX3_leave 72 = .ok (.iastore, 1) := by decide +kernel
theorem dX3_leave_73 : decode cX3_leave 73 = .ok (.aload_n 0, 1) := by decide +kernel
theorem dX3_leave_74 : decode cX3_leave 74 = .ok (.dup, 1) := by decide +kernel
theorem dX3_leave_75 : decode cX3_leave 75 = .ok (.getfield 98, 3) := by decide +kernel
theorem dX3_leave_78 : decode cX3_leave 78 = .ok (.iconst 1, 1) := by decide +kernel
theorem dX3_leave_79 : decode cX3_leave 79 = .ok (.iadd, 1) := by decide +kernel
theorem dX3_leave_80 : decode cX3_leave 80 = .ok (.putfield 98, 3) := by decide +kernel
theorem dX3_leave_83 : decode cX3_leave 83 = .ok (.return_, 1) := by decide +kernel
set_option maxRecDepth 20000 in
theorem ggX3_atChute_X3_trayAt : GoodIn wsX3_atChute wsX3_trayAt := goodIn_r _ [10, 11, 12, 23, 24, 25, 26, 27, 28, 29, 30, 31, 32, 33, 34, 35, 36, 37, 38, 39, 40, 41, 42, 43, 44, 45] (by decide +kernel) (by decide +kernel)
set_option maxRecDepth 20000 in
theorem gX3_atChute_X3_trayAt : GoodIn wsX3_atChute (wsV RX3 90 RX3 yX3_trayAt wsX3_trayAt) := goodIn_app (goodIn_of _ (by decide +kernel)) ggX3_atChute_X3_trayAt
set_option maxRecDepth 20000 in
theorem ggX3_atChute_X3_leave : GoodIn wsX3_atChute wsX3_leave := goodIn_r _ [16, 1, 17, 18, 19, 20, 21, 12, 22, 4, 23, 24, 25, 26, 27, 28, 29, 30, 31, 32, 33, 34, 35, 36, 37, 38, 39, 40, 41, 42, 43, 44, 45] (by decide +kernel) (by decide +kernel)
set_option maxRecDepth 20000 in
theorem gX3_atChute_X3_leave : GoodIn wsX3_atChute (wsV RX3 101 RX3 yX3_leave wsX3_leave) := goodIn_app (goodIn_of _ (by decide +kernel)) ggX3_atChute_X3_leave
theorem dX3_atChute_0 : decode cX3_atChute 0 = .ok (.aload_n 0, 1) := by decide +kernel
theorem dX3_atChute_1 : decode cX3_atChute 1 = .ok (.iconst 2, 1) := by decide +kernel
theorem dX3_atChute_2 : decode cX3_atChute 2 = .ok (.iload_n 1, 1) := by decide +kernel
theorem dX3_atChute_3 : decode cX3_atChute 3 = .ok (.imul, 1) := by decide +kernel
theorem dX3_atChute_4 : decode cX3_atChute 4 = .ok (.invokevirtual 90, 3) := by decide +kernel
theorem dX3_atChute_7 : decode cX3_atChute 7 = .ok (.istore_n 2, 1) := by decide +kernel
theorem dX3_atChute_8 : decode cX3_atChute 8 = .ok (.aload_n 0, 1) := by decide +kernel
theorem dX3_atChute_9 : decode cX3_atChute 9 = .ok (.getfield 13, 3) := by decide +kernel
theorem dX3_atChute_12 : decode cX3_atChute 12 = .ok (.iload_n 2, 1) := by decide +kernel
theorem dX3_atChute_13 : decode cX3_atChute 13 = .ok (.iaload, 1) := by decide +kernel
theorem dX3_atChute_14 : decode cX3_atChute 14 = .ok (.istore_n 3, 1) := by decide +kernel
theorem dX3_atChute_15 : decode cX3_atChute 15 = .ok (.iload_n 3, 1) := by decide +kernel
theorem dX3_atChute_16 : decode cX3_atChute 16 = .ok (.ifCond .eq 13, 3) := by decide +kernel
theorem dX3_atChute_19 : decode cX3_atChute 19 = .ok (.aload_n 0, 1) := by decide +kernel
theorem dX3_atChute_20 : decode cX3_atChute 20 = .ok (.getfield 27, 3) := by decide +kernel
theorem dX3_atChute_23 : decode cX3_atChute 23 = .ok (.iload_n 3, 1) := by decide +kernel
theorem dX3_atChute_24 : decode cX3_atChute 24 = .ok (.iaload, 1) := by decide +kernel
theorem dX3_atChute_25 : decode cX3_atChute 25 = .ok (.iload_n 1, 1) := by decide +kernel
theorem dX3_atChute_26 : decode cX3_atChute 26 = .ok (.if_icmp .eq 4, 3) := by decide +kernel
theorem dX3_atChute_29 : decode cX3_atChute 29 = .ok (.return_, 1) := by decide +kernel
theorem dX3_atChute_30 : decode cX3_atChute 30 = .ok (.aload_n 0, 1) := by decide +kernel
theorem dX3_atChute_31 : decode cX3_atChute 31 = .ok (.getfield 17, 3) := by decide +kernel
theorem dX3_atChute_34 : decode cX3_atChute 34 = .ok (.iload_n 1, 1) := by decide +kernel
theorem dX3_atChute_35 : decode cX3_atChute 35 = .ok (.baload, 1) := by decide +kernel
theorem dX3_atChute_36 : decode cX3_atChute 36 = .ok (.ifCond .ne 11, 3) := by decide +kernel
theorem dX3_atChute_39 : decode cX3_atChute 39 = .ok (.aload_n 0, 1) := by decide +kernel
theorem dX3_atChute_40 : decode cX3_atChute 40 = .ok (.iload_n 2, 1) := by decide +kernel
theorem dX3_atChute_41 : decode cX3_atChute 41 = .ok (.iconst 2, 1) := by decide +kernel
theorem dX3_atChute_42 : decode cX3_atChute 42 = .ok (.iload_n 1, 1) := by decide +kernel
theorem dX3_atChute_43 : decode cX3_atChute 43 = .ok (.invokevirtual 101, 3) := by decide +kernel
theorem dX3_atChute_46 : decode cX3_atChute 46 = .ok (.return_, 1) := by decide +kernel
theorem dX3_atChute_47 : decode cX3_atChute 47 = .ok (.aload_n 0, 1) := by decide +kernel
theorem dX3_atChute_48 : decode cX3_atChute 48 = .ok (.getfield 30, 3) := by decide +kernel
theorem dX3_atChute_51 : decode cX3_atChute 51 = .ok (.iload_n 3, 1) := by decide +kernel
theorem dX3_atChute_52 : decode cX3_atChute 52 = .ok (.dup2, 1) := by decide +kernel
theorem dX3_atChute_53 : decode cX3_atChute 53 = .ok (.iaload, 1) := by decide +kernel
theorem dX3_atChute_54 : decode cX3_atChute 54 = .ok (.iconst 1, 1) := by decide +kernel
theorem dX3_atChute_55 : decode cX3_atChute 55 = .ok (.iadd, 1) := by decide +kernel
theorem dX3_atChute_56 : decode cX3_atChute 56 = .ok (.iastore, 1) := by decide +kernel
theorem dX3_atChute_57 : decode cX3_atChute 57 = .ok (.aload_n 0, 1) := by decide +kernel
theorem dX3_atChute_58 : decode cX3_atChute 58 = .ok (.getfield 30, 3) := by decide +kernel
theorem dX3_atChute_61 : decode cX3_atChute 61 = .ok (.iload_n 3, 1) := by decide +kernel
theorem dX3_atChute_62 : decode cX3_atChute 62 = .ok (.iaload, 1) := by decide +kernel
theorem dX3_atChute_63 : decode cX3_atChute 63 = .ok (.aload_n 0, 1) := by decide +kernel
theorem dX3_atChute_64 : decode cX3_atChute 64 = .ok (.getfield 60, 3) := by decide +kernel
theorem dX3_atChute_67 : decode cX3_atChute 67 = .ok (.if_icmp .le 10, 3) := by decide +kernel
theorem dX3_atChute_70 : decode cX3_atChute 70 = .ok (.aload_n 0, 1) := by decide +kernel
theorem dX3_atChute_71 : decode cX3_atChute 71 = .ok (.iload_n 2, 1) := by decide +kernel
theorem dX3_atChute_72 : decode cX3_atChute 72 = .ok (.iconst 4, 1) := by decide +kernel
theorem dX3_atChute_73 : decode cX3_atChute 73 = .ok (.iconst (-1), 1) := by decide +kernel
theorem dX3_atChute_74 : decode cX3_atChute 74 = .ok (.invokevirtual 101, 3) := by decide +kernel
theorem dX3_atChute_77 : decode cX3_atChute 77 = .ok (.return_, 1) := by decide +kernel
set_option maxRecDepth 20000 in
theorem ggX3_atReader_X3_trayAt : GoodIn wsX3_atReader wsX3_trayAt := goodIn_r _ [9, 10, 11, 23, 24, 25, 26, 27, 28, 29, 30, 31, 32, 33, 34, 35, 36, 37, 38, 39, 40, 41, 42, 43, 44, 45] (by decide +kernel) (by decide +kernel)
set_option maxRecDepth 20000 in
theorem gX3_atReader_X3_trayAt : GoodIn wsX3_atReader (wsV RX3 90 RX3 yX3_trayAt wsX3_trayAt) := goodIn_app (goodIn_of _ (by decide +kernel)) ggX3_atReader_X3_trayAt
set_option maxRecDepth 20000 in
theorem ggX3_atReader_X3_leave : GoodIn wsX3_atReader wsX3_leave := goodIn_r _ [15, 1, 16, 17, 18, 19, 20, 11, 21, 22, 23, 24, 25, 26, 27, 28, 29, 30, 31, 32, 33, 34, 35, 36, 37, 38, 39, 40, 41, 42, 43, 44, 45] (by decide +kernel) (by decide +kernel)
set_option maxRecDepth 20000 in
theorem gX3_atReader_X3_leave : GoodIn wsX3_atReader (wsV RX3 101 RX3 yX3_leave wsX3_leave) := goodIn_app (goodIn_of _ (by decide +kernel)) ggX3_atReader_X3_leave
theorem dX3_atReader_0 : decode cX3_atReader 0 = .ok (.aload_n 0, 1) := by decide +kernel
theorem dX3_atReader_1 : decode cX3_atReader 1 = .ok (.iconst 0, 1) := by decide +kernel
theorem dX3_atReader_2 : decode cX3_atReader 2 = .ok (.invokevirtual 90, 3) := by decide +kernel
theorem dX3_atReader_5 : decode cX3_atReader 5 = .ok (.istore_n 1, 1) := by decide +kernel
theorem dX3_atReader_6 : decode cX3_atReader 6 = .ok (.aload_n 0, 1) := by decide +kernel
theorem dX3_atReader_7 : decode cX3_atReader 7 = .ok (.getfield 13, 3) := by decide +kernel
theorem dX3_atReader_10 : decode cX3_atReader 10 = .ok (.iload_n 1, 1) := by decide +kernel
theorem dX3_atReader_11 : decode cX3_atReader 11 = .ok (.iaload, 1) := by decide +kernel
theorem dX3_atReader_12 : decode cX3_atReader 12 = .ok (.istore_n 2, 1) := by decide +kernel
theorem dX3_atReader_13 : decode cX3_atReader 13 = .ok (.iload_n 2, 1) := by decide +kernel
theorem dX3_atReader_14 : decode cX3_atReader 14 = .ok (.ifCond .eq 12, 3) := by decide +kernel
theorem dX3_atReader_17 : decode cX3_atReader 17 = .ok (.aload_n 0, 1) := by decide +kernel
theorem dX3_atReader_18 : decode cX3_atReader 18 = .ok (.getfield 27, 3) := by decide +kernel
theorem dX3_atReader_21 : decode cX3_atReader 21 = .ok (.iload_n 2, 1) := by decide +kernel
theorem dX3_atReader_22 : decode cX3_atReader 22 = .ok (.iaload, 1) := by decide +kernel
theorem dX3_atReader_23 : decode cX3_atReader 23 = .ok (.ifCond .eq 4, 3) := by decide +kernel
theorem dX3_atReader_26 : decode cX3_atReader 26 = .ok (.return_, 1) := by decide +kernel
theorem dX3_atReader_27 : decode cX3_atReader 27 = .ok (.aload_n 0, 1) := by decide +kernel
theorem dX3_atReader_28 : decode cX3_atReader 28 = .ok (.getfield 33, 3) := by decide +kernel
theorem dX3_atReader_31 : decode cX3_atReader 31 = .ok (.iload_n 2, 1) := by decide +kernel
theorem dX3_atReader_32 : decode cX3_atReader 32 = .ok (.iaload, 1) := by decide +kernel
theorem dX3_atReader_33 : decode cX3_atReader 33 = .ok (.ifCond .ne 11, 3) := by decide +kernel
theorem dX3_atReader_36 : decode cX3_atReader 36 = .ok (.aload_n 0, 1) := by decide +kernel
theorem dX3_atReader_37 : decode cX3_atReader 37 = .ok (.iload_n 1, 1) := by decide +kernel
theorem dX3_atReader_38 : decode cX3_atReader 38 = .ok (.iconst 3, 1) := by decide +kernel
theorem dX3_atReader_39 : decode cX3_atReader 39 = .ok (.iconst 0, 1) := by decide +kernel
theorem dX3_atReader_40 : decode cX3_atReader 40 = .ok (.invokevirtual 101, 3) := by decide +kernel
theorem dX3_atReader_43 : decode cX3_atReader 43 = .ok (.return_, 1) := by decide +kernel
theorem dX3_atReader_44 : decode cX3_atReader 44 = .ok (.aload_n 0, 1) := by decide +kernel
theorem dX3_atReader_45 : decode cX3_atReader 45 = .ok (.getfield 33, 3) := by decide +kernel
theorem dX3_atReader_48 : decode cX3_atReader 48 = .ok (.iload_n 2, 1) := by decide +kernel
theorem dX3_atReader_49 : decode cX3_atReader 49 = .ok (.dup2, 1) := by decide +kernel
theorem dX3_atReader_50 : decode cX3_atReader 50 = .ok (.iaload, 1) := by decide +kernel
theorem dX3_atReader_51 : decode cX3_atReader 51 = .ok (.iconst 1, 1) := by decide +kernel
theorem dX3_atReader_52 : decode cX3_atReader 52 = .ok (.isub, 1) := by decide +kernel
theorem dX3_atReader_53 : decode cX3_atReader 53 = .ok (.iastore, 1) := by decide +kernel
theorem dX3_atReader_54 : decode cX3_atReader 54 = .ok (.aload_n 0, 1) := by decide +kernel
theorem dX3_atReader_55 : decode cX3_atReader 55 = .ok (.getfield 33, 3) := by decide +kernel
theorem dX3_atReader_58 : decode cX3_atReader 58 = .ok (.iload_n 2, 1) := by decide +kernel
theorem dX3_atReader_59 : decode cX3_atReader 59 = .ok (.iaload, 1) := by decide +kernel
theorem dX3_atReader_60 : decode cX3_atReader 60 = .ok (.ifCond .ne 15, 3) := by decide +kernel
theorem dX3_atReader_63 : decode cX3_atReader 63 = .ok (.aload_n 0, 1) := by decide +kernel
theorem dX3_atReader_64 : decode cX3_atReader 64 = .ok (.getfield 27, 3) := by decide +kernel
theorem dX3_atReader_67 : decode cX3_atReader 67 = .ok (.iload_n 2, 1) := by decide +kernel
theorem dX3_atReader_68 : decode cX3_atReader 68 = .ok (.aload_n 0, 1) := by decide +kernel
theorem dX3_atReader_69 : decode cX3_atReader 69 = .ok (.getfield 36, 3) := by decide +kernel
theorem dX3_atReader_72 : decode cX3_atReader 72 = .ok (.iload_n 2, 1) := by decide +kernel
theorem dX3_atReader_73 : decode cX3_atReader 73 = .ok (.iaload, 1) := by decide +kernel
theorem dX3_atReader_74 : decode cX3_atReader 74 = .ok (.iastore, 1) := by decide +kernel
theorem dX3_atReader_75 : decode cX3_atReader 75 = .ok (.return_, 1) := by decide +kernel
set_option maxRecDepth 20000 in
theorem ggX3_step_X3_in : GoodIn wsX3_step wsX3_in := goodIn_r _ [8] (by decide +kernel) (by decide +kernel)
set_option maxRecDepth 20000 in
theorem gX3_step_X3_in : GoodIn wsX3_step (va_wsS RX3 69 yX3_in wsX3_in) := goodIn_app (goodIn_of _ (by decide +kernel)) ggX3_step_X3_in
set_option maxRecDepth 20000 in
theorem ggX3_step_X3_chutes : GoodIn wsX3_step wsX3_chutes := goodIn_r _ [12, 13, 42, 43, 44, 45, 46, 47, 48, 49, 50, 51, 52, 53, 54, 55, 56, 57, 58, 59, 60, 61, 62, 63, 64] (by decide +kernel) (by decide +kernel)
set_option maxRecDepth 20000 in
theorem gX3_step_X3_chutes : GoodIn wsX3_step (wsV RX3 73 RX3 yX3_chutes wsX3_chutes) := goodIn_app (goodIn_of _ (by decide +kernel)) ggX3_step_X3_chutes
set_option maxRecDepth 20000 in
theorem ggX3_step_X3_atChute : GoodIn wsX3_step wsX3_atChute := goodIn_r _ [17, 18, 19, 20, 21, 22, 23, 24, 25, 7, 26, 13, 4, 27, 28, 29, 30, 31, 32, 3, 33, 34, 35, 42, 43, 44, 45, 46, 47, 48, 49, 50, 51, 52, 53, 54, 55, 56, 57, 58, 59, 60, 61, 62, 63, 64] (by decide +kernel) (by decide +kernel)
set_option maxRecDepth 20000 in
theorem gX3_step_X3_atChute : GoodIn wsX3_step (wsV RX3 105 RX3 yX3_atChute wsX3_atChute) := goodIn_app (goodIn_of _ (by decide +kernel)) ggX3_step_X3_atChute
set_option maxRecDepth 20000 in
theorem ggX3_step_X3_atReader : GoodIn wsX3_step wsX3_atReader := goodIn_r _ [39, 18, 19, 40, 41, 23, 24, 25, 7, 26, 13, 4, 27, 28, 29, 30, 31, 32, 3, 33, 34, 35, 21, 42, 43, 44, 45, 46, 47, 48, 49, 50, 51, 52, 53, 54, 55, 56, 57, 58, 59, 60, 61, 62, 63, 64] (by decide +kernel) (by decide +kernel)
set_option maxRecDepth 20000 in
theorem gX3_step_X3_atReader : GoodIn wsX3_step (wsV RX3 109 RX3 yX3_atReader wsX3_atReader) := goodIn_app (goodIn_of _ (by decide +kernel)) ggX3_step_X3_atReader
theorem dX3_step_0 : decode cX3_step 0 = .ok (.aload_n 0, 1) := by decide +kernel
theorem dX3_step_1 : decode cX3_step 1 = .ok (.iload_n 1, 1) := by decide +kernel
theorem dX3_step_2 : decode cX3_step 2 = .ok (.iconst 0, 1) := by decide +kernel
theorem dX3_step_3 : decode cX3_step 3 = .ok (.bipush 100, 2) := by decide +kernel
theorem dX3_step_5 : decode cX3_step 5 = .ok (.invokestatic 69, 3) := by decide +kernel
theorem dX3_step_8 : decode cX3_step 8 = .ok (.ifCond .ne 7, 3) := by decide +kernel
theorem dX3_step_11 : decode cX3_step 11 = .ok (.iconst 1, 1) := by decide +kernel
theorem dX3_step_12 : decode cX3_step 12 = .ok (.goto 15, 3) := by decide +kernel
theorem dX3_step_15 : decode cX3_step 15 = .ok (.aload_n 0, 1) := by decide +kernel
theorem dX3_step_16 : decode cX3_step 16 = .ok (.getfield 94, 3) := by decide +kernel
theorem dX3_step_19 : decode cX3_step 19 = .ok (.ifCond .eq 7, 3) := by decide +kernel
theorem dX3_step_22 : decode cX3_step 22 = .ok (.iconst 2, 1) := by decide +kernel
theorem dX3_step_23 : decode cX3_step 23 = .ok (.goto 4, 3) := by decide +kernel
theorem dX3_step_26 : decode cX3_step 26 = .ok (.iconst 0, 1) := by decide +kernel
theorem dX3_step_27 : decode cX3_step 27 = .ok (.putfield 63, 3) := by decide +kernel
theorem dX3_step_30 : decode cX3_step 30 = .ok (.aload_n 0, 1) := by decide +kernel
theorem dX3_step_31 : decode cX3_step 31 = .ok (.getfield 63, 3) := by decide +kernel
theorem dX3_step_34 : decode cX3_step 34 = .ok (.ifCond .le 5, 3) := by decide +kernel
theorem dX3_step_37 : decode cX3_step 37 = .ok (.iconst 0, 1) := by decide +kernel
theorem dX3_step_38 : decode cX3_step 38 = .ok (.ireturn, 1) := by decide +kernel
theorem dX3_step_39 : decode cX3_step 39 = .ok (.aload_n 0, 1) := by decide +kernel
theorem dX3_step_40 : decode cX3_step 40 = .ok (.getfield 98, 3) := by decide +kernel
theorem dX3_step_43 : decode cX3_step 43 = .ok (.istore_n 2, 1) := by decide +kernel
theorem dX3_step_44 : decode cX3_step 44 = .ok (.iconst 0, 1) := by decide +kernel
theorem dX3_step_45 : decode cX3_step 45 = .ok (.istore_n 3, 1) := by decide +kernel
theorem dX3_step_46 : decode cX3_step 46 = .ok (.iload_n 3, 1) := by decide +kernel
theorem dX3_step_47 : decode cX3_step 47 = .ok (.iload_n 1, 1) := by decide +kernel
theorem dX3_step_48 : decode cX3_step 48 = .ok (.if_icmp .ge 47, 3) := by decide +kernel
theorem dX3_step_51 : decode cX3_step 51 = .ok (.aload_n 0, 1) := by decide +kernel
theorem dX3_step_52 : decode cX3_step 52 = .ok (.dup, 1) := by decide +kernel
theorem dX3_step_53 : decode cX3_step 53 = .ok (.getfield 81, 3) := by decide +kernel
theorem dX3_step_56 : decode cX3_step 56 = .ok (.iconst 1, 1) := by decide +kernel
theorem dX3_step_57 : decode cX3_step 57 = .ok (.iadd, 1) := by decide +kernel
theorem dX3_step_58 : decode cX3_step 58 = .ok (.putfield 81, 3) := by decide +kernel
theorem dX3_step_61 : decode cX3_step 61 = .ok (.iconst 1, 1) := by decide +kernel
theorem dX3_step_62 : decode cX3_step 62 = .ok (.istore 4, 2) := by decide +kernel
theorem dX3_step_64 : decode cX3_step 64 = .ok (.iload 4, 2) := by decide +kernel
theorem dX3_step_66 : decode cX3_step 66 = .ok (.aload_n 0, 1) := by decide +kernel
theorem dX3_step_67 : decode cX3_step 67 = .ok (.invokevirtual 73, 3) := by decide +kernel
theorem dX3_step_70 : decode cX3_step 70 = .ok (.if_icmp .gt 15, 3) := by decide +kernel
theorem dX3_step_73 : decode cX3_step 73 = .ok (.aload_n 0, 1) := by decide +kernel
theorem dX3_step_74 : decode cX3_step 74 = .ok (.iload 4, 2) := by decide +kernel
theorem dX3_step_76 : decode cX3_step 76 = .ok (.invokevirtual 105, 3) := by decide +kernel
theorem dX3_step_79 : decode cX3_step 79 = .ok (.iinc 4 1, 3) := by decide +kernel
theorem dX3_step_82 : decode cX3_step 82 = .ok (.goto (-18), 3) := by decide +kernel
theorem dX3_step_85 : decode cX3_step 85 = .ok (.aload_n 0, 1) := by decide +kernel
theorem dX3_step_86 : decode cX3_step 86 = .ok (.invokevirtual 109, 3) := by decide +kernel
theorem dX3_step_89 : decode cX3_step 89 = .ok (.iinc 3 1, 3) := by decide +kernel
theorem dX3_step_92 : decode cX3_step 92 = .ok (.goto (-46), 3) := by decide +kernel
theorem dX3_step_95 : decode cX3_step 95 = .ok (.aload_n 0, 1) := by decide +kernel
theorem dX3_step_96 : decode cX3_step 96 = .ok (.getfield 98, 3) := by decide +kernel
theorem dX3_step_99 : decode cX3_step 99 = .ok (.iload_n 2, 1) := by decide +kernel
theorem dX3_step_100 : decode cX3_step 100 = .ok (.isub, 1) := by decide +kernel
theorem dX3_step_101 : decode cX3_step 101 = .ok (.ireturn, 1) := by decide +kernel
set_option maxRecDepth 20000 in
theorem ggX3_out_X3_in : GoodIn wsX3_out wsX3_in := goodIn_r _ [10] (by decide +kernel) (by decide +kernel)
set_option maxRecDepth 20000 in
theorem gX3_out_X3_in : GoodIn wsX3_out (va_wsS RX3 69 yX3_in wsX3_in) := goodIn_app (goodIn_of _ (by decide +kernel)) ggX3_out_X3_in
theorem dX3_out_0 : decode cX3_out 0 = .ok (.aload_n 0, 1) := by decide +kernel
theorem dX3_out_1 : decode cX3_out 1 = .ok (.iload_n 1, 1) := by decide +kernel
theorem dX3_out_2 : decode cX3_out 2 = .ok (.iconst 0, 1) := by decide +kernel
theorem dX3_out_3 : decode cX3_out 3 = .ok (.aload_n 0, 1) := by decide +kernel
theorem dX3_out_4 : decode cX3_out 4 = .ok (.getfield 98, 3) := by decide +kernel
theorem dX3_out_7 : decode cX3_out 7 = .ok (.iconst 1, 1) := by decide +kernel
theorem dX3_out_8 : decode cX3_out 8 = .ok (.isub, 1) := by decide +kernel
theorem dX3_out_9 : decode cX3_out 9 = .ok (.invokestatic 69, 3) := by decide +kernel
theorem dX3_out_12 : decode cX3_out 12 = .ok (.ifCond .eq 12, 3) := by decide +kernel
theorem dX3_out_15 : decode cX3_out 15 = .ok (.iload_n 2, 1) := by decide +kernel
theorem dX3_out_16 : decode cX3_out 16 = .ok (.iconst 0, 1) := by decide +kernel
theorem dX3_out_17 : decode cX3_out 17 = .ok (.iconst 3, 1) := by decide +kernel
theorem dX3_out_18 : decode cX3_out 18 = .ok (.invokestatic 69, 3) := by decide +kernel
theorem dX3_out_21 : decode cX3_out 21 = .ok (.ifCond .ne 7, 3) := by decide +kernel
theorem dX3_out_24 : decode cX3_out 24 = .ok (.iconst 1, 1) := by decide +kernel
theorem dX3_out_25 : decode cX3_out 25 = .ok (.goto 4, 3) := by decide +kernel
theorem dX3_out_28 : decode cX3_out 28 = .ok (.iconst 0, 1) := by decide +kernel
theorem dX3_out_29 : decode cX3_out 29 = .ok (.putfield 63, 3) := by decide +kernel
theorem dX3_out_32 : decode cX3_out 32 = .ok (.aload_n 0, 1) := by decide +kernel
theorem dX3_out_33 : decode cX3_out 33 = .ok (.getfield 63, 3) := by decide +kernel
theorem dX3_out_36 : decode cX3_out 36 = .ok (.ifCond .le 5, 3) := by decide +kernel
theorem dX3_out_39 : decode cX3_out 39 = .ok (.iconst 0, 1) := by decide +kernel
theorem dX3_out_40 : decode cX3_out 40 = .ok (.ireturn, 1) := by decide +kernel
theorem dX3_out_41 : decode cX3_out 41 = .ok (.iload_n 2, 1) := by decide +kernel
theorem dX3_out_42 : decode cX3_out 42 = .ok (.ifCond .ne 12, 3) := by decide +kernel
theorem dX3_out_45 : decode cX3_out 45 = .ok (.aload_n 0, 1) := by decide +kernel
theorem dX3_out_46 : decode cX3_out 46 = .ok (.getfield 39, 3) := by decide +kernel
theorem dX3_out_49 : decode cX3_out 49 = .ok (.iload_n 1, 1) := by decide +kernel
theorem dX3_out_50 : decode cX3_out 50 = .ok (.iaload, 1) := by decide +kernel
theorem dX3_out_51 : decode cX3_out 51 = .ok (.goto 37, 3) := by decide +kernel
theorem dX3_out_54 : decode cX3_out 54 = .ok (.iload_n 2, 1) := by decide +kernel
theorem dX3_out_55 : decode cX3_out 55 = .ok (.iconst 1, 1) := by decide +kernel
theorem dX3_out_56 : decode cX3_out 56 = .ok (.if_icmp .ne 12, 3) := by decide +kernel
theorem dX3_out_59 : decode cX3_out 59 = .ok (.aload_n 0, 1) := by decide +kernel
theorem dX3_out_60 : decode cX3_out 60 = .ok (.getfield 42, 3) := by decide +kernel
theorem dX3_out_63 : decode cX3_out 63 = .ok (.iload_n 1, 1) := by decide +kernel
theorem dX3_out_64 : decode cX3_out 64 = .ok (.iaload, 1) := by decide +kernel
theorem dX3_out_65 : decode cX3_out 65 = .ok (.goto 23, 3) := by decide +kernel
theorem dX3_out_68 : decode cX3_out 68 = .ok (.iload_n 2, 1) := by decide +kernel
theorem dX3_out_69 : decode cX3_out 69 = .ok (.iconst 2, 1) := by decide +kernel
theorem dX3_out_70 : decode cX3_out 70 = .ok (.if_icmp .ne 12, 3) := by decide +kernel
theorem dX3_out_73 : decode cX3_out 73 = .ok (.aload_n 0, 1) := by decide +kernel
theorem dX3_out_74 : decode cX3_out 74 = .ok (.getfield 45, 3) := by decide +kernel
theorem dX3_out_77 : decode cX3_out 77 = .ok (.iload_n 1, 1) := by decide +kernel
theorem dX3_out_78 : decode cX3_out 78 = .ok (.iaload, 1) := by decide +kernel
theorem dX3_out_79 : decode cX3_out 79 = .ok (.goto 9, 3) := by decide +kernel
theorem dX3_out_82 : decode cX3_out 82 = .ok (.aload_n 0, 1) := by decide +kernel
theorem dX3_out_83 : decode cX3_out 83 = .ok (.getfield 48, 3) := by decide +kernel
theorem dX3_out_86 : decode cX3_out 86 = .ok (.iload_n 1, 1) := by decide +kernel
theorem dX3_out_87 : decode cX3_out 87 = .ok (.iaload, 1) := by decide +kernel
theorem dX3_out_88 : decode cX3_out 88 = .ok (.ireturn, 1) := by decide +kernel
set_option maxRecDepth 20000 in
theorem ggX3_chute_X3_isChute : GoodIn wsX3_chute wsX3_isChute := goodIn_r _ [7, 8, 9, 10, 6, 11, 12, 13, 14, 15, 16, 17, 18, 19, 20, 21, 22, 23, 24, 25, 26, 27, 28, 29, 30, 31, 32, 33, 34, 35, 36, 37, 38] (by decide +kernel) (by decide +kernel)
set_option maxRecDepth 20000 in
theorem gX3_chute_X3_isChute : GoodIn wsX3_chute (wsV RX3 77 RX3 yX3_isChute wsX3_isChute) := goodIn_app (goodIn_of _ (by decide +kernel)) ggX3_chute_X3_isChute
theorem dX3_chute_0 : decode cX3_chute 0 = .ok (.aload_n 0, 1) := by decide +kernel
theorem dX3_chute_1 : decode cX3_chute 1 = .ok (.aload_n 0, 1) := by decide +kernel
theorem dX3_chute_2 : decode cX3_chute 2 = .ok (.iload_n 1, 1) := by decide +kernel
theorem dX3_chute_3 : decode cX3_chute 3 = .ok (.invokevirtual 77, 3) := by decide +kernel
theorem dX3_chute_6 : decode cX3_chute 6 = .ok (.ifCond .eq 7, 3) := by decide +kernel
theorem dX3_chute_9 : decode cX3_chute 9 = .ok (.iconst 0, 1) := by decide +kernel
theorem dX3_chute_10 : decode cX3_chute 10 = .ok (.goto 4, 3) := by decide +kernel
theorem dX3_chute_13 : decode cX3_chute 13 = .ok (.iconst 1, 1) := by decide +kernel
theorem dX3_chute_14 : decode cX3_chute 14 = .ok (.putfield 63, 3) := by decide +kernel
theorem dX3_chute_17 : decode cX3_chute 17 = .ok (.aload_n 0, 1) := by decide +kernel
theorem dX3_chute_18 : decode cX3_chute 18 = .ok (.getfield 63, 3) := by decide +kernel
end
section
theorem dX3_chute_21 : decode cX3_chute 21 = .ok (.ifCond .le 5, 3) := by decide +kernel
theorem dX3_chute_24 : decode cX3_chute 24 = .ok (.iconst 0, 1) := by decide +kernel
theorem dX3_chute_25 : decode cX3_chute 25 = .ok (.ireturn, 1) := by decide +kernel
theorem dX3_chute_26 : decode cX3_chute 26 = .ok (.aload_n 0, 1) := by decide +kernel
theorem dX3_chute_27 : decode cX3_chute 27 = .ok (.getfield 17, 3) := by decide +kernel
theorem dX3_chute_30 : decode cX3_chute 30 = .ok (.iload_n 1, 1) := by decide +kernel
theorem dX3_chute_31 : decode cX3_chute 31 = .ok (.baload, 1) := by decide +kernel
theorem dX3_chute_32 : decode cX3_chute 32 = .ok (.istore_n 3, 1) := by decide +kernel
theorem dX3_chute_33 : decode cX3_chute 33 = .ok (.aload_n 0, 1) := by decide +kernel
theorem dX3_chute_34 : decode cX3_chute 34 = .ok (.getfield 17, 3) := by decide +kernel
theorem dX3_chute_37 : decode cX3_chute 37 = .ok (.iload_n 1, 1) := by decide +kernel
theorem dX3_chute_38 : decode cX3_chute 38 = .ok (.iload_n 2, 1) := by decide +kernel
theorem dX3_chute_39 : decode cX3_chute 39 = .ok (.bastore, 1) := by decide +kernel
theorem dX3_chute_40 : decode cX3_chute 40 = .ok (.iload_n 3, 1) := by decide +kernel
theorem dX3_chute_41 : decode cX3_chute 41 = .ok (.ireturn, 1) := by decide +kernel
set_option maxRecDepth 20000 in
theorem ggX3_jam_X3_in : GoodIn wsX3_jam wsX3_in := goodIn_r _ [11] (by decide +kernel) (by decide +kernel)
set_option maxRecDepth 20000 in
theorem gX3_jam_X3_in : GoodIn wsX3_jam (va_wsS RX3 69 yX3_in wsX3_in) := goodIn_app (goodIn_of _ (by decide +kernel)) ggX3_jam_X3_in
set_option maxRecDepth 20000 in
theorem ggX3_jam_X3_trayAt : GoodIn wsX3_jam wsX3_trayAt := goodIn_r _ [15, 1, 16, 17, 18, 19, 20, 21, 22, 23, 24, 25, 26, 27, 28, 29, 30, 31, 32, 33, 34, 35, 36, 37, 38, 39] (by decide +kernel) (by decide +kernel)
set_option maxRecDepth 20000 in
theorem gX3_jam_X3_trayAt : GoodIn wsX3_jam (wsV RX3 90 RX3 yX3_trayAt wsX3_trayAt) := goodIn_app (goodIn_of _ (by decide +kernel)) ggX3_jam_X3_trayAt
theorem dX3_jam_0 : decode cX3_jam 0 = .ok (.aload_n 0, 1) := by decide +kernel
theorem dX3_jam_1 : decode cX3_jam 1 = .ok (.iload_n 1, 1) := by decide +kernel
theorem dX3_jam_2 : decode cX3_jam 2 = .ok (.iconst 0, 1) := by decide +kernel
theorem dX3_jam_3 : decode cX3_jam 3 = .ok (.aload_n 0, 1) := by decide +kernel
theorem dX3_jam_4 : decode cX3_jam 4 = .ok (.getfield 57, 3) := by decide +kernel
theorem dX3_jam_7 : decode cX3_jam 7 = .ok (.iconst 1, 1) := by decide +kernel
theorem dX3_jam_8 : decode cX3_jam 8 = .ok (.isub, 1) := by decide +kernel
theorem dX3_jam_9 : decode cX3_jam 9 = .ok (.invokestatic 69, 3) := by decide +kernel
theorem dX3_jam_12 : decode cX3_jam 12 = .ok (.ifCond .eq 17, 3) := by decide +kernel
theorem dX3_jam_15 : decode cX3_jam 15 = .ok (.iload_n 2, 1) := by decide +kernel
theorem dX3_jam_16 : decode cX3_jam 16 = .ok (.iconst 0, 1) := by decide +kernel
theorem dX3_jam_17 : decode cX3_jam 17 = .ok (.aload_n 0, 1) := by decide +kernel
theorem dX3_jam_18 : decode cX3_jam 18 = .ok (.getfield 57, 3) := by decide +kernel
theorem dX3_jam_21 : decode cX3_jam 21 = .ok (.iconst 1, 1) := by decide +kernel
theorem dX3_jam_22 : decode cX3_jam 22 = .ok (.isub, 1) := by decide +kernel
theorem dX3_jam_23 : decode cX3_jam 23 = .ok (.invokestatic 69, 3) := by decide +kernel
theorem dX3_jam_26 : decode cX3_jam 26 = .ok (.ifCond .ne 7, 3) := by decide +kernel
theorem dX3_jam_29 : decode cX3_jam 29 = .ok (.iconst 1, 1) := by decide +kernel
theorem dX3_jam_30 : decode cX3_jam 30 = .ok (.goto 15, 3) := by decide +kernel
theorem dX3_jam_33 : decode cX3_jam 33 = .ok (.aload_n 0, 1) := by decide +kernel
theorem dX3_jam_34 : decode cX3_jam 34 = .ok (.getfield 94, 3) := by decide +kernel
theorem dX3_jam_37 : decode cX3_jam 37 = .ok (.ifCond .eq 7, 3) := by decide +kernel
theorem dX3_jam_40 : decode cX3_jam 40 = .ok (.iconst 2, 1) := by decide +kernel
theorem dX3_jam_41 : decode cX3_jam 41 = .ok (.goto 4, 3) := by decide +kernel
theorem dX3_jam_44 : decode cX3_jam 44 = .ok (.iconst 0, 1) := by decide +kernel
theorem dX3_jam_45 : decode cX3_jam 45 = .ok (.putfield 63, 3) := by decide +kernel
theorem dX3_jam_48 : decode cX3_jam 48 = .ok (.aload_n 0, 1) := by decide +kernel
theorem dX3_jam_49 : decode cX3_jam 49 = .ok (.getfield 63, 3) := by decide +kernel
theorem dX3_jam_52 : decode cX3_jam 52 = .ok (.ifCond .le 5, 3) := by decide +kernel
theorem dX3_jam_55 : decode cX3_jam 55 = .ok (.iconst 0, 1) := by decide +kernel
theorem dX3_jam_56 : decode cX3_jam 56 = .ok (.ireturn, 1) := by decide +kernel
theorem dX3_jam_57 : decode cX3_jam 57 = .ok (.aload_n 0, 1) := by decide +kernel
theorem dX3_jam_58 : decode cX3_jam 58 = .ok (.iconst 1, 1) := by decide +kernel
theorem dX3_jam_59 : decode cX3_jam 59 = .ok (.putfield 94, 3) := by decide +kernel
theorem dX3_jam_62 : decode cX3_jam 62 = .ok (.aload_n 0, 1) := by decide +kernel
theorem dX3_jam_63 : decode cX3_jam 63 = .ok (.iconst 0, 1) := by decide +kernel
theorem dX3_jam_64 : decode cX3_jam 64 = .ok (.putfield 112, 3) := by decide +kernel
theorem dX3_jam_67 : decode cX3_jam 67 = .ok (.iload_n 2, 1) := by decide +kernel
theorem dX3_jam_68 : decode cX3_jam 68 = .ok (.iload_n 1, 1) := by decide +kernel
theorem dX3_jam_69 : decode cX3_jam 69 = .ok (.isub, 1) := by decide +kernel
theorem dX3_jam_70 : decode cX3_jam 70 = .ok (.aload_n 0, 1) := by decide +kernel
theorem dX3_jam_71 : decode cX3_jam 71 = .ok (.getfield 57, 3) := by decide +kernel
theorem dX3_jam_74 : decode cX3_jam 74 = .ok (.iadd, 1) := by decide +kernel
theorem dX3_jam_75 : decode cX3_jam 75 = .ok (.aload_n 0, 1) := by decide +kernel
theorem dX3_jam_76 : decode cX3_jam 76 = .ok (.getfield 57, 3) := by decide +kernel
theorem dX3_jam_79 : decode cX3_jam 79 = .ok (.irem, 1) := by decide +kernel
theorem dX3_jam_80 : decode cX3_jam 80 = .ok (.iconst 1, 1) := by decide +kernel
theorem dX3_jam_81 : decode cX3_jam 81 = .ok (.iadd, 1) := by decide +kernel
theorem dX3_jam_82 : decode cX3_jam 82 = .ok (.istore_n 3, 1) := by decide +kernel
theorem dX3_jam_83 : decode cX3_jam 83 = .ok (.iconst 0, 1) := by decide +kernel
theorem dX3_jam_84 : decode cX3_jam 84 = .ok (.istore 4, 2) := by decide +kernel
theorem dX3_jam_86 : decode cX3_jam 86 = .ok (.iload 4, 2) := by decide +kernel
theorem dX3_jam_88 : decode cX3_jam 88 = .ok (.iload_n 3, 1) := by decide +kernel
theorem dX3_jam_89 : decode cX3_jam 89 = .ok (.if_icmp .ge 66, 3) := by decide +kernel
theorem dX3_jam_92 : decode cX3_jam 92 = .ok (.aload_n 0, 1) := by decide +kernel
theorem dX3_jam_93 : decode cX3_jam 93 = .ok (.getfield 13, 3) := by decide +kernel
theorem dX3_jam_96 : decode cX3_jam 96 = .ok (.aload_n 0, 1) := by decide +kernel
theorem dX3_jam_97 : decode cX3_jam 97 = .ok (.iload_n 1, 1) := by decide +kernel
theorem dX3_jam_98 : decode cX3_jam 98 = .ok (.iload 4, 2) := by decide +kernel
theorem dX3_jam_100 : decode cX3_jam 100 = .ok (.iadd, 1) := by decide +kernel
theorem dX3_jam_101 : decode cX3_jam 101 = .ok (.aload_n 0, 1) := by decide +kernel
theorem dX3_jam_102 : decode cX3_jam 102 = .ok (.getfield 57, 3) := by decide +kernel
theorem dX3_jam_105 : decode cX3_jam 105 = .ok (.irem, 1) := by decide +kernel
theorem dX3_jam_106 : decode cX3_jam 106 = .ok (.invokevirtual 90, 3) := by decide +kernel
theorem dX3_jam_109 : decode cX3_jam 109 = .ok (.iaload, 1) := by decide +kernel
theorem dX3_jam_110 : decode cX3_jam 110 = .ok (.istore 5, 2) := by decide +kernel
theorem dX3_jam_112 : decode cX3_jam 112 = .ok (.iload 5, 2) := by decide +kernel
theorem dX3_jam_114 : decode cX3_jam 114 = .ok (.ifCond .ne 6, 3) := by decide +kernel
theorem dX3_jam_117 : decode cX3_jam 117 = .ok (.goto 32, 3) := by decide +kernel
theorem dX3_jam_120 : decode cX3_jam 120 = .ok (.aload_n 0, 1) := by decide +kernel
theorem dX3_jam_121 : decode cX3_jam 121 = .ok (.getfield 51, 3) := by decide +kernel
theorem dX3_jam_124 : decode cX3_jam 124 = .ok (.aload_n 0, 1) := by decide +kernel
theorem dX3_jam_125 : decode cX3_jam 125 = .ok (.getfield 112, 3) := by decide +kernel
theorem dX3_jam_128 : decode cX3_jam 128 = .ok (.iload 5, 2) := by decide +kernel
theorem dX3_jam_130 : decode cX3_jam 130 = .ok (.iastore, 1) := by decide +kernel
theorem dX3_jam_131 : decode cX3_jam 131 = .ok (.aload_n 0, 1) := by decide +kernel
theorem dX3_jam_132 : decode cX3_jam 132 = .ok (.getfield 54, 3) := by decide +kernel
theorem dX3_jam_135 : decode cX3_jam 135 = .ok (.iload 5, 2) := by decide +kernel
theorem dX3_jam_137 : decode cX3_jam 137 = .ok (.iconst 0, 1) := by decide +kernel
theorem dX3_jam_138 : decode cX3_jam 138 = .ok (.bastore, 1) := by decide +kernel
theorem dX3_jam_139 : decode cX3_jam 139 = .ok (.aload_n 0, 1) := by decide +kernel
theorem dX3_jam_140 : decode cX3_jam 140 = .ok (.dup, 1) := by decide +kernel
theorem dX3_jam_141 : decode cX3_jam 141 = .ok (.getfield 112, 3) := by decide +kernel
theorem dX3_jam_144 : decode cX3_jam 144 = .ok (.iconst 1, 1) := by decide +kernel
theorem dX3_jam_145 : decode cX3_jam 145 = .ok (.iadd, 1) := by decide +kernel
theorem dX3_jam_146 : decode cX3_jam 146 = .ok (.putfield 112, 3) := by decide +kernel
theorem dX3_jam_149 : decode cX3_jam 149 = .ok (.iinc 4 1, 3) := by decide +kernel
theorem dX3_jam_152 : decode cX3_jam 152 = .ok (.goto (-66), 3) := by decide +kernel
theorem dX3_jam_155 : decode cX3_jam 155 = .ok (.aload_n 0, 1) := by decide +kernel
theorem dX3_jam_156 : decode cX3_jam 156 = .ok (.getfield 112, 3) := by decide +kernel
theorem dX3_jam_159 : decode cX3_jam 159 = .ok (.ireturn, 1) := by decide +kernel
set_option maxRecDepth 20000 in
theorem ggX3_doubt_X3_in : GoodIn wsX3_doubt wsX3_in := goodIn_r _ [7] (by decide +kernel) (by decide +kernel)
set_option maxRecDepth 20000 in
theorem gX3_doubt_X3_in : GoodIn wsX3_doubt (va_wsS RX3 69 yX3_in wsX3_in) := goodIn_app (goodIn_of _ (by decide +kernel)) ggX3_doubt_X3_in
theorem dX3_doubt_0 : decode cX3_doubt 0 = .ok (.aload_n 0, 1) := by decide +kernel
theorem dX3_doubt_1 : decode cX3_doubt 1 = .ok (.iconst 0, 1) := by decide +kernel
theorem dX3_doubt_2 : decode cX3_doubt 2 = .ok (.putfield 63, 3) := by decide +kernel
theorem dX3_doubt_5 : decode cX3_doubt 5 = .ok (.iload_n 1, 1) := by decide +kernel
theorem dX3_doubt_6 : decode cX3_doubt 6 = .ok (.iconst 0, 1) := by decide +kernel
theorem dX3_doubt_7 : decode cX3_doubt 7 = .ok (.aload_n 0, 1) := by decide +kernel
theorem dX3_doubt_8 : decode cX3_doubt 8 = .ok (.getfield 112, 3) := by decide +kernel
theorem dX3_doubt_11 : decode cX3_doubt 11 = .ok (.iconst 1, 1) := by decide +kernel
theorem dX3_doubt_12 : decode cX3_doubt 12 = .ok (.isub, 1) := by decide +kernel
theorem dX3_doubt_13 : decode cX3_doubt 13 = .ok (.invokestatic 69, 3) := by decide +kernel
theorem dX3_doubt_16 : decode cX3_doubt 16 = .ok (.ifCond .eq 12, 3) := by decide +kernel
theorem dX3_doubt_19 : decode cX3_doubt 19 = .ok (.aload_n 0, 1) := by decide +kernel
theorem dX3_doubt_20 : decode cX3_doubt 20 = .ok (.getfield 51, 3) := by decide +kernel
theorem dX3_doubt_23 : decode cX3_doubt 23 = .ok (.iload_n 1, 1) := by decide +kernel
theorem dX3_doubt_24 : decode cX3_doubt 24 = .ok (.iaload, 1) := by decide +kernel
theorem dX3_doubt_25 : decode cX3_doubt 25 = .ok (.goto 4, 3) := by decide +kernel
theorem dX3_doubt_28 : decode cX3_doubt 28 = .ok (.iconst (-1), 1) := by decide +kernel
theorem dX3_doubt_29 : decode cX3_doubt 29 = .ok (.ireturn, 1) := by decide +kernel
set_option maxRecDepth 20000 in
theorem ggX3_found_X3_isItem : GoodIn wsX3_found wsX3_isItem := goodIn_r _ [9, 10, 11, 12, 8, 13, 14, 15, 16, 17, 18, 19, 20, 21, 22, 23, 24, 25, 26, 27, 28, 29, 30, 31, 32, 33, 34, 35, 36] (by decide +kernel) (by decide +kernel)
set_option maxRecDepth 20000 in
theorem gX3_found_X3_isItem : GoodIn wsX3_found (wsV RX3 84 RX3 yX3_isItem wsX3_isItem) := goodIn_app (goodIn_of _ (by decide +kernel)) ggX3_found_X3_isItem
theorem dX3_found_0 : decode cX3_found 0 = .ok (.aload_n 0, 1) := by decide +kernel
theorem dX3_found_1 : decode cX3_found 1 = .ok (.aload_n 0, 1) := by decide +kernel
theorem dX3_found_2 : decode cX3_found 2 = .ok (.iload_n 1, 1) := by decide +kernel
theorem dX3_found_3 : decode cX3_found 3 = .ok (.invokevirtual 84, 3) := by decide +kernel
theorem dX3_found_6 : decode cX3_found 6 = .ok (.ifCond .eq 7, 3) := by decide +kernel
theorem dX3_found_9 : decode cX3_found 9 = .ok (.iconst 0, 1) := by decide +kernel
theorem dX3_found_10 : decode cX3_found 10 = .ok (.goto 4, 3) := by decide +kernel
theorem dX3_found_13 : decode cX3_found 13 = .ok (.iconst 1, 1) := by decide +kernel
theorem dX3_found_14 : decode cX3_found 14 = .ok (.putfield 63, 3) := by decide +kernel
theorem dX3_found_17 : decode cX3_found 17 = .ok (.aload_n 0, 1) := by decide +kernel
theorem dX3_found_18 : decode cX3_found 18 = .ok (.getfield 63, 3) := by decide +kernel
theorem dX3_found_21 : decode cX3_found 21 = .ok (.ifCond .le 5, 3) := by decide +kernel
theorem dX3_found_24 : decode cX3_found 24 = .ok (.iconst 0, 1) := by decide +kernel
theorem dX3_found_25 : decode cX3_found 25 = .ok (.ireturn, 1) := by decide +kernel
theorem dX3_found_26 : decode cX3_found 26 = .ok (.iconst 0, 1) := by decide +kernel
theorem dX3_found_27 : decode cX3_found 27 = .ok (.istore_n 3, 1) := by decide +kernel
theorem dX3_found_28 : decode cX3_found 28 = .ok (.iconst 0, 1) := by decide +kernel
theorem dX3_found_29 : decode cX3_found 29 = .ok (.istore 4, 2) := by decide +kernel
theorem dX3_found_31 : decode cX3_found 31 = .ok (.iload 4, 2) := by decide +kernel
theorem dX3_found_33 : decode cX3_found 33 = .ok (.aload_n 0, 1) := by decide +kernel
theorem dX3_found_34 : decode cX3_found 34 = .ok (.getfield 112, 3) := by decide +kernel
theorem dX3_found_37 : decode cX3_found 37 = .ok (.if_icmp .ge 30, 3) := by decide +kernel
theorem dX3_found_40 : decode cX3_found 40 = .ok (.iload_n 3, 1) := by decide +kernel
theorem dX3_found_41 : decode cX3_found 41 = .ok (.ifCond .ne 14, 3) := by decide +kernel
theorem dX3_found_44 : decode cX3_found 44 = .ok (.aload_n 0, 1) := by decide +kernel
theorem dX3_found_45 : decode cX3_found 45 = .ok (.getfield 51, 3) := by decide +kernel
theorem dX3_found_48 : decode cX3_found 48 = .ok (.iload 4, 2) := by decide +kernel
theorem dX3_found_50 : decode cX3_found 50 = .ok (.iaload, 1) := by decide +kernel
theorem dX3_found_51 : decode cX3_found 51 = .ok (.iload_n 1, 1) := by decide +kernel
theorem dX3_found_52 : decode cX3_found 52 = .ok (.if_icmp .ne 7, 3) := by decide +kernel
theorem dX3_found_55 : decode cX3_found 55 = .ok (.iconst 1, 1) := by decide +kernel
theorem dX3_found_56 : decode cX3_found 56 = .ok (.goto 4, 3) := by decide +kernel
theorem dX3_found_59 : decode cX3_found 59 = .ok (.iconst 0, 1) := by decide +kernel
theorem dX3_found_60 : decode cX3_found 60 = .ok (.istore_n 3, 1) := by decide +kernel
theorem dX3_found_61 : decode cX3_found 61 = .ok (.iinc 4 1, 3) := by decide +kernel
theorem dX3_found_64 : decode cX3_found 64 = .ok (.goto (-33), 3) := by decide +kernel
theorem dX3_found_67 : decode cX3_found 67 = .ok (.aload_n 0, 1) := by decide +kernel
theorem dX3_found_68 : decode cX3_found 68 = .ok (.iload_n 3, 1) := by decide +kernel
theorem dX3_found_69 : decode cX3_found 69 = .ok (.ifCond .eq 7, 3) := by decide +kernel
theorem dX3_found_72 : decode cX3_found 72 = .ok (.iconst 0, 1) := by decide +kernel
theorem dX3_found_73 : decode cX3_found 73 = .ok (.goto 4, 3) := by decide +kernel
theorem dX3_found_76 : decode cX3_found 76 = .ok (.iconst 2, 1) := by decide +kernel
theorem dX3_found_77 : decode cX3_found 77 = .ok (.putfield 63, 3) := by decide +kernel
theorem dX3_found_80 : decode cX3_found 80 = .ok (.aload_n 0, 1) := by decide +kernel
theorem dX3_found_81 : decode cX3_found 81 = .ok (.getfield 63, 3) := by decide +kernel
theorem dX3_found_84 : decode cX3_found 84 = .ok (.ifCond .le 5, 3) := by decide +kernel
theorem dX3_found_87 : decode cX3_found 87 = .ok (.iconst 0, 1) := by decide +kernel
theorem dX3_found_88 : decode cX3_found 88 = .ok (.ireturn, 1) := by decide +kernel
theorem dX3_found_89 : decode cX3_found 89 = .ok (.aload_n 0, 1) := by decide +kernel
theorem dX3_found_90 : decode cX3_found 90 = .ok (.getfield 54, 3) := by decide +kernel
theorem dX3_found_93 : decode cX3_found 93 = .ok (.iload_n 1, 1) := by decide +kernel
theorem dX3_found_94 : decode cX3_found 94 = .ok (.iload_n 2, 1) := by decide +kernel
theorem dX3_found_95 : decode cX3_found 95 = .ok (.bastore, 1) := by decide +kernel
theorem dX3_found_96 : decode cX3_found 96 = .ok (.iconst 0, 1) := by decide +kernel
theorem dX3_found_97 : decode cX3_found 97 = .ok (.istore 4, 2) := by decide +kernel
theorem dX3_found_99 : decode cX3_found 99 = .ok (.iconst 0, 1) := by decide +kernel
theorem dX3_found_100 : decode cX3_found 100 = .ok (.istore 5, 2) := by decide +kernel
theorem dX3_found_102 : decode cX3_found 102 = .ok (.iload 5, 2) := by decide +kernel
theorem dX3_found_104 : decode cX3_found 104 = .ok (.aload_n 0, 1) := by decide +kernel
theorem dX3_found_105 : decode cX3_found 105 = .ok (.getfield 112, 3) := by decide +kernel
theorem dX3_found_108 : decode cX3_found 108 = .ok (.if_icmp .ge 34, 3) := by decide +kernel
theorem dX3_found_111 : decode cX3_found 111 = .ok (.iload 4, 2) := by decide +kernel
theorem dX3_found_113 : decode cX3_found 113 = .ok (.aload_n 0, 1) := by decide +kernel
theorem dX3_found_114 : decode cX3_found 114 = .ok (.getfield 54, 3) := by decide +kernel
theorem dX3_found_117 : decode cX3_found 117 = .ok (.aload_n 0, 1) := by decide +kernel
theorem dX3_found_118 : decode cX3_found 118 = .ok (.getfield 51, 3) := by decide +kernel
theorem dX3_found_121 : decode cX3_found 121 = .ok (.iload 5, 2) := by decide +kernel
theorem dX3_found_123 : decode cX3_found 123 = .ok (.iaload, 1) := by decide +kernel
theorem dX3_found_124 : decode cX3_found 124 = .ok (.baload, 1) := by decide +kernel
theorem dX3_found_125 : decode cX3_found 125 = .ok (.ifCond .eq 7, 3) := by decide +kernel
theorem dX3_found_128 : decode cX3_found 128 = .ok (.iconst 0, 1) := by decide +kernel
theorem dX3_found_129 : decode cX3_found 129 = .ok (.goto 4, 3) := by decide +kernel
theorem dX3_found_132 : decode cX3_found 132 = .ok (.iconst 1, 1) := by decide +kernel
theorem dX3_found_133 : decode cX3_found 133 = .ok (.iadd, 1) := by decide +kernel
theorem dX3_found_134 : decode cX3_found 134 = .ok (.istore 4, 2) := by decide +kernel
theorem dX3_found_136 : decode cX3_found 136 = .ok (.iinc 5 1, 3) := by decide +kernel
theorem dX3_found_139 : decode cX3_found 139 = .ok (.goto (-37), 3) := by decide +kernel
theorem dX3_found_142 : decode cX3_found 142 = .ok (.iload 4, 2) := by decide +kernel
theorem dX3_found_144 : decode cX3_found 144 = .ok (.ireturn, 1) := by decide +kernel
set_option maxRecDepth 20000 in
theorem ggX3_retrack_X3_trayOf : GoodIn wsX3_retrack wsX3_trayOf := goodIn_r _ [11, 12, 13, 25, 26, 27, 28, 29, 30, 31, 32, 33, 34, 35, 36, 37, 38, 39, 40, 41, 42, 43, 44, 45, 46, 47] (by decide +kernel) (by decide +kernel)
set_option maxRecDepth 20000 in
theorem gX3_retrack_X3_trayOf : GoodIn wsX3_retrack (wsV RX3 115 RX3 yX3_trayOf wsX3_trayOf) := goodIn_app (goodIn_of _ (by decide +kernel)) ggX3_retrack_X3_trayOf
set_option maxRecDepth 20000 in
theorem ggX3_retrack_X3_leave : GoodIn wsX3_retrack wsX3_leave := goodIn_r _ [17, 13, 18, 19, 3, 20, 21, 22, 23, 24, 25, 26, 27, 28, 29, 30, 31, 32, 33, 34, 35, 36, 37, 38, 39, 40, 41, 42, 43, 44, 45, 46, 47] (by decide +kernel) (by decide +kernel)
set_option maxRecDepth 20000 in
theorem gX3_retrack_X3_leave : GoodIn wsX3_retrack (wsV RX3 101 RX3 yX3_leave wsX3_leave) := goodIn_app (goodIn_of _ (by decide +kernel)) ggX3_retrack_X3_leave
theorem dX3_retrack_0 : decode cX3_retrack 0 = .ok (.aload_n 0, 1) := by decide +kernel
theorem dX3_retrack_1 : decode cX3_retrack 1 = .ok (.aload_n 0, 1) := by decide +kernel
theorem dX3_retrack_2 : decode cX3_retrack 2 = .ok (.getfield 94, 3) := by decide +kernel
theorem dX3_retrack_5 : decode cX3_retrack 5 = .ok (.ifCond .eq 7, 3) := by decide +kernel
theorem dX3_retrack_8 : decode cX3_retrack 8 = .ok (.iconst 0, 1) := by decide +kernel
theorem dX3_retrack_9 : decode cX3_retrack 9 = .ok (.goto 4, 3) := by decide +kernel
theorem dX3_retrack_12 : decode cX3_retrack 12 = .ok (.iconst 1, 1) := by decide +kernel
theorem dX3_retrack_13 : decode cX3_retrack 13 = .ok (.putfield 63, 3) := by decide +kernel
theorem dX3_retrack_16 : decode cX3_retrack 16 = .ok (.aload_n 0, 1) := by decide +kernel
theorem dX3_retrack_17 : decode cX3_retrack 17 = .ok (.getfield 63, 3) := by decide +kernel
theorem dX3_retrack_20 : decode cX3_retrack 20 = .ok (.ifCond .le 5, 3) := by decide +kernel
theorem dX3_retrack_23 : decode cX3_retrack 23 = .ok (.iconst 0, 1) := by decide +kernel
theorem dX3_retrack_24 : decode cX3_retrack 24 = .ok (.ireturn, 1) := by decide +kernel
theorem dX3_retrack_25 : decode cX3_retrack 25 = .ok (.aload_n 0, 1) := by decide +kernel
theorem dX3_retrack_26 : decode cX3_retrack 26 = .ok (.getfield 98, 3) := by decide +kernel
theorem dX3_retrack_29 : decode cX3_retrack 29 = .ok (.istore_n 1, 1) := by decide +kernel
theorem dX3_retrack_30 : decode cX3_retrack 30 = .ok (.iconst 0, 1) := by decide +kernel
theorem dX3_retrack_31 : decode cX3_retrack 31 = .ok (.istore_n 2, 1) := by decide +kernel
theorem dX3_retrack_32 : decode cX3_retrack 32 = .ok (.iload_n 2, 1) := by decide +kernel
theorem dX3_retrack_33 : decode cX3_retrack 33 = .ok (.aload_n 0, 1) := by decide +kernel
theorem dX3_retrack_34 : decode cX3_retrack 34 = .ok (.getfield 112, 3) := by decide +kernel
theorem dX3_retrack_37 : decode cX3_retrack 37 = .ok (.if_icmp .ge 40, 3) := by decide +kernel
theorem dX3_retrack_40 : decode cX3_retrack 40 = .ok (.aload_n 0, 1) := by decide +kernel
theorem dX3_retrack_41 : decode cX3_retrack 41 = .ok (.getfield 54, 3) := by decide +kernel
theorem dX3_retrack_44 : decode cX3_retrack 44 = .ok (.aload_n 0, 1) := by decide +kernel
theorem dX3_retrack_45 : decode cX3_retrack 45 = .ok (.getfield 51, 3) := by decide +kernel
theorem dX3_retrack_48 : decode cX3_retrack 48 = .ok (.iload_n 2, 1) := by decide +kernel
theorem dX3_retrack_49 : decode cX3_retrack 49 = .ok (.iaload, 1) := by decide +kernel
theorem dX3_retrack_50 : decode cX3_retrack 50 = .ok (.baload, 1) := by decide +kernel
theorem dX3_retrack_51 : decode cX3_retrack 51 = .ok (.ifCond .ne 20, 3) := by decide +kernel
theorem dX3_retrack_54 : decode cX3_retrack 54 = .ok (.aload_n 0, 1) := by decide +kernel
theorem dX3_retrack_55 : decode cX3_retrack 55 = .ok (.aload_n 0, 1) := by decide +kernel
theorem dX3_retrack_56 : decode cX3_retrack 56 = .ok (.aload_n 0, 1) := by decide +kernel
theorem dX3_retrack_57 : decode cX3_retrack 57 = .ok (.getfield 51, 3) := by decide +kernel
theorem dX3_retrack_60 : decode cX3_retrack 60 = .ok (.iload_n 2, 1) := by decide +kernel
theorem dX3_retrack_61 : decode cX3_retrack 61 = .ok (.iaload, 1) := by decide +kernel
theorem dX3_retrack_62 : decode cX3_retrack 62 = .ok (.invokevirtual 115, 3) := by decide +kernel
theorem dX3_retrack_65 : decode cX3_retrack 65 = .ok (.iconst 5, 1) := by decide +kernel
theorem dX3_retrack_66 : decode cX3_retrack 66 = .ok (.bipush (-2), 2) := by decide +kernel
theorem dX3_retrack_68 : decode cX3_retrack 68 = .ok (.invokevirtual 101, 3) := by decide +kernel
theorem dX3_retrack_71 : decode cX3_retrack 71 = .ok (.iinc 2 1, 3) := by decide +kernel
theorem dX3_retrack_74 : decode cX3_retrack 74 = .ok (.goto (-42), 3) := by decide +kernel
theorem dX3_retrack_77 : decode cX3_retrack 77 = .ok (.aload_n 0, 1) := by decide +kernel
theorem dX3_retrack_78 : decode cX3_retrack 78 = .ok (.iconst 0, 1) := by decide +kernel
theorem dX3_retrack_79 : decode cX3_retrack 79 = .ok (.putfield 94, 3) := by decide +kernel
theorem dX3_retrack_82 : decode cX3_retrack 82 = .ok (.aload_n 0, 1) := by decide +kernel
theorem dX3_retrack_83 : decode cX3_retrack 83 = .ok (.iconst 0, 1) := by decide +kernel
theorem dX3_retrack_84 : decode cX3_retrack 84 = .ok (.putfield 112, 3) := by decide +kernel
theorem dX3_retrack_87 : decode cX3_retrack 87 = .ok (.aload_n 0, 1) := by decide +kernel
theorem dX3_retrack_88 : decode cX3_retrack 88 = .ok (.getfield 98, 3) := by decide +kernel
theorem dX3_retrack_91 : decode cX3_retrack 91 = .ok (.iload_n 1, 1) := by decide +kernel
theorem dX3_retrack_92 : decode cX3_retrack 92 = .ok (.isub, 1) := by decide +kernel
theorem dX3_retrack_93 : decode cX3_retrack 93 = .ok (.ireturn, 1) := by decide +kernel
set_option maxRecDepth 20000 in
theorem ggX3_manual_X3_isItem : GoodIn wsX3_manual wsX3_isItem := goodIn_r _ [8, 9, 10, 11, 7, 12, 22, 23, 24, 25, 26, 27, 28, 29, 30, 31, 32, 33, 34, 35, 36, 37, 38, 39, 40, 41, 42, 43, 44] (by decide +kernel) (by decide +kernel)
set_option maxRecDepth 20000 in
theorem gX3_manual_X3_isItem : GoodIn wsX3_manual (wsV RX3 84 RX3 yX3_isItem wsX3_isItem) := goodIn_app (goodIn_of _ (by decide +kernel)) ggX3_manual_X3_isItem
set_option maxRecDepth 20000 in
theorem ggX3_manual_X3_isChute : GoodIn wsX3_manual wsX3_isChute := goodIn_r _ [16, 17, 18, 19, 7, 20, 21, 10, 11, 12, 22, 23, 24, 25, 26, 27, 28, 29, 30, 31, 32, 33, 34, 35, 36, 37, 38, 39, 40, 41, 42, 43, 44] (by decide +kernel) (by decide +kernel)
set_option maxRecDepth 20000 in
theorem gX3_manual_X3_isChute : GoodIn wsX3_manual (wsV RX3 77 RX3 yX3_isChute wsX3_isChute) := goodIn_app (goodIn_of _ (by decide +kernel)) ggX3_manual_X3_isChute
theorem dX3_manual_0 : decode cX3_manual 0 = .ok (.aload_n 0, 1) := by decide +kernel
theorem dX3_manual_1 : decode cX3_manual 1 = .ok (.aload_n 0, 1) := by decide +kernel
theorem dX3_manual_2 : decode cX3_manual 2 = .ok (.iload_n 1, 1) := by decide +kernel
theorem dX3_manual_3 : decode cX3_manual 3 = .ok (.invokevirtual 84, 3) := by decide +kernel
theorem dX3_manual_6 : decode cX3_manual 6 = .ok (.ifCond .eq 11, 3) := by decide +kernel
theorem dX3_manual_9 : decode cX3_manual 9 = .ok (.aload_n 0, 1) := by decide +kernel
theorem dX3_manual_10 : decode cX3_manual 10 = .ok (.iload_n 2, 1) := by decide +kernel
theorem dX3_manual_11 : decode cX3_manual 11 = .ok (.invokevirtual 77, 3) := by decide +kernel
theorem dX3_manual_14 : decode cX3_manual 14 = .ok (.ifCond .ne 7, 3) := by decide +kernel
theorem dX3_manual_17 : decode cX3_manual 17 = .ok (.iconst 1, 1) := by decide +kernel
theorem dX3_manual_18 : decode cX3_manual 18 = .ok (.goto 4, 3) := by decide +kernel
theorem dX3_manual_21 : decode cX3_manual 21 = .ok (.iconst 0, 1) := by decide +kernel
theorem dX3_manual_22 : decode cX3_manual 22 = .ok (.putfield 63, 3) := by decide +kernel
theorem dX3_manual_25 : decode cX3_manual 25 = .ok (.aload_n 0, 1) := by decide +kernel
theorem dX3_manual_26 : decode cX3_manual 26 = .ok (.getfield 63, 3) := by decide +kernel
theorem dX3_manual_29 : decode cX3_manual 29 = .ok (.ifCond .ne 32, 3) := by decide +kernel
theorem dX3_manual_32 : decode cX3_manual 32 = .ok (.aload_n 0, 1) := by decide +kernel
theorem dX3_manual_33 : decode cX3_manual 33 = .ok (.aload_n 0, 1) := by decide +kernel
theorem dX3_manual_34 : decode cX3_manual 34 = .ok (.getfield 24, 3) := by decide +kernel
theorem dX3_manual_37 : decode cX3_manual 37 = .ok (.iload_n 1, 1) := by decide +kernel
theorem dX3_manual_38 : decode cX3_manual 38 = .ok (.iaload, 1) := by decide +kernel
theorem dX3_manual_39 : decode cX3_manual 39 = .ok (.iconst 3, 1) := by decide +kernel
theorem dX3_manual_40 : decode cX3_manual 40 = .ok (.if_icmp .eq 17, 3) := by decide +kernel
theorem dX3_manual_43 : decode cX3_manual 43 = .ok (.aload_n 0, 1) := by decide +kernel
theorem dX3_manual_44 : decode cX3_manual 44 = .ok (.getfield 24, 3) := by decide +kernel
theorem dX3_manual_47 : decode cX3_manual 47 = .ok (.iload_n 1, 1) := by decide +kernel
theorem dX3_manual_48 : decode cX3_manual 48 = .ok (.iaload, 1) := by decide +kernel
theorem dX3_manual_49 : decode cX3_manual 49 = .ok (.iconst 5, 1) := by decide +kernel
theorem dX3_manual_50 : decode cX3_manual 50 = .ok (.if_icmp .eq 7, 3) := by decide +kernel
theorem dX3_manual_53 : decode cX3_manual 53 = .ok (.iconst 2, 1) := by decide +kernel
theorem dX3_manual_54 : decode cX3_manual 54 = .ok (.goto 4, 3) := by decide +kernel
theorem dX3_manual_57 : decode cX3_manual 57 = .ok (.iconst 0, 1) := by decide +kernel
theorem dX3_manual_58 : decode cX3_manual 58 = .ok (.putfield 63, 3) := by decide +kernel
theorem dX3_manual_61 : decode cX3_manual 61 = .ok (.aload_n 0, 1) := by decide +kernel
theorem dX3_manual_62 : decode cX3_manual 62 = .ok (.getfield 63, 3) := by decide +kernel
theorem dX3_manual_65 : decode cX3_manual 65 = .ok (.ifCond .gt 12, 3) := by decide +kernel
theorem dX3_manual_68 : decode cX3_manual 68 = .ok (.aload_n 0, 1) := by decide +kernel
theorem dX3_manual_69 : decode cX3_manual 69 = .ok (.getfield 17, 3) := by decide +kernel
theorem dX3_manual_72 : decode cX3_manual 72 = .ok (.iload_n 2, 1) := by decide +kernel
theorem dX3_manual_73 : decode cX3_manual 73 = .ok (.baload, 1) := by decide +kernel
theorem dX3_manual_74 : decode cX3_manual 74 = .ok (.ifCond .eq 5, 3) := by decide +kernel
theorem dX3_manual_77 : decode cX3_manual 77 = .ok (.iconst 0, 1) := by decide +kernel
theorem dX3_manual_78 : decode cX3_manual 78 = .ok (.ireturn, 1) := by decide +kernel
theorem dX3_manual_79 : decode cX3_manual 79 = .ok (.aload_n 0, 1) := by decide +kernel
theorem dX3_manual_80 : decode cX3_manual 80 = .ok (.getfield 24, 3) := by decide +kernel
theorem dX3_manual_83 : decode cX3_manual 83 = .ok (.iload_n 1, 1) := by decide +kernel
theorem dX3_manual_84 : decode cX3_manual 84 = .ok (.iconst 2, 1) := by decide +kernel
theorem dX3_manual_85 : decode cX3_manual 85 = .ok (.iastore, 1) := by decide +kernel
theorem dX3_manual_86 : decode cX3_manual 86 = .ok (.iconst 1, 1) := by decide +kernel
theorem dX3_manual_87 : decode cX3_manual 87 = .ok (.ireturn, 1) := by decide +kernel
set_option maxRecDepth 20000 in
theorem ggX3_tray_X3_in : GoodIn wsX3_tray wsX3_in := goodIn_r _ [7] (by decide +kernel) (by decide +kernel)
set_option maxRecDepth 20000 in
theorem gX3_tray_X3_in : GoodIn wsX3_tray (va_wsS RX3 69 yX3_in wsX3_in) := goodIn_app (goodIn_of _ (by decide +kernel)) ggX3_tray_X3_in
theorem dX3_tray_0 : decode cX3_tray 0 = .ok (.aload_n 0, 1) := by decide +kernel
theorem dX3_tray_1 : decode cX3_tray 1 = .ok (.iload_n 1, 1) := by decide +kernel
theorem dX3_tray_2 : decode cX3_tray 2 = .ok (.iconst 0, 1) := by decide +kernel
theorem dX3_tray_3 : decode cX3_tray 3 = .ok (.aload_n 0, 1) := by decide +kernel
theorem dX3_tray_4 : decode cX3_tray 4 = .ok (.getfield 57, 3) := by decide +kernel
theorem dX3_tray_7 : decode cX3_tray 7 = .ok (.iconst 1, 1) := by decide +kernel
theorem dX3_tray_8 : decode cX3_tray 8 = .ok (.isub, 1) := by decide +kernel
theorem dX3_tray_9 : decode cX3_tray 9 = .ok (.invokestatic 69, 3) := by decide +kernel
end
section
theorem dX3_tray_12 : decode cX3_tray 12 = .ok (.ifCond .eq 7, 3) := by decide +kernel
theorem dX3_tray_15 : decode cX3_tray 15 = .ok (.iconst 0, 1) := by decide +kernel
theorem dX3_tray_16 : decode cX3_tray 16 = .ok (.goto 4, 3) := by decide +kernel
theorem dX3_tray_19 : decode cX3_tray 19 = .ok (.iconst 1, 1) := by decide +kernel
theorem dX3_tray_20 : decode cX3_tray 20 = .ok (.putfield 63, 3) := by decide +kernel
theorem dX3_tray_23 : decode cX3_tray 23 = .ok (.aload_n 0, 1) := by decide +kernel
theorem dX3_tray_24 : decode cX3_tray 24 = .ok (.getfield 63, 3) := by decide +kernel
theorem dX3_tray_27 : decode cX3_tray 27 = .ok (.ifCond .le 7, 3) := by decide +kernel
theorem dX3_tray_30 : decode cX3_tray 30 = .ok (.iconst 0, 1) := by decide +kernel
theorem dX3_tray_31 : decode cX3_tray 31 = .ok (.goto 9, 3) := by decide +kernel
theorem dX3_tray_34 : decode cX3_tray 34 = .ok (.aload_n 0, 1) := by decide +kernel
theorem dX3_tray_35 : decode cX3_tray 35 = .ok (.getfield 13, 3) := by decide +kernel
theorem dX3_tray_38 : decode cX3_tray 38 = .ok (.iload_n 1, 1) := by decide +kernel
theorem dX3_tray_39 : decode cX3_tray 39 = .ok (.iaload, 1) := by decide +kernel
theorem dX3_tray_40 : decode cX3_tray 40 = .ok (.ireturn, 1) := by decide +kernel
set_option maxRecDepth 20000 in
theorem ggX3_told_X3_isItem : GoodIn wsX3_told wsX3_isItem := goodIn_r _ [13, 14, 15, 16, 12, 17, 23, 24, 25, 26, 27, 28, 29, 30, 31, 32, 33, 34, 35, 36, 37, 38, 39, 40, 41, 42, 43, 44, 45] (by decide +kernel) (by decide +kernel)
set_option maxRecDepth 20000 in
theorem gX3_told_X3_isItem : GoodIn wsX3_told (wsV RX3 84 RX3 yX3_isItem wsX3_isItem) := goodIn_app (goodIn_of _ (by decide +kernel)) ggX3_told_X3_isItem
set_option maxRecDepth 20000 in
theorem ggX3_told_X3_in : GoodIn wsX3_told wsX3_in := goodIn_r _ [17] (by decide +kernel) (by decide +kernel)
set_option maxRecDepth 20000 in
theorem gX3_told_X3_in : GoodIn wsX3_told (va_wsS RX3 69 yX3_in wsX3_in) := goodIn_app (goodIn_of _ (by decide +kernel)) ggX3_told_X3_in
set_option maxRecDepth 20000 in
theorem ggX3_told_X3_trayOf : GoodIn wsX3_told wsX3_trayOf := goodIn_r _ [21, 8, 22, 23, 24, 25, 26, 27, 28, 29, 30, 31, 32, 33, 34, 35, 36, 37, 38, 39, 40, 41, 42, 43, 44, 45] (by decide +kernel) (by decide +kernel)
set_option maxRecDepth 20000 in
theorem gX3_told_X3_trayOf : GoodIn wsX3_told (wsV RX3 115 RX3 yX3_trayOf wsX3_trayOf) := goodIn_app (goodIn_of _ (by decide +kernel)) ggX3_told_X3_trayOf
theorem dX3_told_0 : decode cX3_told 0 = .ok (.aload_n 0, 1) := by decide +kernel
theorem dX3_told_1 : decode cX3_told 1 = .ok (.aload_n 0, 1) := by decide +kernel
theorem dX3_told_2 : decode cX3_told 2 = .ok (.iload_n 1, 1) := by decide +kernel
theorem dX3_told_3 : decode cX3_told 3 = .ok (.invokevirtual 84, 3) := by decide +kernel
theorem dX3_told_6 : decode cX3_told 6 = .ok (.ifCond .eq 13, 3) := by decide +kernel
theorem dX3_told_9 : decode cX3_told 9 = .ok (.iload_n 2, 1) := by decide +kernel
theorem dX3_told_10 : decode cX3_told 10 = .ok (.iconst 0, 1) := by decide +kernel
theorem dX3_told_11 : decode cX3_told 11 = .ok (.bipush 6, 2) := by decide +kernel
theorem dX3_told_13 : decode cX3_told 13 = .ok (.invokestatic 69, 3) := by decide +kernel
theorem dX3_told_16 : decode cX3_told 16 = .ok (.ifCond .ne 7, 3) := by decide +kernel
theorem dX3_told_19 : decode cX3_told 19 = .ok (.iconst 1, 1) := by decide +kernel
theorem dX3_told_20 : decode cX3_told 20 = .ok (.goto 4, 3) := by decide +kernel
theorem dX3_told_23 : decode cX3_told 23 = .ok (.iconst 0, 1) := by decide +kernel
theorem dX3_told_24 : decode cX3_told 24 = .ok (.putfield 63, 3) := by decide +kernel
theorem dX3_told_27 : decode cX3_told 27 = .ok (.aload_n 0, 1) := by decide +kernel
theorem dX3_told_28 : decode cX3_told 28 = .ok (.getfield 63, 3) := by decide +kernel
theorem dX3_told_31 : decode cX3_told 31 = .ok (.ifCond .le 5, 3) := by decide +kernel
theorem dX3_told_34 : decode cX3_told 34 = .ok (.iconst 0, 1) := by decide +kernel
theorem dX3_told_35 : decode cX3_told 35 = .ok (.ireturn, 1) := by decide +kernel
theorem dX3_told_36 : decode cX3_told 36 = .ok (.iload_n 2, 1) := by decide +kernel
theorem dX3_told_37 : decode cX3_told 37 = .ok (.ifCond .ne 10, 3) := by decide +kernel
theorem dX3_told_40 : decode cX3_told 40 = .ok (.aload_n 0, 1) := by decide +kernel
theorem dX3_told_41 : decode cX3_told 41 = .ok (.getfield 24, 3) := by decide +kernel
theorem dX3_told_44 : decode cX3_told 44 = .ok (.iload_n 1, 1) := by decide +kernel
theorem dX3_told_45 : decode cX3_told 45 = .ok (.iaload, 1) := by decide +kernel
theorem dX3_told_46 : decode cX3_told 46 = .ok (.ireturn, 1) := by decide +kernel
theorem dX3_told_47 : decode cX3_told 47 = .ok (.iload_n 2, 1) := by decide +kernel
theorem dX3_told_48 : decode cX3_told 48 = .ok (.iconst 1, 1) := by decide +kernel
theorem dX3_told_49 : decode cX3_told 49 = .ok (.if_icmp .ne 10, 3) := by decide +kernel
theorem dX3_told_52 : decode cX3_told 52 = .ok (.aload_n 0, 1) := by decide +kernel
theorem dX3_told_53 : decode cX3_told 53 = .ok (.getfield 27, 3) := by decide +kernel
theorem dX3_told_56 : decode cX3_told 56 = .ok (.iload_n 1, 1) := by decide +kernel
theorem dX3_told_57 : decode cX3_told 57 = .ok (.iaload, 1) := by decide +kernel
theorem dX3_told_58 : decode cX3_told 58 = .ok (.ireturn, 1) := by decide +kernel
theorem dX3_told_59 : decode cX3_told 59 = .ok (.iload_n 2, 1) := by decide +kernel
theorem dX3_told_60 : decode cX3_told 60 = .ok (.iconst 2, 1) := by decide +kernel
theorem dX3_told_61 : decode cX3_told 61 = .ok (.if_icmp .ne 10, 3) := by decide +kernel
theorem dX3_told_64 : decode cX3_told 64 = .ok (.aload_n 0, 1) := by decide +kernel
theorem dX3_told_65 : decode cX3_told 65 = .ok (.getfield 30, 3) := by decide +kernel
theorem dX3_told_68 : decode cX3_told 68 = .ok (.iload_n 1, 1) := by decide +kernel
theorem dX3_told_69 : decode cX3_told 69 = .ok (.iaload, 1) := by decide +kernel
theorem dX3_told_70 : decode cX3_told 70 = .ok (.ireturn, 1) := by decide +kernel
theorem dX3_told_71 : decode cX3_told 71 = .ok (.iload_n 2, 1) := by decide +kernel
theorem dX3_told_72 : decode cX3_told 72 = .ok (.iconst 3, 1) := by decide +kernel
theorem dX3_told_73 : decode cX3_told 73 = .ok (.if_icmp .ne 10, 3) := by decide +kernel
theorem dX3_told_76 : decode cX3_told 76 = .ok (.aload_n 0, 1) := by decide +kernel
theorem dX3_told_77 : decode cX3_told 77 = .ok (.getfield 21, 3) := by decide +kernel
theorem dX3_told_80 : decode cX3_told 80 = .ok (.iload_n 1, 1) := by decide +kernel
theorem dX3_told_81 : decode cX3_told 81 = .ok (.iaload, 1) := by decide +kernel
theorem dX3_told_82 : decode cX3_told 82 = .ok (.ireturn, 1) := by decide +kernel
theorem dX3_told_83 : decode cX3_told 83 = .ok (.iload_n 2, 1) := by decide +kernel
theorem dX3_told_84 : decode cX3_told 84 = .ok (.bipush 6, 2) := by decide +kernel
theorem dX3_told_86 : decode cX3_told 86 = .ok (.if_icmp .ne 10, 3) := by decide +kernel
theorem dX3_told_89 : decode cX3_told 89 = .ok (.aload_n 0, 1) := by decide +kernel
theorem dX3_told_90 : decode cX3_told 90 = .ok (.getfield 33, 3) := by decide +kernel
theorem dX3_told_93 : decode cX3_told 93 = .ok (.iload_n 1, 1) := by decide +kernel
theorem dX3_told_94 : decode cX3_told 94 = .ok (.iaload, 1) := by decide +kernel
theorem dX3_told_95 : decode cX3_told 95 = .ok (.ireturn, 1) := by decide +kernel
theorem dX3_told_96 : decode cX3_told 96 = .ok (.aload_n 0, 1) := by decide +kernel
theorem dX3_told_97 : decode cX3_told 97 = .ok (.iload_n 1, 1) := by decide +kernel
theorem dX3_told_98 : decode cX3_told 98 = .ok (.invokevirtual 115, 3) := by decide +kernel
theorem dX3_told_101 : decode cX3_told 101 = .ok (.istore_n 3, 1) := by decide +kernel
theorem dX3_told_102 : decode cX3_told 102 = .ok (.iload_n 3, 1) := by decide +kernel
theorem dX3_told_103 : decode cX3_told 103 = .ok (.iconst (-1), 1) := by decide +kernel
theorem dX3_told_104 : decode cX3_told 104 = .ok (.if_icmp .ne 7, 3) := by decide +kernel
theorem dX3_told_107 : decode cX3_told 107 = .ok (.iconst (-1), 1) := by decide +kernel
theorem dX3_told_108 : decode cX3_told 108 = .ok (.goto 23, 3) := by decide +kernel
theorem dX3_told_111 : decode cX3_told 111 = .ok (.iload_n 2, 1) := by decide +kernel
theorem dX3_told_112 : decode cX3_told 112 = .ok (.iconst 4, 1) := by decide +kernel
theorem dX3_told_113 : decode cX3_told 113 = .ok (.if_icmp .ne 7, 3) := by decide +kernel
theorem dX3_told_116 : decode cX3_told 116 = .ok (.iload_n 3, 1) := by decide +kernel
theorem dX3_told_117 : decode cX3_told 117 = .ok (.goto 14, 3) := by decide +kernel
theorem dX3_told_120 : decode cX3_told 120 = .ok (.iload_n 3, 1) := by decide +kernel
theorem dX3_told_121 : decode cX3_told 121 = .ok (.aload_n 0, 1) := by decide +kernel
theorem dX3_told_122 : decode cX3_told 122 = .ok (.getfield 81, 3) := by decide +kernel
theorem dX3_told_125 : decode cX3_told 125 = .ok (.iadd, 1) := by decide +kernel
theorem dX3_told_126 : decode cX3_told 126 = .ok (.aload_n 0, 1) := by decide +kernel
theorem dX3_told_127 : decode cX3_told 127 = .ok (.getfield 57, 3) := by decide +kernel
theorem dX3_told_130 : decode cX3_told 130 = .ok (.irem, 1) := by decide +kernel
theorem dX3_told_131 : decode cX3_told 131 = .ok (.ireturn, 1) := by decide +kernel
set_option maxRecDepth 20000 in
theorem ggX3_count_X3_chutes : GoodIn wsX3_count wsX3_chutes := goodIn_r _ [12, 2, 13, 14, 15, 16, 17, 18, 19, 20, 21, 22, 23, 24, 25, 26, 27, 28, 29, 30, 31, 32, 33, 34, 35] (by decide +kernel) (by decide +kernel)
set_option maxRecDepth 20000 in
theorem gX3_count_X3_chutes : GoodIn wsX3_count (wsV RX3 73 RX3 yX3_chutes wsX3_chutes) := goodIn_app (goodIn_of _ (by decide +kernel)) ggX3_count_X3_chutes
theorem dX3_count_0 : decode cX3_count 0 = .ok (.aload_n 0, 1) := by decide +kernel
theorem dX3_count_1 : decode cX3_count 1 = .ok (.iconst 0, 1) := by decide +kernel
theorem dX3_count_2 : decode cX3_count 2 = .ok (.putfield 63, 3) := by decide +kernel
theorem dX3_count_5 : decode cX3_count 5 = .ok (.iload_n 1, 1) := by decide +kernel
theorem dX3_count_6 : decode cX3_count 6 = .ok (.ifCond .ne 8, 3) := by decide +kernel
theorem dX3_count_9 : decode cX3_count 9 = .ok (.aload_n 0, 1) := by decide +kernel
theorem dX3_count_10 : decode cX3_count 10 = .ok (.getfield 57, 3) := by decide +kernel
theorem dX3_count_13 : decode cX3_count 13 = .ok (.ireturn, 1) := by decide +kernel
theorem dX3_count_14 : decode cX3_count 14 = .ok (.iload_n 1, 1) := by decide +kernel
theorem dX3_count_15 : decode cX3_count 15 = .ok (.iconst 1, 1) := by decide +kernel
theorem dX3_count_16 : decode cX3_count 16 = .ok (.if_icmp .ne 8, 3) := by decide +kernel
theorem dX3_count_19 : decode cX3_count 19 = .ok (.aload_n 0, 1) := by decide +kernel
theorem dX3_count_20 : decode cX3_count 20 = .ok (.getfield 66, 3) := by decide +kernel
theorem dX3_count_23 : decode cX3_count 23 = .ok (.ireturn, 1) := by decide +kernel
theorem dX3_count_24 : decode cX3_count 24 = .ok (.iload_n 1, 1) := by decide +kernel
theorem dX3_count_25 : decode cX3_count 25 = .ok (.iconst 3, 1) := by decide +kernel
theorem dX3_count_26 : decode cX3_count 26 = .ok (.if_icmp .ne 8, 3) := by decide +kernel
theorem dX3_count_29 : decode cX3_count 29 = .ok (.aload_n 0, 1) := by decide +kernel
theorem dX3_count_30 : decode cX3_count 30 = .ok (.getfield 81, 3) := by decide +kernel
theorem dX3_count_33 : decode cX3_count 33 = .ok (.ireturn, 1) := by decide +kernel
theorem dX3_count_34 : decode cX3_count 34 = .ok (.iload_n 1, 1) := by decide +kernel
theorem dX3_count_35 : decode cX3_count 35 = .ok (.iconst 4, 1) := by decide +kernel
theorem dX3_count_36 : decode cX3_count 36 = .ok (.if_icmp .ne 8, 3) := by decide +kernel
theorem dX3_count_39 : decode cX3_count 39 = .ok (.aload_n 0, 1) := by decide +kernel
theorem dX3_count_40 : decode cX3_count 40 = .ok (.invokevirtual 73, 3) := by decide +kernel
theorem dX3_count_43 : decode cX3_count 43 = .ok (.ireturn, 1) := by decide +kernel
theorem dX3_count_44 : decode cX3_count 44 = .ok (.iload_n 1, 1) := by decide +kernel
theorem dX3_count_45 : decode cX3_count 45 = .ok (.bipush 6, 2) := by decide +kernel
theorem dX3_count_47 : decode cX3_count 47 = .ok (.if_icmp .ne 16, 3) := by decide +kernel
theorem dX3_count_50 : decode cX3_count 50 = .ok (.aload_n 0, 1) := by decide +kernel
theorem dX3_count_51 : decode cX3_count 51 = .ok (.getfield 94, 3) := by decide +kernel
theorem dX3_count_54 : decode cX3_count 54 = .ok (.ifCond .eq 7, 3) := by decide +kernel
theorem dX3_count_57 : decode cX3_count 57 = .ok (.iconst 1, 1) := by decide +kernel
theorem dX3_count_58 : decode cX3_count 58 = .ok (.goto 4, 3) := by decide +kernel
theorem dX3_count_61 : decode cX3_count 61 = .ok (.iconst 0, 1) := by decide +kernel
theorem dX3_count_62 : decode cX3_count 62 = .ok (.ireturn, 1) := by decide +kernel
theorem dX3_count_63 : decode cX3_count 63 = .ok (.iconst 0, 1) := by decide +kernel
theorem dX3_count_64 : decode cX3_count 64 = .ok (.istore_n 2, 1) := by decide +kernel
theorem dX3_count_65 : decode cX3_count 65 = .ok (.iconst 0, 1) := by decide +kernel
theorem dX3_count_66 : decode cX3_count 66 = .ok (.istore_n 3, 1) := by decide +kernel
theorem dX3_count_67 : decode cX3_count 67 = .ok (.iload_n 3, 1) := by decide +kernel
theorem dX3_count_68 : decode cX3_count 68 = .ok (.aload_n 0, 1) := by decide +kernel
theorem dX3_count_69 : decode cX3_count 69 = .ok (.getfield 57, 3) := by decide +kernel
theorem dX3_count_72 : decode cX3_count 72 = .ok (.if_icmp .ge 31, 3) := by decide +kernel
theorem dX3_count_75 : decode cX3_count 75 = .ok (.iload_n 1, 1) := by decide +kernel
theorem dX3_count_76 : decode cX3_count 76 = .ok (.iconst 2, 1) := by decide +kernel
theorem dX3_count_77 : decode cX3_count 77 = .ok (.if_icmp .ne 26, 3) := by decide +kernel
theorem dX3_count_80 : decode cX3_count 80 = .ok (.iload_n 2, 1) := by decide +kernel
theorem dX3_count_81 : decode cX3_count 81 = .ok (.aload_n 0, 1) := by decide +kernel
theorem dX3_count_82 : decode cX3_count 82 = .ok (.getfield 13, 3) := by decide +kernel
theorem dX3_count_85 : decode cX3_count 85 = .ok (.iload_n 3, 1) := by decide +kernel
theorem dX3_count_86 : decode cX3_count 86 = .ok (.iaload, 1) := by decide +kernel
theorem dX3_count_87 : decode cX3_count 87 = .ok (.ifCond .ne 7, 3) := by decide +kernel
theorem dX3_count_90 : decode cX3_count 90 = .ok (.iconst 1, 1) := by decide +kernel
theorem dX3_count_91 : decode cX3_count 91 = .ok (.goto 4, 3) := by decide +kernel
theorem dX3_count_94 : decode cX3_count 94 = .ok (.iconst 0, 1) := by decide +kernel
theorem dX3_count_95 : decode cX3_count 95 = .ok (.iadd, 1) := by decide +kernel
theorem dX3_count_96 : decode cX3_count 96 = .ok (.istore_n 2, 1) := by decide +kernel
theorem dX3_count_97 : decode cX3_count 97 = .ok (.iinc 3 1, 3) := by decide +kernel
theorem dX3_count_100 : decode cX3_count 100 = .ok (.goto (-33), 3) := by decide +kernel
theorem dX3_count_103 : decode cX3_count 103 = .ok (.iconst 1, 1) := by decide +kernel
theorem dX3_count_104 : decode cX3_count 104 = .ok (.istore_n 3, 1) := by decide +kernel
theorem dX3_count_105 : decode cX3_count 105 = .ok (.iload_n 3, 1) := by decide +kernel
theorem dX3_count_106 : decode cX3_count 106 = .ok (.aload_n 0, 1) := by decide +kernel
theorem dX3_count_107 : decode cX3_count 107 = .ok (.getfield 66, 3) := by decide +kernel
theorem dX3_count_110 : decode cX3_count 110 = .ok (.if_icmp .gt 32, 3) := by decide +kernel
theorem dX3_count_113 : decode cX3_count 113 = .ok (.iload_n 1, 1) := by decide +kernel
theorem dX3_count_114 : decode cX3_count 114 = .ok (.iconst 5, 1) := by decide +kernel
theorem dX3_count_115 : decode cX3_count 115 = .ok (.if_icmp .ne 27, 3) := by decide +kernel
theorem dX3_count_118 : decode cX3_count 118 = .ok (.iload_n 2, 1) := by decide +kernel
theorem dX3_count_119 : decode cX3_count 119 = .ok (.aload_n 0, 1) := by decide +kernel
theorem dX3_count_120 : decode cX3_count 120 = .ok (.getfield 24, 3) := by decide +kernel
theorem dX3_count_123 : decode cX3_count 123 = .ok (.iload_n 3, 1) := by decide +kernel
theorem dX3_count_124 : decode cX3_count 124 = .ok (.iaload, 1) := by decide +kernel
theorem dX3_count_125 : decode cX3_count 125 = .ok (.iconst 2, 1) := by decide +kernel
theorem dX3_count_126 : decode cX3_count 126 = .ok (.if_icmp .ne 7, 3) := by decide +kernel
theorem dX3_count_129 : decode cX3_count 129 = .ok (.iconst 1, 1) := by decide +kernel
theorem dX3_count_130 : decode cX3_count 130 = .ok (.goto 4, 3) := by decide +kernel
theorem dX3_count_133 : decode cX3_count 133 = .ok (.iconst 0, 1) := by decide +kernel
theorem dX3_count_134 : decode cX3_count 134 = .ok (.iadd, 1) := by decide +kernel
theorem dX3_count_135 : decode cX3_count 135 = .ok (.istore_n 2, 1) := by decide +kernel
theorem dX3_count_136 : decode cX3_count 136 = .ok (.iinc 3 1, 3) := by decide +kernel
theorem dX3_count_139 : decode cX3_count 139 = .ok (.goto (-34), 3) := by decide +kernel
theorem dX3_count_142 : decode cX3_count 142 = .ok (.iload_n 1, 1) := by decide +kernel
theorem dX3_count_143 : decode cX3_count 143 = .ok (.iconst 2, 1) := by decide +kernel
theorem dX3_count_144 : decode cX3_count 144 = .ok (.if_icmp .eq 8, 3) := by decide +kernel
theorem dX3_count_147 : decode cX3_count 147 = .ok (.iload_n 1, 1) := by decide +kernel
theorem dX3_count_148 : decode cX3_count 148 = .ok (.iconst 5, 1) := by decide +kernel
theorem dX3_count_149 : decode cX3_count 149 = .ok (.if_icmp .ne 7, 3) := by decide +kernel
theorem dX3_count_152 : decode cX3_count 152 = .ok (.iload_n 2, 1) := by decide +kernel
theorem dX3_count_153 : decode cX3_count 153 = .ok (.goto 4, 3) := by decide +kernel
theorem dX3_count_156 : decode cX3_count 156 = .ok (.iconst (-1), 1) := by decide +kernel
theorem dX3_count_157 : decode cX3_count 157 = .ok (.ireturn, 1) := by decide +kernel
theorem dJx00060_init_a7421_0 : decode cJx00060_init_a7421 0 = .ok (.aload_n 0, 1) := by decide +kernel
theorem dJx00060_init_a7421_1 : decode cJx00060_init_a7421 1 = .ok (.aload_n 1, 1) := by decide +kernel
theorem dJx00060_init_a7421_2 : decode cJx00060_init_a7421 2 = .ok (.invokespecial 7, 3) := by decide +kernel
theorem dJx00060_init_a7421_5 : decode cJx00060_init_a7421 5 = .ok (.return_, 1) := by decide +kernel
theorem dJ9_max_7cf53_0 : decode cJ9_max_7cf53 0 = .ok (.iload_n 0, 1) := by decide +kernel
theorem dJ9_max_7cf53_1 : decode cJ9_max_7cf53 1 = .ok (.iload_n 1, 1) := by decide +kernel
theorem dJ9_max_7cf53_2 : decode cJ9_max_7cf53 2 = .ok (.if_icmp .lt 7, 3) := by decide +kernel
theorem dJ9_max_7cf53_5 : decode cJ9_max_7cf53 5 = .ok (.iload_n 0, 1) := by decide +kernel
theorem dJ9_max_7cf53_6 : decode cJ9_max_7cf53 6 = .ok (.goto 4, 3) := by decide +kernel
theorem dJ9_max_7cf53_9 : decode cJ9_max_7cf53 9 = .ok (.iload_n 1, 1) := by decide +kernel
theorem dJ9_max_7cf53_10 : decode cJ9_max_7cf53 10 = .ok (.ireturn, 1) := by decide +kernel
theorem dJ9_min_7cf53_0 : decode cJ9_min_7cf53 0 = .ok (.iload_n 0, 1) := by decide +kernel
theorem dJ9_min_7cf53_1 : decode cJ9_min_7cf53 1 = .ok (.iload_n 1, 1) := by decide +kernel
theorem dJ9_min_7cf53_2 : decode cJ9_min_7cf53 2 = .ok (.if_icmp .gt 7, 3) := by decide +kernel
theorem dJ9_min_7cf53_5 : decode cJ9_min_7cf53 5 = .ok (.iload_n 0, 1) := by decide +kernel
theorem dJ9_min_7cf53_6 : decode cJ9_min_7cf53 6 = .ok (.goto 4, 3) := by decide +kernel
theorem dJ9_min_7cf53_9 : decode cJ9_min_7cf53 9 = .ok (.iload_n 1, 1) := by decide +kernel
theorem dJ9_min_7cf53_10 : decode cJ9_min_7cf53 10 = .ok (.ireturn, 1) := by decide +kernel
theorem dL_cell_0 : decode cL_cell 0 = .ok (.iload_n 1, 1) := by decide +kernel
theorem dL_cell_1 : decode cL_cell 1 = .ok (.aload_n 0, 1) := by decide +kernel
theorem dL_cell_2 : decode cL_cell 2 = .ok (.arraylength, 1) := by decide +kernel
theorem dL_cell_3 : decode cL_cell 3 = .ok (.if_icmp .ge 9, 3) := by decide +kernel
theorem dL_cell_6 : decode cL_cell 6 = .ok (.aload_n 0, 1) := by decide +kernel
theorem dL_cell_7 : decode cL_cell 7 = .ok (.iload_n 1, 1) := by decide +kernel
theorem dL_cell_8 : decode cL_cell 8 = .ok (.iaload, 1) := by decide +kernel
theorem dL_cell_9 : decode cL_cell 9 = .ok (.goto 4, 3) := by decide +kernel
theorem dL_cell_12 : decode cL_cell 12 = .ok (.iconst 0, 1) := by decide +kernel
theorem dL_cell_13 : decode cL_cell 13 = .ok (.ireturn, 1) := by decide +kernel
set_option maxRecDepth 20000 in
theorem ggL_item_X2_item : GoodIn wsL_item wsX2_item := goodIn_ca (goodIn_ca (goodIn_r _ [7, 8, 9, 10, 11, 12, 13, 14, 15, 16, 17, 6, 18, 19, 20, 21, 22, 23, 24, 25, 26, 27, 28, 29, 30, 31, 32, 33, 34, 35, 36, 37, 38, 39, 40, 41, 42, 43, 44, 45, 46, 47, 48, 49, 50, 51, 52, 53, 54, 55, 56, 57, 58, 59, 60, 61, 62, 63, 64, 65, 66, 67, 68, 69, 70, 71] (by decide +kernel) (by decide +kernel)) (goodIn_sub (fun _ h => List.mem_cons_of_mem _ (List.mem_append_left _ (List.mem_append_right _ h))) (by decide +kernel))) (goodIn_sub (fun _ h => List.mem_cons_of_mem _ (List.mem_append_right _ h)) (by decide +kernel))
set_option maxRecDepth 20000 in
theorem gL_item_X2_item : GoodIn wsL_item (wsV RL 7 RX2 yX2_item wsX2_item) := goodIn_app (goodIn_of _ (by decide +kernel)) ggL_item_X2_item
theorem dL_item_0 : decode cL_item 0 = .ok (.aload_n 2, 1) := by decide +kernel
theorem dL_item_1 : decode cL_item 1 = .ok (.iconst 0, 1) := by decide +kernel
theorem dL_item_2 : decode cL_item 2 = .ok (.aload_n 0, 1) := by decide +kernel
theorem dL_item_3 : decode cL_item 3 = .ok (.iload_n 1, 1) := by decide +kernel
theorem dL_item_4 : decode cL_item 4 = .ok (.invokevirtual 7, 3) := by decide +kernel
theorem dL_item_7 : decode cL_item 7 = .ok (.i2l, 1) := by decide +kernel
theorem dL_item_8 : decode cL_item 8 = .ok (.lastore, 1) := by decide +kernel
theorem dL_item_9 : decode cL_item 9 = .ok (.goto 9, 3) := by decide +kernel
theorem dL_item_12 : decode cL_item 12 = .ok (.astore_n 3, 1) := by decide +kernel
theorem dL_item_13 : decode cL_item 13 = .ok (.iconst 1, 1) := by decide +kernel
theorem dL_item_14 : decode cL_item 14 = .ok (.ireturn, 1) := by decide +kernel
theorem dL_item_15 : decode cL_item 15 = .ok (.astore_n 3, 1) := by decide +kernel
theorem dL_item_16 : decode cL_item 16 = .ok (.iconst 2, 1) := by decide +kernel
theorem dL_item_17 : decode cL_item 17 = .ok (.ireturn, 1) := by decide +kernel
theorem dL_item_18 : decode cL_item 18 = .ok (.iconst 0, 1) := by decide +kernel
theorem dL_item_19 : decode cL_item 19 = .ok (.ireturn, 1) := by decide +kernel
set_option maxRecDepth 20000 in
theorem ggL_induct_X2_induct : GoodIn wsL_induct wsX2_induct := goodIn_ca (goodIn_ca (goodIn_r _ [7, 8, 9, 10, 11, 12, 13, 14, 15, 16, 6, 17, 18, 19, 20, 21, 22, 23, 24, 25, 26, 27, 28, 29, 30, 31, 32, 33, 34, 35, 36, 37, 38, 39, 40, 41, 42, 43, 44, 45, 46, 47, 48, 49, 50, 51, 52, 53, 54, 55, 56, 57, 58, 59, 60, 61, 62, 63, 64, 65, 66, 67, 68, 69, 70, 71, 72, 73, 74, 75, 76, 77, 78, 79, 80, 81, 82, 83, 84, 85, 86, 87, 88, 89, 90, 91, 92] (by decide +kernel) (by decide +kernel)) (goodIn_sub (fun _ h => List.mem_cons_of_mem _ (List.mem_append_left _ (List.mem_append_right _ h))) (by decide +kernel))) (goodIn_sub (fun _ h => List.mem_cons_of_mem _ (List.mem_append_right _ h)) (by decide +kernel))
set_option maxRecDepth 20000 in
theorem gL_induct_X2_induct : GoodIn wsL_induct (wsV RL 17 RX2 yX2_induct wsX2_induct) := goodIn_app (goodIn_of _ (by decide +kernel)) ggL_induct_X2_induct
theorem dL_induct_0 : decode cL_induct 0 = .ok (.aload 4, 2) := by decide +kernel
theorem dL_induct_2 : decode cL_induct 2 = .ok (.iconst 0, 1) := by decide +kernel
theorem dL_induct_3 : decode cL_induct 3 = .ok (.aload_n 0, 1) := by decide +kernel
theorem dL_induct_4 : decode cL_induct 4 = .ok (.iload_n 1, 1) := by decide +kernel
theorem dL_induct_5 : decode cL_induct 5 = .ok (.iload_n 2, 1) := by decide +kernel
theorem dL_induct_6 : decode cL_induct 6 = .ok (.iload_n 3, 1) := by decide +kernel
theorem dL_induct_7 : decode cL_induct 7 = .ok (.invokevirtual 17, 3) := by decide +kernel
theorem dL_induct_10 : decode cL_induct 10 = .ok (.i2l, 1) := by decide +kernel
theorem dL_induct_11 : decode cL_induct 11 = .ok (.lastore, 1) := by decide +kernel
theorem dL_induct_12 : decode cL_induct 12 = .ok (.goto 11, 3) := by decide +kernel
theorem dL_induct_15 : decode cL_induct 15 = .ok (.astore 5, 2) := by decide +kernel
theorem dL_induct_17 : decode cL_induct 17 = .ok (.iconst 1, 1) := by decide +kernel
theorem dL_induct_18 : decode cL_induct 18 = .ok (.ireturn, 1) := by decide +kernel
theorem dL_induct_19 : decode cL_induct 19 = .ok (.astore 5, 2) := by decide +kernel
theorem dL_induct_21 : decode cL_induct 21 = .ok (.iconst 2, 1) := by decide +kernel
theorem dL_induct_22 : decode cL_induct 22 = .ok (.ireturn, 1) := by decide +kernel
theorem dL_induct_23 : decode cL_induct 23 = .ok (.iconst 0, 1) := by decide +kernel
theorem dL_induct_24 : decode cL_induct 24 = .ok (.ireturn, 1) := by decide +kernel
set_option maxRecDepth 20000 in
theorem ggL_length_X2_length : GoodIn wsL_length wsX2_length := goodIn_ca (goodIn_r _ [6, 7, 8, 9, 10, 11, 12, 5, 13, 14, 15, 16, 17, 18, 19, 20, 21, 22, 23, 24, 25, 26, 27, 28, 29, 30, 31, 32, 33, 34, 35, 36, 37] (by decide +kernel) (by decide +kernel)) (goodIn_sub (fun _ h => List.mem_cons_of_mem _ (List.mem_append_right _ h)) (by decide +kernel))
set_option maxRecDepth 20000 in
theorem gL_length_X2_length : GoodIn wsL_length (wsV RL 23 RX2 yX2_length wsX2_length) := goodIn_app (goodIn_of _ (by decide +kernel)) ggL_length_X2_length
theorem dL_length_0 : decode cL_length 0 = .ok (.aload_n 2, 1) := by decide +kernel
theorem dL_length_1 : decode cL_length 1 = .ok (.iconst 0, 1) := by decide +kernel
theorem dL_length_2 : decode cL_length 2 = .ok (.aload_n 0, 1) := by decide +kernel
theorem dL_length_3 : decode cL_length 3 = .ok (.iload_n 1, 1) := by decide +kernel
theorem dL_length_4 : decode cL_length 4 = .ok (.invokevirtual 23, 3) := by decide +kernel
theorem dL_length_7 : decode cL_length 7 = .ok (.i2l, 1) := by decide +kernel
theorem dL_length_8 : decode cL_length 8 = .ok (.lastore, 1) := by decide +kernel
theorem dL_length_9 : decode cL_length 9 = .ok (.goto 6, 3) := by decide +kernel
theorem dL_length_12 : decode cL_length 12 = .ok (.astore_n 3, 1) := by decide +kernel
theorem dL_length_13 : decode cL_length 13 = .ok (.iconst 1, 1) := by decide +kernel
theorem dL_length_14 : decode cL_length 14 = .ok (.ireturn, 1) := by decide +kernel
theorem dL_length_15 : decode cL_length 15 = .ok (.iconst 0, 1) := by decide +kernel
theorem dL_length_16 : decode cL_length 16 = .ok (.ireturn, 1) := by decide +kernel
set_option maxRecDepth 20000 in
theorem ggL_retry_X2_retry : GoodIn wsL_retry wsX2_retry := goodIn_ca (goodIn_ca (goodIn_r _ [7, 8, 9, 10, 11, 12, 13, 14, 15, 16, 17, 18, 6, 19, 20, 21, 22, 23, 24, 25, 26, 27, 28, 29, 30, 31, 32, 33, 34, 35, 36, 37, 38, 39, 40, 41, 42, 43, 44, 45, 46, 47, 48, 49, 50, 51, 52, 53, 54, 55, 56, 57, 58, 59, 60] (by decide +kernel) (by decide +kernel)) (goodIn_sub (fun _ h => List.mem_cons_of_mem _ (List.mem_append_left _ (List.mem_append_right _ h))) (by decide +kernel))) (goodIn_sub (fun _ h => List.mem_cons_of_mem _ (List.mem_append_right _ h)) (by decide +kernel))
set_option maxRecDepth 20000 in
theorem gL_retry_X2_retry : GoodIn wsL_retry (wsV RL 26 RX2 yX2_retry wsX2_retry) := goodIn_app (goodIn_of _ (by decide +kernel)) ggL_retry_X2_retry
theorem dL_retry_0 : decode cL_retry 0 = .ok (.aload_n 0, 1) := by decide +kernel
theorem dL_retry_1 : decode cL_retry 1 = .ok (.iload_n 1, 1) := by decide +kernel
theorem dL_retry_2 : decode cL_retry 2 = .ok (.iload_n 2, 1) := by decide +kernel
theorem dL_retry_3 : decode cL_retry 3 = .ok (.iload_n 3, 1) := by decide +kernel
theorem dL_retry_4 : decode cL_retry 4 = .ok (.invokevirtual 26, 3) := by decide +kernel
theorem dL_retry_7 : decode cL_retry 7 = .ok (.goto 11, 3) := by decide +kernel
theorem dL_retry_10 : decode cL_retry 10 = .ok (.astore 4, 2) := by decide +kernel
theorem dL_retry_12 : decode cL_retry 12 = .ok (.iconst 1, 1) := by decide +kernel
theorem dL_retry_13 : decode cL_retry 13 = .ok (.ireturn, 1) := by decide +kernel
theorem dL_retry_14 : decode cL_retry 14 = .ok (.astore 4, 2) := by decide +kernel
theorem dL_retry_16 : decode cL_retry 16 = .ok (.iconst 2, 1) := by decide +kernel
theorem dL_retry_17 : decode cL_retry 17 = .ok (.ireturn, 1) := by decide +kernel
theorem dL_retry_18 : decode cL_retry 18 = .ok (.iconst 0, 1) := by decide +kernel
theorem dL_retry_19 : decode cL_retry 19 = .ok (.ireturn, 1) := by decide +kernel
set_option maxRecDepth 20000 in
theorem ggL_step_X2_step : GoodIn wsL_step wsX2_step := goodIn_ca (goodIn_ca (goodIn_r _ [7, 8, 9, 10, 11, 12, 13, 6, 14, 15, 16, 17, 18, 19, 20, 21, 22, 23, 24, 25, 26, 27, 28, 29, 30, 31, 32, 33, 34, 35, 36, 37, 38, 39, 40, 41, 42, 43, 44, 45, 46, 47, 48, 49, 50, 51, 52, 53, 54, 55, 56, 57, 58, 59, 60, 61, 62, 63, 64, 65, 66, 67, 68, 69, 70, 71, 72, 73, 74, 75, 76, 77, 78, 79, 80, 81, 82, 83, 84, 85, 86, 87, 88, 89, 90, 91, 92, 93, 94, 95, 96, 97, 98, 99, 100, 101, 102, 103, 104, 105, 106, 107, 108, 109] (by decide +kernel) (by decide +kernel)) (goodIn_sub (fun _ h => List.mem_cons_of_mem _ (List.mem_append_left _ (List.mem_append_right _ h))) (by decide +kernel))) (goodIn_sub (fun _ h => List.mem_cons_of_mem _ (List.mem_append_right _ h)) (by decide +kernel))
set_option maxRecDepth 20000 in
theorem gL_step_X2_step : GoodIn wsL_step (wsV RL 30 RX2 yX2_step wsX2_step) := goodIn_app (goodIn_of _ (by decide +kernel)) ggL_step_X2_step
theorem dL_step_0 : decode cL_step 0 = .ok (.aload_n 2, 1) := by decide +kernel
theorem dL_step_1 : decode cL_step 1 = .ok (.iconst 0, 1) := by decide +kernel
theorem dL_step_2 : decode cL_step 2 = .ok (.aload_n 0, 1) := by decide +kernel
theorem dL_step_3 : decode cL_step 3 = .ok (.iload_n 1, 1) := by decide +kernel
theorem dL_step_4 : decode cL_step 4 = .ok (.invokevirtual 30, 3) := by decide +kernel
theorem dL_step_7 : decode cL_step 7 = .ok (.i2l, 1) := by decide +kernel
theorem dL_step_8 : decode cL_step 8 = .ok (.lastore, 1) := by decide +kernel
theorem dL_step_9 : decode cL_step 9 = .ok (.goto 9, 3) := by decide +kernel
theorem dL_step_12 : decode cL_step 12 = .ok (.astore_n 3, 1) := by decide +kernel
theorem dL_step_13 : decode cL_step 13 = .ok (.iconst 1, 1) := by decide +kernel
theorem dL_step_14 : decode cL_step 14 = .ok (.ireturn, 1) := by decide +kernel
theorem dL_step_15 : decode cL_step 15 = .ok (.astore_n 3, 1) := by decide +kernel
theorem dL_step_16 : decode cL_step 16 = .ok (.iconst 2, 1) := by decide +kernel
theorem dL_step_17 : decode cL_step 17 = .ok (.ireturn, 1) := by decide +kernel
theorem dL_step_18 : decode cL_step 18 = .ok (.iconst 0, 1) := by decide +kernel
theorem dL_step_19 : decode cL_step 19 = .ok (.ireturn, 1) := by decide +kernel
set_option maxRecDepth 20000 in
theorem ggL_out_X2_out : GoodIn wsL_out wsX2_out := goodIn_ca (goodIn_r _ [6, 7, 8, 9, 10, 11, 12, 13, 14, 15, 16, 17, 18, 19, 20, 21, 22, 23, 24, 25, 26, 27, 28, 29, 30, 31, 32, 33, 34, 35, 36, 37, 38, 39, 40, 41, 42, 43, 44] (by decide +kernel) (by decide +kernel)) (goodIn_sub (fun _ h => List.mem_cons_of_mem _ (List.mem_append_right _ h)) (by decide +kernel))
set_option maxRecDepth 20000 in
theorem gL_out_X2_out : GoodIn wsL_out (wsV RL 33 RX2 yX2_out wsX2_out) := goodIn_app (goodIn_of _ (by decide +kernel)) ggL_out_X2_out
theorem dL_out_0 : decode cL_out 0 = .ok (.aload_n 3, 1) := by decide +kernel
theorem dL_out_1 : decode cL_out 1 = .ok (.iconst 0, 1) := by decide +kernel
theorem dL_out_2 : decode cL_out 2 = .ok (.aload_n 0, 1) := by decide +kernel
theorem dL_out_3 : decode cL_out 3 = .ok (.iload_n 1, 1) := by decide +kernel
theorem dL_out_4 : decode cL_out 4 = .ok (.iload_n 2, 1) := by decide +kernel
theorem dL_out_5 : decode cL_out 5 = .ok (.invokevirtual 33, 3) := by decide +kernel
theorem dL_out_8 : decode cL_out 8 = .ok (.i2l, 1) := by decide +kernel
theorem dL_out_9 : decode cL_out 9 = .ok (.lastore, 1) := by decide +kernel
theorem dL_out_10 : decode cL_out 10 = .ok (.goto 7, 3) := by decide +kernel
theorem dL_out_13 : decode cL_out 13 = .ok (.astore 4, 2) := by decide +kernel
theorem dL_out_15 : decode cL_out 15 = .ok (.iconst 1, 1) := by decide +kernel
theorem dL_out_16 : decode cL_out 16 = .ok (.ireturn, 1) := by decide +kernel
theorem dL_out_17 : decode cL_out 17 = .ok (.iconst 0, 1) := by decide +kernel
theorem dL_out_18 : decode cL_out 18 = .ok (.ireturn, 1) := by decide +kernel
set_option maxRecDepth 20000 in
theorem ggL_chute_X2_chute : GoodIn wsL_chute wsX2_chute := goodIn_ca (goodIn_r _ [6, 7, 8, 9, 5, 10, 11, 12, 13, 14, 15, 16, 17, 18, 19, 20, 21, 22, 23, 24, 25, 26, 27, 28, 29, 30, 31, 32, 33, 34, 35] (by decide +kernel) (by decide +kernel)) (goodIn_sub (fun _ h => List.mem_cons_of_mem _ (List.mem_append_right _ h)) (by decide +kernel))
set_option maxRecDepth 20000 in
theorem gL_chute_X2_chute : GoodIn wsL_chute (wsV RL 37 RX2 yX2_chute wsX2_chute) := goodIn_app (goodIn_of _ (by decide +kernel)) ggL_chute_X2_chute
end
section
theorem dL_chute_0 : decode cL_chute 0 = .ok (.aload_n 3, 1) := by decide +kernel
theorem dL_chute_1 : decode cL_chute 1 = .ok (.iconst 0, 1) := by decide +kernel
theorem dL_chute_2 : decode cL_chute 2 = .ok (.aload_n 0, 1) := by decide +kernel
theorem dL_chute_3 : decode cL_chute 3 = .ok (.iload_n 1, 1) := by decide +kernel
theorem dL_chute_4 : decode cL_chute 4 = .ok (.iload_n 2, 1) := by decide +kernel
theorem dL_chute_5 : decode cL_chute 5 = .ok (.invokevirtual 37, 3) := by decide +kernel
theorem dL_chute_8 : decode cL_chute 8 = .ok (.ifCond .eq 7, 3) := by decide +kernel
theorem dL_chute_11 : decode cL_chute 11 = .ok (.lconst 1, 1) := by decide +kernel
theorem dL_chute_12 : decode cL_chute 12 = .ok (.goto 4, 3) := by decide +kernel
theorem dL_chute_15 : decode cL_chute 15 = .ok (.lconst 0, 1) := by decide +kernel
theorem dL_chute_16 : decode cL_chute 16 = .ok (.lastore, 1) := by decide +kernel
theorem dL_chute_17 : decode cL_chute 17 = .ok (.goto 7, 3) := by decide +kernel
theorem dL_chute_20 : decode cL_chute 20 = .ok (.astore 4, 2) := by decide +kernel
theorem dL_chute_22 : decode cL_chute 22 = .ok (.iconst 1, 1) := by decide +kernel
theorem dL_chute_23 : decode cL_chute 23 = .ok (.ireturn, 1) := by decide +kernel
theorem dL_chute_24 : decode cL_chute 24 = .ok (.iconst 0, 1) := by decide +kernel
theorem dL_chute_25 : decode cL_chute 25 = .ok (.ireturn, 1) := by decide +kernel
set_option maxRecDepth 20000 in
theorem ggL_jam_X2_jam : GoodIn wsL_jam wsX2_jam := goodIn_ca (goodIn_ca (goodIn_r _ [7, 8, 9, 10, 11, 12, 13, 14, 6, 15, 16, 17, 18, 19, 20, 21, 22, 23, 24, 25, 26, 27, 28, 29, 30, 31, 32, 33, 34, 35, 36, 37, 38, 39, 40, 41, 42, 43, 44, 45, 46, 47, 48, 49, 50, 51, 52, 53, 54, 55, 56, 57, 58, 59, 60, 61, 62, 63, 64, 65, 66, 67, 68, 69, 70, 71, 72, 73, 74, 75, 76, 77, 78, 79, 80] (by decide +kernel) (by decide +kernel)) (goodIn_sub (fun _ h => List.mem_cons_of_mem _ (List.mem_append_left _ (List.mem_append_right _ h))) (by decide +kernel))) (goodIn_sub (fun _ h => List.mem_cons_of_mem _ (List.mem_append_right _ h)) (by decide +kernel))
set_option maxRecDepth 20000 in
theorem gL_jam_X2_jam : GoodIn wsL_jam (wsV RL 41 RX2 yX2_jam wsX2_jam) := goodIn_app (goodIn_of _ (by decide +kernel)) ggL_jam_X2_jam
theorem dL_jam_0 : decode cL_jam 0 = .ok (.aload_n 3, 1) := by decide +kernel
theorem dL_jam_1 : decode cL_jam 1 = .ok (.iconst 0, 1) := by decide +kernel
theorem dL_jam_2 : decode cL_jam 2 = .ok (.aload_n 0, 1) := by decide +kernel
theorem dL_jam_3 : decode cL_jam 3 = .ok (.iload_n 1, 1) := by decide +kernel
theorem dL_jam_4 : decode cL_jam 4 = .ok (.iload_n 2, 1) := by decide +kernel
theorem dL_jam_5 : decode cL_jam 5 = .ok (.invokevirtual 41, 3) := by decide +kernel
theorem dL_jam_8 : decode cL_jam 8 = .ok (.i2l, 1) := by decide +kernel
theorem dL_jam_9 : decode cL_jam 9 = .ok (.lastore, 1) := by decide +kernel
theorem dL_jam_10 : decode cL_jam 10 = .ok (.goto 11, 3) := by decide +kernel
theorem dL_jam_13 : decode cL_jam 13 = .ok (.astore 4, 2) := by decide +kernel
theorem dL_jam_15 : decode cL_jam 15 = .ok (.iconst 1, 1) := by decide +kernel
theorem dL_jam_16 : decode cL_jam 16 = .ok (.ireturn, 1) := by decide +kernel
theorem dL_jam_17 : decode cL_jam 17 = .ok (.astore 4, 2) := by decide +kernel
theorem dL_jam_19 : decode cL_jam 19 = .ok (.iconst 2, 1) := by decide +kernel
theorem dL_jam_20 : decode cL_jam 20 = .ok (.ireturn, 1) := by decide +kernel
theorem dL_jam_21 : decode cL_jam 21 = .ok (.iconst 0, 1) := by decide +kernel
theorem dL_jam_22 : decode cL_jam 22 = .ok (.ireturn, 1) := by decide +kernel
set_option maxRecDepth 20000 in
theorem ggL_found_X2_found : GoodIn wsL_found wsX2_found := goodIn_ca (goodIn_ca (goodIn_r _ [7, 8, 9, 10, 11, 12, 13, 14, 6, 15, 16, 17, 18, 19, 20, 21, 22, 23, 24, 25, 26, 27, 28, 29, 30, 31, 32, 33, 34, 35, 36, 37, 38, 39, 40, 41, 42, 43, 44, 45, 46, 47, 48, 49, 50, 51, 52, 53, 54, 55, 56, 57, 58] (by decide +kernel) (by decide +kernel)) (goodIn_sub (fun _ h => List.mem_cons_of_mem _ (List.mem_append_left _ (List.mem_append_right _ h))) (by decide +kernel))) (goodIn_sub (fun _ h => List.mem_cons_of_mem _ (List.mem_append_right _ h)) (by decide +kernel))
set_option maxRecDepth 20000 in
theorem gL_found_X2_found : GoodIn wsL_found (wsV RL 44 RX2 yX2_found wsX2_found) := goodIn_app (goodIn_of _ (by decide +kernel)) ggL_found_X2_found
theorem dL_found_0 : decode cL_found 0 = .ok (.aload_n 3, 1) := by decide +kernel
theorem dL_found_1 : decode cL_found 1 = .ok (.iconst 0, 1) := by decide +kernel
theorem dL_found_2 : decode cL_found 2 = .ok (.aload_n 0, 1) := by decide +kernel
theorem dL_found_3 : decode cL_found 3 = .ok (.iload_n 1, 1) := by decide +kernel
theorem dL_found_4 : decode cL_found 4 = .ok (.iload_n 2, 1) := by decide +kernel
theorem dL_found_5 : decode cL_found 5 = .ok (.invokevirtual 44, 3) := by decide +kernel
theorem dL_found_8 : decode cL_found 8 = .ok (.i2l, 1) := by decide +kernel
theorem dL_found_9 : decode cL_found 9 = .ok (.lastore, 1) := by decide +kernel
theorem dL_found_10 : decode cL_found 10 = .ok (.goto 11, 3) := by decide +kernel
theorem dL_found_13 : decode cL_found 13 = .ok (.astore 4, 2) := by decide +kernel
theorem dL_found_15 : decode cL_found 15 = .ok (.iconst 1, 1) := by decide +kernel
theorem dL_found_16 : decode cL_found 16 = .ok (.ireturn, 1) := by decide +kernel
theorem dL_found_17 : decode cL_found 17 = .ok (.astore 4, 2) := by decide +kernel
theorem dL_found_19 : decode cL_found 19 = .ok (.iconst 2, 1) := by decide +kernel
theorem dL_found_20 : decode cL_found 20 = .ok (.ireturn, 1) := by decide +kernel
theorem dL_found_21 : decode cL_found 21 = .ok (.iconst 0, 1) := by decide +kernel
theorem dL_found_22 : decode cL_found 22 = .ok (.ireturn, 1) := by decide +kernel
set_option maxRecDepth 20000 in
theorem ggL_retrack_X2_retrack : GoodIn wsL_retrack wsX2_retrack := goodIn_ca (goodIn_r _ [6, 7, 8, 9, 10, 11, 12, 13, 14, 15, 16, 17, 18, 19, 20, 21, 22, 23, 24, 25, 5, 26, 27, 28, 29, 30, 31, 32, 33, 34, 35, 36, 37, 38, 39, 40, 41, 42, 43, 44, 45, 46, 47, 48, 49, 50, 51, 52, 53, 54, 55, 56, 57, 58, 59, 60, 61, 62, 63, 64, 65, 66, 67, 68, 69, 70, 71, 72, 73, 74, 75, 76, 77, 78] (by decide +kernel) (by decide +kernel)) (goodIn_sub (fun _ h => List.mem_cons_of_mem _ (List.mem_append_right _ h)) (by decide +kernel))
set_option maxRecDepth 20000 in
theorem gL_retrack_X2_retrack : GoodIn wsL_retrack (wsV RL 48 RX2 yX2_retrack wsX2_retrack) := goodIn_app (goodIn_of _ (by decide +kernel)) ggL_retrack_X2_retrack
theorem dL_retrack_0 : decode cL_retrack 0 = .ok (.aload_n 1, 1) := by decide +kernel
theorem dL_retrack_1 : decode cL_retrack 1 = .ok (.iconst 0, 1) := by decide +kernel
theorem dL_retrack_2 : decode cL_retrack 2 = .ok (.aload_n 0, 1) := by decide +kernel
theorem dL_retrack_3 : decode cL_retrack 3 = .ok (.invokevirtual 48, 3) := by decide +kernel
theorem dL_retrack_6 : decode cL_retrack 6 = .ok (.i2l, 1) := by decide +kernel
theorem dL_retrack_7 : decode cL_retrack 7 = .ok (.lastore, 1) := by decide +kernel
theorem dL_retrack_8 : decode cL_retrack 8 = .ok (.goto 6, 3) := by decide +kernel
theorem dL_retrack_11 : decode cL_retrack 11 = .ok (.astore_n 2, 1) := by decide +kernel
theorem dL_retrack_12 : decode cL_retrack 12 = .ok (.iconst 1, 1) := by decide +kernel
theorem dL_retrack_13 : decode cL_retrack 13 = .ok (.ireturn, 1) := by decide +kernel
theorem dL_retrack_14 : decode cL_retrack 14 = .ok (.iconst 0, 1) := by decide +kernel
theorem dL_retrack_15 : decode cL_retrack 15 = .ok (.ireturn, 1) := by decide +kernel
set_option maxRecDepth 20000 in
theorem ggL_manual_X2_manual : GoodIn wsL_manual wsX2_manual := goodIn_ca (goodIn_ca (goodIn_r _ [7, 8, 9, 10, 11, 12, 13, 6, 14, 15, 16, 17, 18, 19, 20, 21, 22, 23, 24, 25, 26, 27, 28, 29, 30, 31, 32, 33, 34, 35, 36, 37, 38, 39, 40, 41, 42, 43, 44, 45, 46, 47, 48, 49, 50, 51, 52, 53, 54, 55, 56, 57, 58, 59, 60, 61] (by decide +kernel) (by decide +kernel)) (goodIn_sub (fun _ h => List.mem_cons_of_mem _ (List.mem_append_left _ (List.mem_append_right _ h))) (by decide +kernel))) (goodIn_sub (fun _ h => List.mem_cons_of_mem _ (List.mem_append_right _ h)) (by decide +kernel))
set_option maxRecDepth 20000 in
theorem gL_manual_X2_manual : GoodIn wsL_manual (wsV RL 52 RX2 yX2_manual wsX2_manual) := goodIn_app (goodIn_of _ (by decide +kernel)) ggL_manual_X2_manual
theorem dL_manual_0 : decode cL_manual 0 = .ok (.aload_n 3, 1) := by decide +kernel
theorem dL_manual_1 : decode cL_manual 1 = .ok (.iconst 0, 1) := by decide +kernel
theorem dL_manual_2 : decode cL_manual 2 = .ok (.aload_n 0, 1) := by decide +kernel
theorem dL_manual_3 : decode cL_manual 3 = .ok (.iload_n 1, 1) := by decide +kernel
theorem dL_manual_4 : decode cL_manual 4 = .ok (.iload_n 2, 1) := by decide +kernel
theorem dL_manual_5 : decode cL_manual 5 = .ok (.invokevirtual 52, 3) := by decide +kernel
theorem dL_manual_8 : decode cL_manual 8 = .ok (.ifCond .eq 7, 3) := by decide +kernel
theorem dL_manual_11 : decode cL_manual 11 = .ok (.lconst 1, 1) := by decide +kernel
theorem dL_manual_12 : decode cL_manual 12 = .ok (.goto 4, 3) := by decide +kernel
theorem dL_manual_15 : decode cL_manual 15 = .ok (.lconst 0, 1) := by decide +kernel
theorem dL_manual_16 : decode cL_manual 16 = .ok (.lastore, 1) := by decide +kernel
theorem dL_manual_17 : decode cL_manual 17 = .ok (.goto 11, 3) := by decide +kernel
theorem dL_manual_20 : decode cL_manual 20 = .ok (.astore 4, 2) := by decide +kernel
theorem dL_manual_22 : decode cL_manual 22 = .ok (.iconst 1, 1) := by decide +kernel
theorem dL_manual_23 : decode cL_manual 23 = .ok (.ireturn, 1) := by decide +kernel
theorem dL_manual_24 : decode cL_manual 24 = .ok (.astore 4, 2) := by decide +kernel
theorem dL_manual_26 : decode cL_manual 26 = .ok (.iconst 2, 1) := by decide +kernel
theorem dL_manual_27 : decode cL_manual 27 = .ok (.ireturn, 1) := by decide +kernel
theorem dL_manual_28 : decode cL_manual 28 = .ok (.iconst 0, 1) := by decide +kernel
theorem dL_manual_29 : decode cL_manual 29 = .ok (.ireturn, 1) := by decide +kernel
set_option maxRecDepth 20000 in
theorem ggL_tray_X2_tray : GoodIn wsL_tray wsX2_tray := goodIn_r _ [5, 6, 7, 8, 9, 10, 11, 12, 13, 4, 14, 15, 16, 17, 18, 19, 20, 21, 22, 23, 24, 25, 26, 27, 28, 29, 30, 31, 32, 33, 34, 35, 36, 37, 38, 39, 40, 41, 42] (by decide +kernel) (by decide +kernel)
set_option maxRecDepth 20000 in
theorem gL_tray_X2_tray : GoodIn wsL_tray (wsV RL 56 RX2 yX2_tray wsX2_tray) := goodIn_app (goodIn_of _ (by decide +kernel)) ggL_tray_X2_tray
theorem dL_tray_0 : decode cL_tray 0 = .ok (.aload_n 2, 1) := by decide +kernel
theorem dL_tray_1 : decode cL_tray 1 = .ok (.iconst 0, 1) := by decide +kernel
theorem dL_tray_2 : decode cL_tray 2 = .ok (.aload_n 0, 1) := by decide +kernel
theorem dL_tray_3 : decode cL_tray 3 = .ok (.iload_n 1, 1) := by decide +kernel
theorem dL_tray_4 : decode cL_tray 4 = .ok (.invokevirtual 56, 3) := by decide +kernel
theorem dL_tray_7 : decode cL_tray 7 = .ok (.i2l, 1) := by decide +kernel
theorem dL_tray_8 : decode cL_tray 8 = .ok (.lastore, 1) := by decide +kernel
theorem dL_tray_9 : decode cL_tray 9 = .ok (.goto 6, 3) := by decide +kernel
theorem dL_tray_12 : decode cL_tray 12 = .ok (.astore_n 3, 1) := by decide +kernel
theorem dL_tray_13 : decode cL_tray 13 = .ok (.iconst 1, 1) := by decide +kernel
theorem dL_tray_14 : decode cL_tray 14 = .ok (.ireturn, 1) := by decide +kernel
theorem dL_tray_15 : decode cL_tray 15 = .ok (.iconst 0, 1) := by decide +kernel
theorem dL_tray_16 : decode cL_tray 16 = .ok (.ireturn, 1) := by decide +kernel
set_option maxRecDepth 20000 in
theorem ggL_told_X2_told : GoodIn wsL_told wsX2_told := goodIn_ca (goodIn_r _ [6, 7, 8, 9, 10, 11, 12, 13, 14, 15, 16, 17, 5, 18, 19, 20, 21, 22, 23, 24, 25, 26, 27, 28, 29, 30, 31, 32, 33, 34, 35, 36, 37, 38, 39, 40, 41, 42, 43, 44, 45, 46, 47, 48, 49, 50, 51, 52, 53, 54, 55, 56, 57, 58, 59, 60] (by decide +kernel) (by decide +kernel)) (goodIn_sub (fun _ h => List.mem_cons_of_mem _ (List.mem_append_right _ h)) (by decide +kernel))
set_option maxRecDepth 20000 in
theorem gL_told_X2_told : GoodIn wsL_told (wsV RL 61 RX2 yX2_told wsX2_told) := goodIn_app (goodIn_of _ (by decide +kernel)) ggL_told_X2_told
theorem dL_told_0 : decode cL_told 0 = .ok (.aload_n 3, 1) := by decide +kernel
theorem dL_told_1 : decode cL_told 1 = .ok (.iconst 0, 1) := by decide +kernel
theorem dL_told_2 : decode cL_told 2 = .ok (.aload_n 0, 1) := by decide +kernel
theorem dL_told_3 : decode cL_told 3 = .ok (.iload_n 1, 1) := by decide +kernel
theorem dL_told_4 : decode cL_told 4 = .ok (.iload_n 2, 1) := by decide +kernel
theorem dL_told_5 : decode cL_told 5 = .ok (.invokevirtual 61, 3) := by decide +kernel
theorem dL_told_8 : decode cL_told 8 = .ok (.i2l, 1) := by decide +kernel
theorem dL_told_9 : decode cL_told 9 = .ok (.lastore, 1) := by decide +kernel
theorem dL_told_10 : decode cL_told 10 = .ok (.goto 7, 3) := by decide +kernel
theorem dL_told_13 : decode cL_told 13 = .ok (.astore 4, 2) := by decide +kernel
theorem dL_told_15 : decode cL_told 15 = .ok (.iconst 1, 1) := by decide +kernel
theorem dL_told_16 : decode cL_told 16 = .ok (.ireturn, 1) := by decide +kernel
theorem dL_told_17 : decode cL_told 17 = .ok (.iconst 0, 1) := by decide +kernel
theorem dL_told_18 : decode cL_told 18 = .ok (.ireturn, 1) := by decide +kernel
set_option maxRecDepth 20000 in
theorem ggL_law_L_cell : GoodIn wsL_law wsL_cell := goodIn_r _ [10] (by decide +kernel) (by decide +kernel)
set_option maxRecDepth 20000 in
theorem gL_law_L_cell : GoodIn wsL_law (va_wsS RL 64 yL_cell wsL_cell) := goodIn_app (goodIn_of _ (by decide +kernel)) ggL_law_L_cell
set_option maxRecDepth 20000 in
theorem ggL_law_X2_init : GoodIn wsL_law wsX2_init := goodIn_r _ [13, 14, 15, 16, 17, 18, 19, 20, 21, 22, 23, 24, 25, 26, 27, 28, 29, 30, 31, 32, 33, 34, 35, 36, 37, 38, 39, 40, 41, 42, 462, 463, 429, 430, 431, 432, 433, 434, 435, 436, 437, 438] (by decide +kernel) (by decide +kernel)
set_option maxRecDepth 20000 in
theorem gL_law_X2_init : GoodIn wsL_law (wsX2_init) := ggL_law_X2_init
set_option maxRecDepth 20000 in
theorem ggL_law_X3_init : GoodIn wsL_law wsX3_init := goodIn_r _ [45, 46, 15, 16, 47, 48, 49, 33, 50, 51, 52, 53, 54, 55, 56, 57, 58, 59, 60, 61, 62, 63, 64, 439, 440, 441, 442, 443, 444, 445, 446, 447, 448, 449, 450, 451, 452, 453, 454, 455, 456, 457, 458, 459, 460, 461] (by decide +kernel) (by decide +kernel)
set_option maxRecDepth 20000 in
theorem gL_law_X3_init : GoodIn wsL_law (wsX3_init) := ggL_law_X3_init
set_option maxRecDepth 20000 in
theorem ggL_law_L_item : GoodIn wsL_law wsL_item := goodIn_ca (goodIn_ca (goodIn_r _ [67, 68, 69, 70, 71, 72, 2, 73, 74, 75, 20, 31, 76, 77, 78, 79, 80, 81, 82, 83, 84, 85, 86, 87, 19, 88, 89, 42, 90, 91, 92, 93, 94, 95, 96, 97, 15, 16, 98, 99, 100, 101, 102, 103, 104, 105, 106, 107, 429, 430, 431, 432, 433, 434, 435, 436, 437, 438, 464, 465, 466, 467, 468, 469, 470, 471, 472, 473, 474, 475, 462, 463] (by decide +kernel) (by decide +kernel)) (goodIn_sub (fun _ h => List.mem_append_left _ (List.mem_append_left _ (List.mem_append_right _ h))) (by decide +kernel))) (goodIn_sub (fun _ h => List.mem_append_left _ (List.mem_append_right _ h)) (by decide +kernel))
set_option maxRecDepth 20000 in
theorem gL_law_L_item : GoodIn wsL_law (va_wsS RL 76 yL_item wsL_item) := goodIn_app (goodIn_of _ (by decide +kernel)) ggL_law_L_item
set_option maxRecDepth 20000 in
theorem ggL_law_X3_item : GoodIn wsL_law wsX3_item := goodIn_r _ [111, 112, 113, 51, 114, 115, 5, 116, 439, 440, 441, 442, 443, 444, 445, 446, 447, 448, 449, 450, 451, 452, 453, 454, 455, 456, 457, 458, 459, 460, 461] (by decide +kernel) (by decide +kernel)
set_option maxRecDepth 20000 in
theorem gL_law_X3_item : GoodIn wsL_law (wsV RL 79 RX3 yX3_item wsX3_item) := goodIn_app (goodIn_of _ (by decide +kernel)) ggL_law_X3_item
set_option maxRecDepth 20000 in
theorem ggL_law_X3_thrown : GoodIn wsL_law wsX3_thrown := goodIn_r _ [120, 113, 439, 440, 441, 442, 443, 444, 445, 446, 447, 448, 449, 450, 451, 452, 453, 454, 455, 456, 457, 458, 459, 460, 461] (by decide +kernel) (by decide +kernel)
set_option maxRecDepth 20000 in
theorem gL_law_X3_thrown : GoodIn wsL_law (wsV RL 80 RX3 yX3_thrown wsX3_thrown) := goodIn_app (goodIn_of _ (by decide +kernel)) ggL_law_X3_thrown
set_option maxRecDepth 20000 in
theorem ggL_law_L_induct : GoodIn wsL_law wsL_induct := goodIn_ca (goodIn_ca (goodIn_r _ [123, 68, 124, 125, 126, 127, 2, 128, 83, 84, 129, 130, 131, 132, 133, 134, 135, 136, 20, 137, 138, 139, 19, 140, 89, 42, 141, 142, 143, 144, 145, 146, 147, 148, 34, 149, 150, 151, 152, 153, 154, 155, 156, 157, 158, 159, 23, 160, 161, 162, 163, 32, 164, 165, 166, 167, 168, 169, 170, 171, 172, 173, 174, 175, 176, 177, 178, 179, 180, 464, 465, 466, 467, 468, 469, 470, 471, 472, 473, 474, 475, 429, 430, 431, 432, 433, 434, 435, 436, 437, 438, 462, 463] (by decide +kernel) (by decide +kernel)) (goodIn_sub (fun _ h => List.mem_append_left _ (List.mem_append_right _ h)) (by decide +kernel))) (goodIn_sub (fun _ h => List.mem_append_right _ h) (by decide +kernel))
set_option maxRecDepth 20000 in
theorem gL_law_L_induct : GoodIn wsL_law (va_wsS RL 83 yL_induct wsL_induct) := goodIn_app (goodIn_of _ (by decide +kernel)) ggL_law_L_induct
set_option maxRecDepth 20000 in
theorem ggL_law_X3_induct : GoodIn wsL_law wsX3_induct := goodIn_r _ [184, 113, 52, 49, 185, 51, 47, 53, 186, 187, 188, 5, 189, 112, 114, 115, 116, 190, 191, 192, 193, 194, 195, 196, 197, 198, 199, 200, 201, 63, 202, 203, 204, 205, 206, 439, 440, 441, 442, 443, 444, 445, 446, 447, 448, 449, 450, 451, 452, 453, 454, 455, 456, 457, 458, 459, 460, 461] (by decide +kernel) (by decide +kernel)
set_option maxRecDepth 20000 in
theorem gL_law_X3_induct : GoodIn wsL_law (wsV RL 86 RX3 yX3_induct wsX3_induct) := goodIn_app (goodIn_of _ (by decide +kernel)) ggL_law_X3_induct
set_option maxRecDepth 20000 in
theorem ggL_law_L_length : GoodIn wsL_law wsL_length := goodIn_ca (goodIn_r _ [209, 68, 210, 211, 212, 2, 213, 23, 32, 159, 79, 80, 81, 82, 83, 84, 429, 430, 431, 432, 433, 434, 435, 436, 437, 438, 464, 465, 466, 467, 468, 469, 470, 471, 472, 473, 474, 475] (by decide +kernel) (by decide +kernel)) (goodIn_sub (fun _ h => List.mem_append_left _ (List.mem_append_right _ h)) (by decide +kernel))
set_option maxRecDepth 20000 in
theorem gL_law_L_length : GoodIn wsL_law (va_wsS RL 87 yL_length wsL_length) := goodIn_app (goodIn_of _ (by decide +kernel)) ggL_law_L_length
set_option maxRecDepth 20000 in
theorem ggL_law_X3_length : GoodIn wsL_law wsX3_length := goodIn_r _ [217, 113, 47, 63, 49, 51, 114, 115, 5, 116, 439, 440, 441, 442, 443, 444, 445, 446, 447, 448, 449, 450, 451, 452, 453, 454, 455, 456, 457, 458, 459, 460, 461] (by decide +kernel) (by decide +kernel)
set_option maxRecDepth 20000 in
theorem gL_law_X3_length : GoodIn wsL_law (wsV RL 89 RX3 yX3_length wsX3_length) := goodIn_app (goodIn_of _ (by decide +kernel)) ggL_law_X3_length
set_option maxRecDepth 20000 in
theorem ggL_law_L_retry : GoodIn wsL_law wsL_retry := goodIn_ca (goodIn_ca (goodIn_r _ [220, 68, 124, 221, 222, 223, 2, 224, 83, 84, 129, 130, 158, 131, 225, 226, 133, 134, 135, 136, 20, 137, 138, 139, 19, 140, 89, 42, 141, 142, 143, 144, 145, 146, 147, 148, 34, 464, 465, 466, 467, 468, 469, 470, 471, 472, 473, 474, 475, 429, 430, 431, 432, 433, 434, 435, 436, 437, 438, 462, 463] (by decide +kernel) (by decide +kernel)) (goodIn_sub (fun _ h => List.mem_append_left _ (List.mem_append_right _ h)) (by decide +kernel))) (goodIn_sub (fun _ h => List.mem_append_right _ h) (by decide +kernel))
set_option maxRecDepth 20000 in
theorem gL_law_L_retry : GoodIn wsL_law (va_wsS RL 90 yL_retry wsL_retry) := goodIn_app (goodIn_of _ (by decide +kernel)) ggL_law_L_retry
set_option maxRecDepth 20000 in
theorem ggL_law_X3_retry : GoodIn wsL_law wsX3_retry := goodIn_r _ [230, 113, 52, 53, 55, 56, 186, 187, 188, 5, 189, 112, 114, 115, 116, 190, 191, 192, 193, 194, 195, 196, 197, 198, 199, 200, 201, 63, 439, 440, 441, 442, 443, 444, 445, 446, 447, 448, 449, 450, 451, 452, 453, 454, 455, 456, 457, 458, 459, 460, 461] (by decide +kernel) (by decide +kernel)
set_option maxRecDepth 20000 in
theorem gL_law_X3_retry : GoodIn wsL_law (wsV RL 93 RX3 yX3_retry wsX3_retry) := goodIn_app (goodIn_of _ (by decide +kernel)) ggL_law_X3_retry
set_option maxRecDepth 20000 in
theorem ggL_law_L_step : GoodIn wsL_law wsL_step := goodIn_ca (goodIn_ca (goodIn_r _ [233, 68, 124, 234, 235, 236, 2, 237, 83, 84, 21, 149, 150, 151, 152, 129, 130, 153, 90, 91, 92, 19, 93, 89, 238, 239, 240, 241, 242, 168, 34, 169, 170, 171, 172, 32, 243, 244, 245, 246, 131, 247, 35, 160, 161, 162, 163, 164, 165, 166, 167, 173, 174, 175, 176, 248, 249, 250, 251, 145, 146, 147, 148, 252, 253, 254, 255, 132, 158, 256, 257, 103, 104, 105, 106, 42, 107, 86, 87, 88, 258, 259, 260, 261, 225, 226, 429, 430, 431, 432, 433, 434, 435, 436, 437, 438, 462, 463, 464, 465, 466, 467, 468, 469, 470, 471, 472, 473, 474, 475] (by decide +kernel) (by decide +kernel)) (goodIn_sub (fun _ h => List.mem_append_left _ (List.mem_append_right _ h)) (by decide +kernel))) (goodIn_sub (fun _ h => List.mem_append_right _ h) (by decide +kernel))
set_option maxRecDepth 20000 in
theorem gL_law_L_step : GoodIn wsL_law (va_wsS RL 94 yL_step wsL_step) := goodIn_app (goodIn_of _ (by decide +kernel)) ggL_law_L_step
set_option maxRecDepth 20000 in
theorem ggL_law_X3_step : GoodIn wsL_law wsX3_step := goodIn_r _ [265, 185, 113, 266, 206, 114, 115, 5, 116, 198, 199, 200, 201, 63, 267, 268, 269, 270, 49, 53, 50, 54, 64, 202, 203, 204, 205, 271, 272, 273, 274, 52, 57, 58, 59, 60, 275, 276, 277, 278, 55, 56, 439, 440, 441, 442, 443, 444, 445, 446, 447, 448, 449, 450, 451, 452, 453, 454, 455, 456, 457, 458, 459, 460, 461] (by decide +kernel) (by decide +kernel)
set_option maxRecDepth 20000 in
theorem gL_law_X3_step : GoodIn wsL_law (wsV RL 96 RX3 yX3_step wsX3_step) := goodIn_app (goodIn_of _ (by decide +kernel)) ggL_law_X3_step
set_option maxRecDepth 20000 in
theorem ggL_law_L_out : GoodIn wsL_law wsL_out := goodIn_ca (goodIn_r _ [281, 68, 282, 283, 284, 2, 285, 83, 84, 21, 78, 256, 257, 247, 137, 138, 139, 19, 140, 89, 42, 429, 430, 431, 432, 433, 434, 435, 436, 437, 438, 464, 465, 466, 467, 468, 469, 470, 471, 472, 473, 474, 475, 462, 463] (by decide +kernel) (by decide +kernel)) (goodIn_sub (fun _ h => List.mem_append_left _ (List.mem_append_right _ h)) (by decide +kernel))
set_option maxRecDepth 20000 in
theorem gL_law_L_out : GoodIn wsL_law (va_wsS RL 97 yL_out wsL_out) := goodIn_app (goodIn_of _ (by decide +kernel)) ggL_law_L_out
set_option maxRecDepth 20000 in
theorem ggL_law_X3_out : GoodIn wsL_law wsX3_out := goodIn_r _ [289, 266, 113, 57, 58, 59, 60, 114, 115, 5, 116, 439, 440, 441, 442, 443, 444, 445, 446, 447, 448, 449, 450, 451, 452, 453, 454, 455, 456, 457, 458, 459, 460, 461] (by decide +kernel) (by decide +kernel)
set_option maxRecDepth 20000 in
theorem gL_law_X3_out : GoodIn wsL_law (wsV RL 100 RX3 yX3_out wsX3_out) := goodIn_app (goodIn_of _ (by decide +kernel)) ggL_law_X3_out
set_option maxRecDepth 20000 in
theorem ggL_law_L_chute : GoodIn wsL_law wsL_chute := goodIn_ca (goodIn_r _ [292, 68, 293, 294, 295, 2, 296, 297, 298, 299, 300, 83, 84, 145, 146, 147, 148, 34, 248, 249, 250, 251, 301, 302, 303, 304, 429, 430, 431, 432, 433, 434, 435, 436, 437, 438] (by decide +kernel) (by decide +kernel)) (goodIn_sub (fun _ h => List.mem_append_left _ (List.mem_append_right _ h)) (by decide +kernel))
set_option maxRecDepth 20000 in
theorem gL_law_L_chute : GoodIn wsL_law (va_wsS RL 101 yL_chute wsL_chute) := goodIn_app (goodIn_of _ (by decide +kernel)) ggL_law_L_chute
set_option maxRecDepth 20000 in
theorem ggL_law_X3_chute : GoodIn wsL_law wsX3_chute := goodIn_r _ [308, 113, 50, 194, 195, 196, 5, 197, 198, 199, 200, 201, 63, 114, 115, 116, 439, 440, 441, 442, 443, 444, 445, 446, 447, 448, 449, 450, 451, 452, 453, 454, 455, 456, 457, 458, 459, 460, 461] (by decide +kernel) (by decide +kernel)
set_option maxRecDepth 20000 in
theorem gL_law_X3_chute : GoodIn wsL_law (wsV RL 104 RX3 yX3_chute wsX3_chute) := goodIn_app (goodIn_of _ (by decide +kernel)) ggL_law_X3_chute
set_option maxRecDepth 20000 in
theorem ggL_law_L_jam : GoodIn wsL_law wsL_jam := goodIn_ca (goodIn_ca (goodIn_r _ [311, 68, 124, 312, 313, 314, 2, 315, 83, 84, 153, 22, 173, 174, 175, 176, 32, 149, 150, 151, 152, 129, 130, 169, 170, 171, 172, 316, 317, 318, 319, 320, 321, 160, 161, 162, 163, 164, 165, 166, 167, 168, 103, 104, 105, 19, 106, 42, 89, 107, 86, 87, 88, 90, 91, 92, 93, 429, 430, 431, 432, 433, 434, 435, 436, 437, 438, 464, 465, 466, 467, 468, 469, 470, 471, 472, 473, 474, 475, 462, 463] (by decide +kernel) (by decide +kernel)) (goodIn_sub (fun _ h => List.mem_append_left _ (List.mem_append_right _ h)) (by decide +kernel))) (goodIn_sub (fun _ h => List.mem_append_right _ h) (by decide +kernel))
set_option maxRecDepth 20000 in
theorem gL_law_L_jam : GoodIn wsL_law (va_wsS RL 105 yL_jam wsL_jam) := goodIn_app (goodIn_of _ (by decide +kernel)) ggL_law_L_jam
set_option maxRecDepth 20000 in
theorem ggL_law_X3_jam : GoodIn wsL_law wsX3_jam := goodIn_r _ [325, 63, 185, 113, 326, 49, 61, 62, 114, 115, 5, 116, 202, 203, 204, 205, 206, 439, 440, 441, 442, 443, 444, 445, 446, 447, 448, 449, 450, 451, 452, 453, 454, 455, 456, 457, 458, 459, 460, 461] (by decide +kernel) (by decide +kernel)
set_option maxRecDepth 20000 in
theorem gL_law_X3_jam : GoodIn wsL_law (wsV RL 107 RX3 yX3_jam wsX3_jam) := goodIn_app (goodIn_of _ (by decide +kernel)) ggL_law_X3_jam
set_option maxRecDepth 20000 in
theorem ggL_law_X2_doubt : GoodIn wsL_law wsX2_doubt := goodIn_r _ [330, 22, 78, 137, 138, 139, 19, 140, 89, 42, 429, 430, 431, 432, 433, 434, 435, 436, 437, 438, 464, 465, 466, 467, 468, 469, 470, 471, 472, 473, 474, 475, 462, 463] (by decide +kernel) (by decide +kernel)
set_option maxRecDepth 20000 in
theorem gL_law_X2_doubt : GoodIn wsL_law (wsV RL 108 RX2 yX2_doubt wsX2_doubt) := goodIn_app (goodIn_of _ (by decide +kernel)) ggL_law_X2_doubt
set_option maxRecDepth 20000 in
theorem ggL_law_X3_doubt : GoodIn wsL_law wsX3_doubt := goodIn_r _ [334, 113, 326, 61, 114, 115, 5, 116, 439, 440, 441, 442, 443, 444, 445, 446, 447, 448, 449, 450, 451, 452, 453, 454, 455, 456, 457, 458, 459, 460, 461] (by decide +kernel) (by decide +kernel)
set_option maxRecDepth 20000 in
theorem gL_law_X3_doubt : GoodIn wsL_law (wsV RL 111 RX3 yX3_doubt wsX3_doubt) := goodIn_app (goodIn_of _ (by decide +kernel)) ggL_law_X3_doubt
set_option maxRecDepth 20000 in
theorem ggL_law_L_found : GoodIn wsL_law wsL_found := goodIn_ca (goodIn_ca (goodIn_r _ [337, 68, 124, 338, 339, 340, 2, 341, 129, 130, 320, 321, 133, 134, 135, 136, 83, 84, 20, 137, 138, 139, 19, 140, 89, 42, 342, 343, 344, 345, 22, 90, 91, 92, 93, 464, 465, 466, 467, 468, 469, 470, 471, 472, 473, 474, 475, 429, 430, 431, 432, 433, 434, 435, 436, 437, 438, 462, 463] (by decide +kernel) (by decide +kernel)) (goodIn_sub (fun _ h => List.mem_append_right _ h) (by decide +kernel))) (goodIn_sub (fun _ h => List.mem_append_left _ (List.mem_append_right _ h)) (by decide +kernel))
set_option maxRecDepth 20000 in
theorem gL_law_L_found : GoodIn wsL_law (va_wsS RL 112 yL_found wsL_found) := goodIn_app (goodIn_of _ (by decide +kernel)) ggL_law_L_found
set_option maxRecDepth 20000 in
theorem ggL_law_X3_found : GoodIn wsL_law wsX3_found := goodIn_r _ [349, 113, 326, 61, 62, 186, 187, 188, 5, 189, 112, 114, 115, 116, 439, 440, 441, 442, 443, 444, 445, 446, 447, 448, 449, 450, 451, 452, 453, 454, 455, 456, 457, 458, 459, 460, 461] (by decide +kernel) (by decide +kernel)
set_option maxRecDepth 20000 in
theorem gL_law_X3_found : GoodIn wsL_law (wsV RL 114 RX3 yX3_found wsX3_found) := goodIn_app (goodIn_of _ (by decide +kernel)) ggL_law_X3_found
set_option maxRecDepth 20000 in
theorem ggL_law_L_retrack : GoodIn wsL_law wsL_retrack := goodIn_ca (goodIn_r _ [352, 124, 353, 354, 355, 2, 356, 129, 130, 153, 21, 22, 90, 91, 92, 19, 93, 89, 137, 138, 139, 140, 42, 357, 358, 359, 360, 320, 321, 252, 253, 254, 255, 132, 32, 158, 256, 242, 257, 173, 174, 175, 176, 103, 104, 105, 106, 107, 86, 87, 88, 361, 362, 363, 364, 429, 430, 431, 432, 433, 434, 435, 436, 437, 438, 462, 463, 464, 465, 466, 467, 468, 469, 470, 471, 472, 473, 474, 475] (by decide +kernel) (by decide +kernel)) (goodIn_sub (fun _ h => List.mem_append_right _ h) (by decide +kernel))
set_option maxRecDepth 20000 in
theorem gL_law_L_retrack : GoodIn wsL_law (va_wsS RL 115 yL_retrack wsL_retrack) := goodIn_app (goodIn_of _ (by decide +kernel)) ggL_law_L_retrack
set_option maxRecDepth 20000 in
theorem ggL_law_X3_retrack : GoodIn wsL_law wsX3_retrack := goodIn_r _ [368, 185, 113, 266, 326, 62, 61, 369, 370, 371, 5, 372, 63, 49, 271, 272, 273, 274, 52, 57, 58, 59, 206, 60, 54, 439, 440, 441, 442, 443, 444, 445, 446, 447, 448, 449, 450, 451, 452, 453, 454, 455, 456, 457, 458, 459, 460, 461] (by decide +kernel) (by decide +kernel)
set_option maxRecDepth 20000 in
theorem gL_law_X3_retrack : GoodIn wsL_law (wsV RL 118 RX3 yX3_retrack wsX3_retrack) := goodIn_app (goodIn_of _ (by decide +kernel)) ggL_law_X3_retrack
set_option maxRecDepth 20000 in
theorem ggL_law_L_manual : GoodIn wsL_law wsL_manual := goodIn_ca (goodIn_ca (goodIn_r _ [375, 68, 124, 376, 377, 378, 2, 379, 129, 130, 158, 133, 134, 135, 136, 83, 84, 20, 137, 138, 139, 19, 140, 89, 42, 297, 298, 299, 300, 145, 146, 147, 148, 34, 248, 249, 250, 251, 464, 465, 466, 467, 468, 469, 470, 471, 472, 473, 474, 475, 429, 430, 431, 432, 433, 434, 435, 436, 437, 438, 462, 463] (by decide +kernel) (by decide +kernel)) (goodIn_sub (fun _ h => List.mem_append_right _ h) (by decide +kernel))) (goodIn_sub (fun _ h => List.mem_append_left _ (List.mem_append_right _ h)) (by decide +kernel))
set_option maxRecDepth 20000 in
theorem gL_law_L_manual : GoodIn wsL_law (va_wsS RL 119 yL_manual wsL_manual) := goodIn_app (goodIn_of _ (by decide +kernel)) ggL_law_L_manual
set_option maxRecDepth 20000 in
theorem ggL_law_X3_manual : GoodIn wsL_law wsX3_manual := goodIn_r _ [383, 113, 52, 50, 186, 187, 188, 5, 189, 112, 114, 115, 116, 194, 195, 196, 197, 198, 199, 200, 201, 63, 439, 440, 441, 442, 443, 444, 445, 446, 447, 448, 449, 450, 451, 452, 453, 454, 455, 456, 457, 458, 459, 460, 461] (by decide +kernel) (by decide +kernel)
set_option maxRecDepth 20000 in
theorem gL_law_X3_manual : GoodIn wsL_law (wsV RL 121 RX3 yX3_manual wsX3_manual) := goodIn_app (goodIn_of _ (by decide +kernel)) ggL_law_X3_manual
set_option maxRecDepth 20000 in
theorem ggL_law_L_tray : GoodIn wsL_law wsL_tray := goodIn_r _ [386, 387, 388, 389, 2, 390, 391, 392, 393, 32, 78, 173, 174, 175, 176, 476, 477, 478, 479, 480, 481, 429, 430, 431, 432, 433, 434, 435, 436, 437, 438, 464, 465, 466, 467, 468, 469, 470, 471, 472, 473, 474, 475] (by decide +kernel) (by decide +kernel)
set_option maxRecDepth 20000 in
theorem gL_law_L_tray : GoodIn wsL_law (va_wsS RL 122 yL_tray wsL_tray) := goodIn_app (goodIn_of _ (by decide +kernel)) ggL_law_L_tray
set_option maxRecDepth 20000 in
theorem ggL_law_X3_tray : GoodIn wsL_law wsX3_tray := goodIn_r _ [397, 63, 113, 49, 114, 115, 5, 116, 439, 440, 441, 442, 443, 444, 445, 446, 447, 448, 449, 450, 451, 452, 453, 454, 455, 456, 457, 458, 459, 460, 461] (by decide +kernel) (by decide +kernel)
set_option maxRecDepth 20000 in
theorem gL_law_X3_tray : GoodIn wsL_law (wsV RL 124 RX3 yX3_tray wsX3_tray) := goodIn_app (goodIn_of _ (by decide +kernel)) ggL_law_X3_tray
set_option maxRecDepth 20000 in
theorem ggL_law_L_told : GoodIn wsL_law wsL_told := goodIn_ca (goodIn_r _ [400, 68, 401, 402, 403, 2, 404, 83, 84, 158, 131, 247, 159, 132, 225, 133, 134, 135, 136, 20, 137, 138, 139, 19, 140, 89, 42, 405, 406, 407, 408, 168, 169, 170, 171, 172, 32, 464, 465, 466, 467, 468, 469, 470, 471, 472, 473, 474, 475, 429, 430, 431, 432, 433, 434, 435, 436, 437, 438, 462, 463] (by decide +kernel) (by decide +kernel)) (goodIn_sub (fun _ h => List.mem_append_left _ (List.mem_append_right _ h)) (by decide +kernel))
set_option maxRecDepth 20000 in
theorem gL_law_L_told : GoodIn wsL_law (va_wsS RL 125 yL_told wsL_told) := goodIn_app (goodIn_of _ (by decide +kernel)) ggL_law_L_told
set_option maxRecDepth 20000 in
theorem ggL_law_X3_told : GoodIn wsL_law wsX3_told := goodIn_r _ [412, 113, 52, 53, 54, 51, 55, 206, 63, 186, 187, 188, 5, 189, 112, 114, 115, 116, 369, 370, 371, 372, 49, 439, 440, 441, 442, 443, 444, 445, 446, 447, 448, 449, 450, 451, 452, 453, 454, 455, 456, 457, 458, 459, 460, 461] (by decide +kernel) (by decide +kernel)
set_option maxRecDepth 20000 in
theorem gL_law_X3_told : GoodIn wsL_law (wsV RL 127 RX3 yX3_told wsX3_told) := goodIn_app (goodIn_of _ (by decide +kernel)) ggL_law_X3_told
set_option maxRecDepth 20000 in
theorem ggL_law_X2_count : GoodIn wsL_law wsX2_count := goodIn_r _ [416, 32, 20, 242, 34, 153, 90, 91, 92, 19, 93, 89, 417, 418, 419, 2, 420, 421, 422, 423, 424, 158, 137, 138, 139, 140, 42, 429, 430, 431, 432, 433, 434, 435, 436, 437, 438, 462, 463, 464, 465, 466, 467, 468, 469, 470, 471, 472, 473, 474, 475] (by decide +kernel) (by decide +kernel)
set_option maxRecDepth 20000 in
theorem gL_law_X2_count : GoodIn wsL_law (wsV RL 128 RX2 yX2_count wsX2_count) := goodIn_app (goodIn_of _ (by decide +kernel)) ggL_law_X2_count
set_option maxRecDepth 20000 in
theorem ggL_law_X3_count : GoodIn wsL_law wsX3_count := goodIn_r _ [428, 113, 63, 112, 206, 185, 49, 52, 198, 199, 200, 5, 201, 439, 440, 441, 442, 443, 444, 445, 446, 447, 448, 449, 450, 451, 452, 453, 454, 455, 456, 457, 458, 459, 460, 461] (by decide +kernel) (by decide +kernel)
set_option maxRecDepth 20000 in
theorem gL_law_X3_count : GoodIn wsL_law (wsV RL 131 RX3 yX3_count wsX3_count) := goodIn_app (goodIn_of _ (by decide +kernel)) ggL_law_X3_count
theorem dL_law_0 : decode cL_law 0 = .ok (.new 8, 3) := by decide +kernel
theorem dL_law_3 : decode cL_law 3 = .ok (.dup, 1) := by decide +kernel
theorem dL_law_4 : decode cL_law 4 = .ok (.aload_n 0, 1) := by decide +kernel
theorem dL_law_5 : decode cL_law 5 = .ok (.iconst 0, 1) := by decide +kernel
theorem dL_law_6 : decode cL_law 6 = .ok (.invokestatic 64, 3) := by decide +kernel
theorem dL_law_9 : decode cL_law 9 = .ok (.aload_n 0, 1) := by decide +kernel
theorem dL_law_10 : decode cL_law 10 = .ok (.iconst 1, 1) := by decide +kernel
theorem dL_law_11 : decode cL_law 11 = .ok (.invokestatic 64, 3) := by decide +kernel
theorem dL_law_14 : decode cL_law 14 = .ok (.invokespecial 70, 3) := by decide +kernel
theorem dL_law_17 : decode cL_law 17 = .ok (.astore_n 1, 1) := by decide +kernel
theorem dL_law_18 : decode cL_law 18 = .ok (.new 73, 3) := by decide +kernel
theorem dL_law_21 : decode cL_law 21 = .ok (.dup, 1) := by decide +kernel
theorem dL_law_22 : decode cL_law 22 = .ok (.aload_n 0, 1) := by decide +kernel
theorem dL_law_23 : decode cL_law 23 = .ok (.iconst 0, 1) := by decide +kernel
theorem dL_law_24 : decode cL_law 24 = .ok (.invokestatic 64, 3) := by decide +kernel
theorem dL_law_27 : decode cL_law 27 = .ok (.aload_n 0, 1) := by decide +kernel
theorem dL_law_28 : decode cL_law 28 = .ok (.iconst 1, 1) := by decide +kernel
theorem dL_law_29 : decode cL_law 29 = .ok (.invokestatic 64, 3) := by decide +kernel
theorem dL_law_32 : decode cL_law 32 = .ok (.invokespecial 75, 3) := by decide +kernel
theorem dL_law_35 : decode cL_law 35 = .ok (.astore_n 2, 1) := by decide +kernel
theorem dL_law_36 : decode cL_law 36 = .ok (.iconst 1, 1) := by decide +kernel
theorem dL_law_37 : decode cL_law 37 = .ok (.newarray .long, 2) := by decide +kernel
theorem dL_law_39 : decode cL_law 39 = .ok (.astore_n 3, 1) := by decide +kernel
theorem dL_law_40 : decode cL_law 40 = .ok (.iconst 2, 1) := by decide +kernel
theorem dL_law_41 : decode cL_law 41 = .ok (.istore 4, 2) := by decide +kernel
theorem dL_law_43 : decode cL_law 43 = .ok (.iload 4, 2) := by decide +kernel
theorem dL_law_45 : decode cL_law 45 = .ok (.aload_n 0, 1) := by decide +kernel
theorem dL_law_46 : decode cL_law 46 = .ok (.arraylength, 1) := by decide +kernel
theorem dL_law_47 : decode cL_law 47 = .ok (.iconst 4, 1) := by decide +kernel
theorem dL_law_48 : decode cL_law 48 = .ok (.isub, 1) := by decide +kernel
theorem dL_law_49 : decode cL_law 49 = .ok (.if_icmp .gt 1001, 3) := by decide +kernel
theorem dL_law_52 : decode cL_law 52 = .ok (.aload_n 0, 1) := by decide +kernel
theorem dL_law_53 : decode cL_law 53 = .ok (.iload 4, 2) := by decide +kernel
theorem dL_law_55 : decode cL_law 55 = .ok (.iaload, 1) := by decide +kernel
theorem dL_law_56 : decode cL_law 56 = .ok (.bipush 15, 2) := by decide +kernel
theorem dL_law_58 : decode cL_law 58 = .ok (.iand, 1) := by decide +kernel
theorem dL_law_59 : decode cL_law 59 = .ok (.tableswitch 985 0 14 #[73, 129, 209, 265, 325, 381, 449, 540, 608, 633, 717, 761, 836, 892, 960], 73) := by decide +kernel
theorem dL_law_132 : decode cL_law 132 = .ok (.aload_n 1, 1) := by decide +kernel
theorem dL_law_133 : decode cL_law 133 = .ok (.aload_n 0, 1) := by decide +kernel
theorem dL_law_134 : decode cL_law 134 = .ok (.iload 4, 2) := by decide +kernel
theorem dL_law_136 : decode cL_law 136 = .ok (.iconst 1, 1) := by decide +kernel
theorem dL_law_137 : decode cL_law 137 = .ok (.iadd, 1) := by decide +kernel
theorem dL_law_138 : decode cL_law 138 = .ok (.iaload, 1) := by decide +kernel
theorem dL_law_139 : decode cL_law 139 = .ok (.aload_n 3, 1) := by decide +kernel
theorem dL_law_140 : decode cL_law 140 = .ok (.invokestatic 76, 3) := by decide +kernel
theorem dL_law_143 : decode cL_law 143 = .ok (.istore 5, 2) := by decide +kernel
theorem dL_law_145 : decode cL_law 145 = .ok (.aload_n 2, 1) := by decide +kernel
theorem dL_law_146 : decode cL_law 146 = .ok (.aload_n 0, 1) := by decide +kernel
theorem dL_law_147 : decode cL_law 147 = .ok (.iload 4, 2) := by decide +kernel
theorem dL_law_149 : decode cL_law 149 = .ok (.iconst 1, 1) := by decide +kernel
theorem dL_law_150 : decode cL_law 150 = .ok (.iadd, 1) := by decide +kernel
theorem dL_law_151 : decode cL_law 151 = .ok (.iaload, 1) := by decide +kernel
theorem dL_law_152 : decode cL_law 152 = .ok (.invokevirtual 79, 3) := by decide +kernel
theorem dL_law_155 : decode cL_law 155 = .ok (.istore 6, 2) := by decide +kernel
theorem dL_law_157 : decode cL_law 157 = .ok (.aload_n 2, 1) := by decide +kernel
theorem dL_law_158 : decode cL_law 158 = .ok (.invokevirtual 80, 3) := by decide +kernel
theorem dL_law_161 : decode cL_law 161 = .ok (.iload 5, 2) := by decide +kernel
theorem dL_law_163 : decode cL_law 163 = .ok (.if_icmp .eq 5, 3) := by decide +kernel
theorem dL_law_166 : decode cL_law 166 = .ok (.iconst 0, 1) := by decide +kernel
theorem dL_law_167 : decode cL_law 167 = .ok (.ireturn, 1) := by decide +kernel
theorem dL_law_168 : decode cL_law 168 = .ok (.iload 5, 2) := by decide +kernel
theorem dL_law_170 : decode cL_law 170 = .ok (.ifCond .ne 15, 3) := by decide +kernel
theorem dL_law_173 : decode cL_law 173 = .ok (.aload_n 3, 1) := by decide +kernel
theorem dL_law_174 : decode cL_law 174 = .ok (.iconst 0, 1) := by decide +kernel
theorem dL_law_175 : decode cL_law 175 = .ok (.laload, 1) := by decide +kernel
theorem dL_law_176 : decode cL_law 176 = .ok (.iload 6, 2) := by decide +kernel
theorem dL_law_178 : decode cL_law 178 = .ok (.i2l, 1) := by decide +kernel
theorem dL_law_179 : decode cL_law 179 = .ok (.lcmp, 1) := by decide +kernel
theorem dL_law_180 : decode cL_law 180 = .ok (.ifCond .eq 5, 3) := by decide +kernel
theorem dL_law_183 : decode cL_law 183 = .ok (.iconst 0, 1) := by decide +kernel
theorem dL_law_184 : decode cL_law 184 = .ok (.ireturn, 1) := by decide +kernel
theorem dL_law_185 : decode cL_law 185 = .ok (.goto 859, 3) := by decide +kernel
theorem dL_law_188 : decode cL_law 188 = .ok (.aload_n 1, 1) := by decide +kernel
theorem dL_law_189 : decode cL_law 189 = .ok (.aload_n 0, 1) := by decide +kernel
theorem dL_law_190 : decode cL_law 190 = .ok (.iload 4, 2) := by decide +kernel
theorem dL_law_192 : decode cL_law 192 = .ok (.iconst 1, 1) := by decide +kernel
theorem dL_law_193 : decode cL_law 193 = .ok (.iadd, 1) := by decide +kernel
theorem dL_law_194 : decode cL_law 194 = .ok (.iaload, 1) := by decide +kernel
theorem dL_law_195 : decode cL_law 195 = .ok (.aload_n 0, 1) := by decide +kernel
theorem dL_law_196 : decode cL_law 196 = .ok (.iload 4, 2) := by decide +kernel
end
section
theorem dL_law_198 : decode cL_law 198 = .ok (.iconst 2, 1) := by decide +kernel
theorem dL_law_199 : decode cL_law 199 = .ok (.iadd, 1) := by decide +kernel
theorem dL_law_200 : decode cL_law 200 = .ok (.iaload, 1) := by decide +kernel
theorem dL_law_201 : decode cL_law 201 = .ok (.aload_n 0, 1) := by decide +kernel
theorem dL_law_202 : decode cL_law 202 = .ok (.iload 4, 2) := by decide +kernel
theorem dL_law_204 : decode cL_law 204 = .ok (.iconst 3, 1) := by decide +kernel
theorem dL_law_205 : decode cL_law 205 = .ok (.iadd, 1) := by decide +kernel
theorem dL_law_206 : decode cL_law 206 = .ok (.iaload, 1) := by decide +kernel
theorem dL_law_207 : decode cL_law 207 = .ok (.aload_n 3, 1) := by decide +kernel
theorem dL_law_208 : decode cL_law 208 = .ok (.invokestatic 83, 3) := by decide +kernel
theorem dL_law_211 : decode cL_law 211 = .ok (.istore 5, 2) := by decide +kernel
theorem dL_law_213 : decode cL_law 213 = .ok (.aload_n 2, 1) := by decide +kernel
theorem dL_law_214 : decode cL_law 214 = .ok (.aload_n 0, 1) := by decide +kernel
theorem dL_law_215 : decode cL_law 215 = .ok (.iload 4, 2) := by decide +kernel
theorem dL_law_217 : decode cL_law 217 = .ok (.iconst 1, 1) := by decide +kernel
theorem dL_law_218 : decode cL_law 218 = .ok (.iadd, 1) := by decide +kernel
theorem dL_law_219 : decode cL_law 219 = .ok (.iaload, 1) := by decide +kernel
theorem dL_law_220 : decode cL_law 220 = .ok (.aload_n 0, 1) := by decide +kernel
theorem dL_law_221 : decode cL_law 221 = .ok (.iload 4, 2) := by decide +kernel
theorem dL_law_223 : decode cL_law 223 = .ok (.iconst 2, 1) := by decide +kernel
theorem dL_law_224 : decode cL_law 224 = .ok (.iadd, 1) := by decide +kernel
theorem dL_law_225 : decode cL_law 225 = .ok (.iaload, 1) := by decide +kernel
theorem dL_law_226 : decode cL_law 226 = .ok (.aload_n 0, 1) := by decide +kernel
theorem dL_law_227 : decode cL_law 227 = .ok (.iload 4, 2) := by decide +kernel
theorem dL_law_229 : decode cL_law 229 = .ok (.iconst 3, 1) := by decide +kernel
theorem dL_law_230 : decode cL_law 230 = .ok (.iadd, 1) := by decide +kernel
theorem dL_law_231 : decode cL_law 231 = .ok (.iaload, 1) := by decide +kernel
theorem dL_law_232 : decode cL_law 232 = .ok (.invokevirtual 86, 3) := by decide +kernel
theorem dL_law_235 : decode cL_law 235 = .ok (.istore 6, 2) := by decide +kernel
theorem dL_law_237 : decode cL_law 237 = .ok (.aload_n 2, 1) := by decide +kernel
theorem dL_law_238 : decode cL_law 238 = .ok (.invokevirtual 80, 3) := by decide +kernel
theorem dL_law_241 : decode cL_law 241 = .ok (.iload 5, 2) := by decide +kernel
theorem dL_law_243 : decode cL_law 243 = .ok (.if_icmp .eq 5, 3) := by decide +kernel
theorem dL_law_246 : decode cL_law 246 = .ok (.iconst 0, 1) := by decide +kernel
theorem dL_law_247 : decode cL_law 247 = .ok (.ireturn, 1) := by decide +kernel
theorem dL_law_248 : decode cL_law 248 = .ok (.iload 5, 2) := by decide +kernel
theorem dL_law_250 : decode cL_law 250 = .ok (.ifCond .ne 15, 3) := by decide +kernel
theorem dL_law_253 : decode cL_law 253 = .ok (.aload_n 3, 1) := by decide +kernel
theorem dL_law_254 : decode cL_law 254 = .ok (.iconst 0, 1) := by decide +kernel
theorem dL_law_255 : decode cL_law 255 = .ok (.laload, 1) := by decide +kernel
theorem dL_law_256 : decode cL_law 256 = .ok (.iload 6, 2) := by decide +kernel
theorem dL_law_258 : decode cL_law 258 = .ok (.i2l, 1) := by decide +kernel
theorem dL_law_259 : decode cL_law 259 = .ok (.lcmp, 1) := by decide +kernel
theorem dL_law_260 : decode cL_law 260 = .ok (.ifCond .eq 5, 3) := by decide +kernel
theorem dL_law_263 : decode cL_law 263 = .ok (.iconst 0, 1) := by decide +kernel
theorem dL_law_264 : decode cL_law 264 = .ok (.ireturn, 1) := by decide +kernel
theorem dL_law_265 : decode cL_law 265 = .ok (.goto 779, 3) := by decide +kernel
theorem dL_law_268 : decode cL_law 268 = .ok (.aload_n 1, 1) := by decide +kernel
theorem dL_law_269 : decode cL_law 269 = .ok (.aload_n 0, 1) := by decide +kernel
theorem dL_law_270 : decode cL_law 270 = .ok (.iload 4, 2) := by decide +kernel
theorem dL_law_272 : decode cL_law 272 = .ok (.iconst 1, 1) := by decide +kernel
theorem dL_law_273 : decode cL_law 273 = .ok (.iadd, 1) := by decide +kernel
theorem dL_law_274 : decode cL_law 274 = .ok (.iaload, 1) := by decide +kernel
theorem dL_law_275 : decode cL_law 275 = .ok (.aload_n 3, 1) := by decide +kernel
theorem dL_law_276 : decode cL_law 276 = .ok (.invokestatic 87, 3) := by decide +kernel
theorem dL_law_279 : decode cL_law 279 = .ok (.istore 5, 2) := by decide +kernel
theorem dL_law_281 : decode cL_law 281 = .ok (.aload_n 2, 1) := by decide +kernel
theorem dL_law_282 : decode cL_law 282 = .ok (.aload_n 0, 1) := by decide +kernel
theorem dL_law_283 : decode cL_law 283 = .ok (.iload 4, 2) := by decide +kernel
theorem dL_law_285 : decode cL_law 285 = .ok (.iconst 1, 1) := by decide +kernel
theorem dL_law_286 : decode cL_law 286 = .ok (.iadd, 1) := by decide +kernel
theorem dL_law_287 : decode cL_law 287 = .ok (.iaload, 1) := by decide +kernel
theorem dL_law_288 : decode cL_law 288 = .ok (.invokevirtual 89, 3) := by decide +kernel
theorem dL_law_291 : decode cL_law 291 = .ok (.istore 6, 2) := by decide +kernel
theorem dL_law_293 : decode cL_law 293 = .ok (.aload_n 2, 1) := by decide +kernel
theorem dL_law_294 : decode cL_law 294 = .ok (.invokevirtual 80, 3) := by decide +kernel
theorem dL_law_297 : decode cL_law 297 = .ok (.iload 5, 2) := by decide +kernel
theorem dL_law_299 : decode cL_law 299 = .ok (.if_icmp .eq 5, 3) := by decide +kernel
theorem dL_law_302 : decode cL_law 302 = .ok (.iconst 0, 1) := by decide +kernel
theorem dL_law_303 : decode cL_law 303 = .ok (.ireturn, 1) := by decide +kernel
theorem dL_law_304 : decode cL_law 304 = .ok (.iload 5, 2) := by decide +kernel
theorem dL_law_306 : decode cL_law 306 = .ok (.ifCond .ne 15, 3) := by decide +kernel
theorem dL_law_309 : decode cL_law 309 = .ok (.aload_n 3, 1) := by decide +kernel
theorem dL_law_310 : decode cL_law 310 = .ok (.iconst 0, 1) := by decide +kernel
theorem dL_law_311 : decode cL_law 311 = .ok (.laload, 1) := by decide +kernel
theorem dL_law_312 : decode cL_law 312 = .ok (.iload 6, 2) := by decide +kernel
theorem dL_law_314 : decode cL_law 314 = .ok (.i2l, 1) := by decide +kernel
theorem dL_law_315 : decode cL_law 315 = .ok (.lcmp, 1) := by decide +kernel
theorem dL_law_316 : decode cL_law 316 = .ok (.ifCond .eq 5, 3) := by decide +kernel
theorem dL_law_319 : decode cL_law 319 = .ok (.iconst 0, 1) := by decide +kernel
theorem dL_law_320 : decode cL_law 320 = .ok (.ireturn, 1) := by decide +kernel
theorem dL_law_321 : decode cL_law 321 = .ok (.goto 723, 3) := by decide +kernel
theorem dL_law_324 : decode cL_law 324 = .ok (.aload_n 1, 1) := by decide +kernel
theorem dL_law_325 : decode cL_law 325 = .ok (.aload_n 0, 1) := by decide +kernel
theorem dL_law_326 : decode cL_law 326 = .ok (.iload 4, 2) := by decide +kernel
theorem dL_law_328 : decode cL_law 328 = .ok (.iconst 1, 1) := by decide +kernel
theorem dL_law_329 : decode cL_law 329 = .ok (.iadd, 1) := by decide +kernel
theorem dL_law_330 : decode cL_law 330 = .ok (.iaload, 1) := by decide +kernel
theorem dL_law_331 : decode cL_law 331 = .ok (.aload_n 0, 1) := by decide +kernel
theorem dL_law_332 : decode cL_law 332 = .ok (.iload 4, 2) := by decide +kernel
theorem dL_law_334 : decode cL_law 334 = .ok (.iconst 2, 1) := by decide +kernel
theorem dL_law_335 : decode cL_law 335 = .ok (.iadd, 1) := by decide +kernel
theorem dL_law_336 : decode cL_law 336 = .ok (.iaload, 1) := by decide +kernel
theorem dL_law_337 : decode cL_law 337 = .ok (.aload_n 0, 1) := by decide +kernel
theorem dL_law_338 : decode cL_law 338 = .ok (.iload 4, 2) := by decide +kernel
theorem dL_law_340 : decode cL_law 340 = .ok (.iconst 3, 1) := by decide +kernel
theorem dL_law_341 : decode cL_law 341 = .ok (.iadd, 1) := by decide +kernel
theorem dL_law_342 : decode cL_law 342 = .ok (.iaload, 1) := by decide +kernel
theorem dL_law_343 : decode cL_law 343 = .ok (.invokestatic 90, 3) := by decide +kernel
theorem dL_law_346 : decode cL_law 346 = .ok (.istore 5, 2) := by decide +kernel
theorem dL_law_348 : decode cL_law 348 = .ok (.aload_n 2, 1) := by decide +kernel
theorem dL_law_349 : decode cL_law 349 = .ok (.aload_n 0, 1) := by decide +kernel
theorem dL_law_350 : decode cL_law 350 = .ok (.iload 4, 2) := by decide +kernel
theorem dL_law_352 : decode cL_law 352 = .ok (.iconst 1, 1) := by decide +kernel
theorem dL_law_353 : decode cL_law 353 = .ok (.iadd, 1) := by decide +kernel
theorem dL_law_354 : decode cL_law 354 = .ok (.iaload, 1) := by decide +kernel
theorem dL_law_355 : decode cL_law 355 = .ok (.aload_n 0, 1) := by decide +kernel
theorem dL_law_356 : decode cL_law 356 = .ok (.iload 4, 2) := by decide +kernel
theorem dL_law_358 : decode cL_law 358 = .ok (.iconst 2, 1) := by decide +kernel
theorem dL_law_359 : decode cL_law 359 = .ok (.iadd, 1) := by decide +kernel
theorem dL_law_360 : decode cL_law 360 = .ok (.iaload, 1) := by decide +kernel
theorem dL_law_361 : decode cL_law 361 = .ok (.aload_n 0, 1) := by decide +kernel
theorem dL_law_362 : decode cL_law 362 = .ok (.iload 4, 2) := by decide +kernel
theorem dL_law_364 : decode cL_law 364 = .ok (.iconst 3, 1) := by decide +kernel
theorem dL_law_365 : decode cL_law 365 = .ok (.iadd, 1) := by decide +kernel
theorem dL_law_366 : decode cL_law 366 = .ok (.iaload, 1) := by decide +kernel
theorem dL_law_367 : decode cL_law 367 = .ok (.invokevirtual 93, 3) := by decide +kernel
theorem dL_law_370 : decode cL_law 370 = .ok (.aload_n 2, 1) := by decide +kernel
theorem dL_law_371 : decode cL_law 371 = .ok (.invokevirtual 80, 3) := by decide +kernel
theorem dL_law_374 : decode cL_law 374 = .ok (.iload 5, 2) := by decide +kernel
theorem dL_law_376 : decode cL_law 376 = .ok (.if_icmp .eq 5, 3) := by decide +kernel
theorem dL_law_379 : decode cL_law 379 = .ok (.iconst 0, 1) := by decide +kernel
theorem dL_law_380 : decode cL_law 380 = .ok (.ireturn, 1) := by decide +kernel
theorem dL_law_381 : decode cL_law 381 = .ok (.goto 663, 3) := by decide +kernel
theorem dL_law_384 : decode cL_law 384 = .ok (.aload_n 1, 1) := by decide +kernel
theorem dL_law_385 : decode cL_law 385 = .ok (.aload_n 0, 1) := by decide +kernel
theorem dL_law_386 : decode cL_law 386 = .ok (.iload 4, 2) := by decide +kernel
theorem dL_law_388 : decode cL_law 388 = .ok (.iconst 1, 1) := by decide +kernel
theorem dL_law_389 : decode cL_law 389 = .ok (.iadd, 1) := by decide +kernel
theorem dL_law_390 : decode cL_law 390 = .ok (.iaload, 1) := by decide +kernel
theorem dL_law_391 : decode cL_law 391 = .ok (.aload_n 3, 1) := by decide +kernel
theorem dL_law_392 : decode cL_law 392 = .ok (.invokestatic 94, 3) := by decide +kernel
theorem dL_law_395 : decode cL_law 395 = .ok (.istore 5, 2) := by decide +kernel
theorem dL_law_397 : decode cL_law 397 = .ok (.aload_n 2, 1) := by decide +kernel
theorem dL_law_398 : decode cL_law 398 = .ok (.aload_n 0, 1) := by decide +kernel
theorem dL_law_399 : decode cL_law 399 = .ok (.iload 4, 2) := by decide +kernel
theorem dL_law_401 : decode cL_law 401 = .ok (.iconst 1, 1) := by decide +kernel
theorem dL_law_402 : decode cL_law 402 = .ok (.iadd, 1) := by decide +kernel
theorem dL_law_403 : decode cL_law 403 = .ok (.iaload, 1) := by decide +kernel
theorem dL_law_404 : decode cL_law 404 = .ok (.invokevirtual 96, 3) := by decide +kernel
theorem dL_law_407 : decode cL_law 407 = .ok (.istore 6, 2) := by decide +kernel
theorem dL_law_409 : decode cL_law 409 = .ok (.aload_n 2, 1) := by decide +kernel
theorem dL_law_410 : decode cL_law 410 = .ok (.invokevirtual 80, 3) := by decide +kernel
theorem dL_law_413 : decode cL_law 413 = .ok (.iload 5, 2) := by decide +kernel
theorem dL_law_415 : decode cL_law 415 = .ok (.if_icmp .eq 5, 3) := by decide +kernel
theorem dL_law_418 : decode cL_law 418 = .ok (.iconst 0, 1) := by decide +kernel
theorem dL_law_419 : decode cL_law 419 = .ok (.ireturn, 1) := by decide +kernel
theorem dL_law_420 : decode cL_law 420 = .ok (.iload 5, 2) := by decide +kernel
theorem dL_law_422 : decode cL_law 422 = .ok (.ifCond .ne 15, 3) := by decide +kernel
theorem dL_law_425 : decode cL_law 425 = .ok (.aload_n 3, 1) := by decide +kernel
theorem dL_law_426 : decode cL_law 426 = .ok (.iconst 0, 1) := by decide +kernel
theorem dL_law_427 : decode cL_law 427 = .ok (.laload, 1) := by decide +kernel
theorem dL_law_428 : decode cL_law 428 = .ok (.iload 6, 2) := by decide +kernel
theorem dL_law_430 : decode cL_law 430 = .ok (.i2l, 1) := by decide +kernel
theorem dL_law_431 : decode cL_law 431 = .ok (.lcmp, 1) := by decide +kernel
theorem dL_law_432 : decode cL_law 432 = .ok (.ifCond .eq 5, 3) := by decide +kernel
theorem dL_law_435 : decode cL_law 435 = .ok (.iconst 0, 1) := by decide +kernel
theorem dL_law_436 : decode cL_law 436 = .ok (.ireturn, 1) := by decide +kernel
theorem dL_law_437 : decode cL_law 437 = .ok (.goto 607, 3) := by decide +kernel
theorem dL_law_440 : decode cL_law 440 = .ok (.aload_n 1, 1) := by decide +kernel
theorem dL_law_441 : decode cL_law 441 = .ok (.aload_n 0, 1) := by decide +kernel
theorem dL_law_442 : decode cL_law 442 = .ok (.iload 4, 2) := by decide +kernel
theorem dL_law_444 : decode cL_law 444 = .ok (.iconst 1, 1) := by decide +kernel
theorem dL_law_445 : decode cL_law 445 = .ok (.iadd, 1) := by decide +kernel
theorem dL_law_446 : decode cL_law 446 = .ok (.iaload, 1) := by decide +kernel
theorem dL_law_447 : decode cL_law 447 = .ok (.aload_n 0, 1) := by decide +kernel
theorem dL_law_448 : decode cL_law 448 = .ok (.iload 4, 2) := by decide +kernel
theorem dL_law_450 : decode cL_law 450 = .ok (.iconst 2, 1) := by decide +kernel
theorem dL_law_451 : decode cL_law 451 = .ok (.iadd, 1) := by decide +kernel
theorem dL_law_452 : decode cL_law 452 = .ok (.iaload, 1) := by decide +kernel
theorem dL_law_453 : decode cL_law 453 = .ok (.aload_n 3, 1) := by decide +kernel
theorem dL_law_454 : decode cL_law 454 = .ok (.invokestatic 97, 3) := by decide +kernel
theorem dL_law_457 : decode cL_law 457 = .ok (.istore 5, 2) := by decide +kernel
theorem dL_law_459 : decode cL_law 459 = .ok (.aload_n 2, 1) := by decide +kernel
theorem dL_law_460 : decode cL_law 460 = .ok (.aload_n 0, 1) := by decide +kernel
theorem dL_law_461 : decode cL_law 461 = .ok (.iload 4, 2) := by decide +kernel
theorem dL_law_463 : decode cL_law 463 = .ok (.iconst 1, 1) := by decide +kernel
theorem dL_law_464 : decode cL_law 464 = .ok (.iadd, 1) := by decide +kernel
theorem dL_law_465 : decode cL_law 465 = .ok (.iaload, 1) := by decide +kernel
theorem dL_law_466 : decode cL_law 466 = .ok (.aload_n 0, 1) := by decide +kernel
theorem dL_law_467 : decode cL_law 467 = .ok (.iload 4, 2) := by decide +kernel
theorem dL_law_469 : decode cL_law 469 = .ok (.iconst 2, 1) := by decide +kernel
theorem dL_law_470 : decode cL_law 470 = .ok (.iadd, 1) := by decide +kernel
theorem dL_law_471 : decode cL_law 471 = .ok (.iaload, 1) := by decide +kernel
theorem dL_law_472 : decode cL_law 472 = .ok (.invokevirtual 100, 3) := by decide +kernel
theorem dL_law_475 : decode cL_law 475 = .ok (.istore 6, 2) := by decide +kernel
theorem dL_law_477 : decode cL_law 477 = .ok (.aload_n 2, 1) := by decide +kernel
theorem dL_law_478 : decode cL_law 478 = .ok (.invokevirtual 80, 3) := by decide +kernel
theorem dL_law_481 : decode cL_law 481 = .ok (.iload 5, 2) := by decide +kernel
theorem dL_law_483 : decode cL_law 483 = .ok (.if_icmp .eq 5, 3) := by decide +kernel
theorem dL_law_486 : decode cL_law 486 = .ok (.iconst 0, 1) := by decide +kernel
theorem dL_law_487 : decode cL_law 487 = .ok (.ireturn, 1) := by decide +kernel
theorem dL_law_488 : decode cL_law 488 = .ok (.iload 5, 2) := by decide +kernel
theorem dL_law_490 : decode cL_law 490 = .ok (.ifCond .ne 15, 3) := by decide +kernel
theorem dL_law_493 : decode cL_law 493 = .ok (.aload_n 3, 1) := by decide +kernel
theorem dL_law_494 : decode cL_law 494 = .ok (.iconst 0, 1) := by decide +kernel
theorem dL_law_495 : decode cL_law 495 = .ok (.laload, 1) := by decide +kernel
theorem dL_law_496 : decode cL_law 496 = .ok (.iload 6, 2) := by decide +kernel
theorem dL_law_498 : decode cL_law 498 = .ok (.i2l, 1) := by decide +kernel
theorem dL_law_499 : decode cL_law 499 = .ok (.lcmp, 1) := by decide +kernel
theorem dL_law_500 : decode cL_law 500 = .ok (.ifCond .eq 5, 3) := by decide +kernel
theorem dL_law_503 : decode cL_law 503 = .ok (.iconst 0, 1) := by decide +kernel
theorem dL_law_504 : decode cL_law 504 = .ok (.ireturn, 1) := by decide +kernel
theorem dL_law_505 : decode cL_law 505 = .ok (.goto 539, 3) := by decide +kernel
theorem dL_law_508 : decode cL_law 508 = .ok (.aload_n 1, 1) := by decide +kernel
theorem dL_law_509 : decode cL_law 509 = .ok (.aload_n 0, 1) := by decide +kernel
theorem dL_law_510 : decode cL_law 510 = .ok (.iload 4, 2) := by decide +kernel
theorem dL_law_512 : decode cL_law 512 = .ok (.iconst 1, 1) := by decide +kernel
theorem dL_law_513 : decode cL_law 513 = .ok (.iadd, 1) := by decide +kernel
theorem dL_law_514 : decode cL_law 514 = .ok (.iaload, 1) := by decide +kernel
theorem dL_law_515 : decode cL_law 515 = .ok (.aload_n 0, 1) := by decide +kernel
theorem dL_law_516 : decode cL_law 516 = .ok (.iload 4, 2) := by decide +kernel
theorem dL_law_518 : decode cL_law 518 = .ok (.iconst 2, 1) := by decide +kernel
theorem dL_law_519 : decode cL_law 519 = .ok (.iadd, 1) := by decide +kernel
theorem dL_law_520 : decode cL_law 520 = .ok (.iaload, 1) := by decide +kernel
theorem dL_law_521 : decode cL_law 521 = .ok (.ifCond .eq 7, 3) := by decide +kernel
theorem dL_law_524 : decode cL_law 524 = .ok (.iconst 1, 1) := by decide +kernel
theorem dL_law_525 : decode cL_law 525 = .ok (.goto 4, 3) := by decide +kernel
theorem dL_law_528 : decode cL_law 528 = .ok (.iconst 0, 1) := by decide +kernel
theorem dL_law_529 : decode cL_law 529 = .ok (.aload_n 3, 1) := by decide +kernel
theorem dL_law_530 : decode cL_law 530 = .ok (.invokestatic 101, 3) := by decide +kernel
theorem dL_law_533 : decode cL_law 533 = .ok (.istore 5, 2) := by decide +kernel
theorem dL_law_535 : decode cL_law 535 = .ok (.aload_n 2, 1) := by decide +kernel
theorem dL_law_536 : decode cL_law 536 = .ok (.aload_n 0, 1) := by decide +kernel
theorem dL_law_537 : decode cL_law 537 = .ok (.iload 4, 2) := by decide +kernel
theorem dL_law_539 : decode cL_law 539 = .ok (.iconst 1, 1) := by decide +kernel
theorem dL_law_540 : decode cL_law 540 = .ok (.iadd, 1) := by decide +kernel
theorem dL_law_541 : decode cL_law 541 = .ok (.iaload, 1) := by decide +kernel
theorem dL_law_542 : decode cL_law 542 = .ok (.aload_n 0, 1) := by decide +kernel
theorem dL_law_543 : decode cL_law 543 = .ok (.iload 4, 2) := by decide +kernel
theorem dL_law_545 : decode cL_law 545 = .ok (.iconst 2, 1) := by decide +kernel
theorem dL_law_546 : decode cL_law 546 = .ok (.iadd, 1) := by decide +kernel
theorem dL_law_547 : decode cL_law 547 = .ok (.iaload, 1) := by decide +kernel
theorem dL_law_548 : decode cL_law 548 = .ok (.ifCond .eq 7, 3) := by decide +kernel
theorem dL_law_551 : decode cL_law 551 = .ok (.iconst 1, 1) := by decide +kernel
theorem dL_law_552 : decode cL_law 552 = .ok (.goto 4, 3) := by decide +kernel
theorem dL_law_555 : decode cL_law 555 = .ok (.iconst 0, 1) := by decide +kernel
theorem dL_law_556 : decode cL_law 556 = .ok (.invokevirtual 104, 3) := by decide +kernel
theorem dL_law_559 : decode cL_law 559 = .ok (.istore 6, 2) := by decide +kernel
theorem dL_law_561 : decode cL_law 561 = .ok (.aload_n 2, 1) := by decide +kernel
theorem dL_law_562 : decode cL_law 562 = .ok (.invokevirtual 80, 3) := by decide +kernel
theorem dL_law_565 : decode cL_law 565 = .ok (.iload 5, 2) := by decide +kernel
theorem dL_law_567 : decode cL_law 567 = .ok (.if_icmp .eq 5, 3) := by decide +kernel
theorem dL_law_570 : decode cL_law 570 = .ok (.iconst 0, 1) := by decide +kernel
theorem dL_law_571 : decode cL_law 571 = .ok (.ireturn, 1) := by decide +kernel
theorem dL_law_572 : decode cL_law 572 = .ok (.iload 5, 2) := by decide +kernel
theorem dL_law_574 : decode cL_law 574 = .ok (.ifCond .ne 22, 3) := by decide +kernel
theorem dL_law_577 : decode cL_law 577 = .ok (.aload_n 3, 1) := by decide +kernel
theorem dL_law_578 : decode cL_law 578 = .ok (.iconst 0, 1) := by decide +kernel
theorem dL_law_579 : decode cL_law 579 = .ok (.laload, 1) := by decide +kernel
theorem dL_law_580 : decode cL_law 580 = .ok (.iload 6, 2) := by decide +kernel
theorem dL_law_582 : decode cL_law 582 = .ok (.ifCond .eq 7, 3) := by decide +kernel
theorem dL_law_585 : decode cL_law 585 = .ok (.lconst 1, 1) := by decide +kernel
theorem dL_law_586 : decode cL_law 586 = .ok (.goto 4, 3) := by decide +kernel
theorem dL_law_589 : decode cL_law 589 = .ok (.lconst 0, 1) := by decide +kernel
theorem dL_law_590 : decode cL_law 590 = .ok (.lcmp, 1) := by decide +kernel
theorem dL_law_591 : decode cL_law 591 = .ok (.ifCond .eq 5, 3) := by decide +kernel
theorem dL_law_594 : decode cL_law 594 = .ok (.iconst 0, 1) := by decide +kernel
theorem dL_law_595 : decode cL_law 595 = .ok (.ireturn, 1) := by decide +kernel
theorem dL_law_596 : decode cL_law 596 = .ok (.goto 448, 3) := by decide +kernel
theorem dL_law_599 : decode cL_law 599 = .ok (.aload_n 1, 1) := by decide +kernel
theorem dL_law_600 : decode cL_law 600 = .ok (.aload_n 0, 1) := by decide +kernel
theorem dL_law_601 : decode cL_law 601 = .ok (.iload 4, 2) := by decide +kernel
theorem dL_law_603 : decode cL_law 603 = .ok (.iconst 1, 1) := by decide +kernel
theorem dL_law_604 : decode cL_law 604 = .ok (.iadd, 1) := by decide +kernel
theorem dL_law_605 : decode cL_law 605 = .ok (.iaload, 1) := by decide +kernel
theorem dL_law_606 : decode cL_law 606 = .ok (.aload_n 0, 1) := by decide +kernel
theorem dL_law_607 : decode cL_law 607 = .ok (.iload 4, 2) := by decide +kernel
theorem dL_law_609 : decode cL_law 609 = .ok (.iconst 2, 1) := by decide +kernel
theorem dL_law_610 : decode cL_law 610 = .ok (.iadd, 1) := by decide +kernel
theorem dL_law_611 : decode cL_law 611 = .ok (.iaload, 1) := by decide +kernel
theorem dL_law_612 : decode cL_law 612 = .ok (.aload_n 3, 1) := by decide +kernel
theorem dL_law_613 : decode cL_law 613 = .ok (.invokestatic 105, 3) := by decide +kernel
theorem dL_law_616 : decode cL_law 616 = .ok (.istore 5, 2) := by decide +kernel
theorem dL_law_618 : decode cL_law 618 = .ok (.aload_n 2, 1) := by decide +kernel
theorem dL_law_619 : decode cL_law 619 = .ok (.aload_n 0, 1) := by decide +kernel
theorem dL_law_620 : decode cL_law 620 = .ok (.iload 4, 2) := by decide +kernel
theorem dL_law_622 : decode cL_law 622 = .ok (.iconst 1, 1) := by decide +kernel
theorem dL_law_623 : decode cL_law 623 = .ok (.iadd, 1) := by decide +kernel
theorem dL_law_624 : decode cL_law 624 = .ok (.iaload, 1) := by decide +kernel
theorem dL_law_625 : decode cL_law 625 = .ok (.aload_n 0, 1) := by decide +kernel
theorem dL_law_626 : decode cL_law 626 = .ok (.iload 4, 2) := by decide +kernel
theorem dL_law_628 : decode cL_law 628 = .ok (.iconst 2, 1) := by decide +kernel
theorem dL_law_629 : decode cL_law 629 = .ok (.iadd, 1) := by decide +kernel
theorem dL_law_630 : decode cL_law 630 = .ok (.iaload, 1) := by decide +kernel
theorem dL_law_631 : decode cL_law 631 = .ok (.invokevirtual 107, 3) := by decide +kernel
theorem dL_law_634 : decode cL_law 634 = .ok (.istore 6, 2) := by decide +kernel
theorem dL_law_636 : decode cL_law 636 = .ok (.aload_n 2, 1) := by decide +kernel
theorem dL_law_637 : decode cL_law 637 = .ok (.invokevirtual 80, 3) := by decide +kernel
theorem dL_law_640 : decode cL_law 640 = .ok (.iload 5, 2) := by decide +kernel
theorem dL_law_642 : decode cL_law 642 = .ok (.if_icmp .eq 5, 3) := by decide +kernel
theorem dL_law_645 : decode cL_law 645 = .ok (.iconst 0, 1) := by decide +kernel
theorem dL_law_646 : decode cL_law 646 = .ok (.ireturn, 1) := by decide +kernel
theorem dL_law_647 : decode cL_law 647 = .ok (.iload 5, 2) := by decide +kernel
theorem dL_law_649 : decode cL_law 649 = .ok (.ifCond .ne 15, 3) := by decide +kernel
theorem dL_law_652 : decode cL_law 652 = .ok (.aload_n 3, 1) := by decide +kernel
theorem dL_law_653 : decode cL_law 653 = .ok (.iconst 0, 1) := by decide +kernel
theorem dL_law_654 : decode cL_law 654 = .ok (.laload, 1) := by decide +kernel
theorem dL_law_655 : decode cL_law 655 = .ok (.iload 6, 2) := by decide +kernel
theorem dL_law_657 : decode cL_law 657 = .ok (.i2l, 1) := by decide +kernel
theorem dL_law_658 : decode cL_law 658 = .ok (.lcmp, 1) := by decide +kernel
theorem dL_law_659 : decode cL_law 659 = .ok (.ifCond .eq 5, 3) := by decide +kernel
theorem dL_law_662 : decode cL_law 662 = .ok (.iconst 0, 1) := by decide +kernel
theorem dL_law_663 : decode cL_law 663 = .ok (.ireturn, 1) := by decide +kernel
theorem dL_law_664 : decode cL_law 664 = .ok (.goto 380, 3) := by decide +kernel
theorem dL_law_667 : decode cL_law 667 = .ok (.aload_n 1, 1) := by decide +kernel
theorem dL_law_668 : decode cL_law 668 = .ok (.aload_n 0, 1) := by decide +kernel
theorem dL_law_669 : decode cL_law 669 = .ok (.iload 4, 2) := by decide +kernel
theorem dL_law_671 : decode cL_law 671 = .ok (.iconst 1, 1) := by decide +kernel
theorem dL_law_672 : decode cL_law 672 = .ok (.iadd, 1) := by decide +kernel
theorem dL_law_673 : decode cL_law 673 = .ok (.iaload, 1) := by decide +kernel
theorem dL_law_674 : decode cL_law 674 = .ok (.invokevirtual 108, 3) := by decide +kernel
theorem dL_law_677 : decode cL_law 677 = .ok (.aload_n 2, 1) := by decide +kernel
theorem dL_law_678 : decode cL_law 678 = .ok (.aload_n 0, 1) := by decide +kernel
theorem dL_law_679 : decode cL_law 679 = .ok (.iload 4, 2) := by decide +kernel
theorem dL_law_681 : decode cL_law 681 = .ok (.iconst 1, 1) := by decide +kernel
theorem dL_law_682 : decode cL_law 682 = .ok (.iadd, 1) := by decide +kernel
theorem dL_law_683 : decode cL_law 683 = .ok (.iaload, 1) := by decide +kernel
theorem dL_law_684 : decode cL_law 684 = .ok (.invokevirtual 111, 3) := by decide +kernel
theorem dL_law_687 : decode cL_law 687 = .ok (.if_icmp .eq 357, 3) := by decide +kernel
theorem dL_law_690 : decode cL_law 690 = .ok (.iconst 0, 1) := by decide +kernel
theorem dL_law_691 : decode cL_law 691 = .ok (.ireturn, 1) := by decide +kernel
theorem dL_law_692 : decode cL_law 692 = .ok (.aload_n 1, 1) := by decide +kernel
theorem dL_law_693 : decode cL_law 693 = .ok (.aload_n 0, 1) := by decide +kernel
theorem dL_law_694 : decode cL_law 694 = .ok (.iload 4, 2) := by decide +kernel
theorem dL_law_696 : decode cL_law 696 = .ok (.iconst 1, 1) := by decide +kernel
theorem dL_law_697 : decode cL_law 697 = .ok (.iadd, 1) := by decide +kernel
theorem dL_law_698 : decode cL_law 698 = .ok (.iaload, 1) := by decide +kernel
theorem dL_law_699 : decode cL_law 699 = .ok (.aload_n 0, 1) := by decide +kernel
theorem dL_law_700 : decode cL_law 700 = .ok (.iload 4, 2) := by decide +kernel
theorem dL_law_702 : decode cL_law 702 = .ok (.iconst 2, 1) := by decide +kernel
theorem dL_law_703 : decode cL_law 703 = .ok (.iadd, 1) := by decide +kernel
theorem dL_law_704 : decode cL_law 704 = .ok (.iaload, 1) := by decide +kernel
theorem dL_law_705 : decode cL_law 705 = .ok (.ifCond .eq 7, 3) := by decide +kernel
theorem dL_law_708 : decode cL_law 708 = .ok (.iconst 1, 1) := by decide +kernel
theorem dL_law_709 : decode cL_law 709 = .ok (.goto 4, 3) := by decide +kernel
theorem dL_law_712 : decode cL_law 712 = .ok (.iconst 0, 1) := by decide +kernel
theorem dL_law_713 : decode cL_law 713 = .ok (.aload_n 3, 1) := by decide +kernel
theorem dL_law_714 : decode cL_law 714 = .ok (.invokestatic 112, 3) := by decide +kernel
theorem dL_law_717 : decode cL_law 717 = .ok (.istore 5, 2) := by decide +kernel
theorem dL_law_719 : decode cL_law 719 = .ok (.aload_n 2, 1) := by decide +kernel
theorem dL_law_720 : decode cL_law 720 = .ok (.aload_n 0, 1) := by decide +kernel
theorem dL_law_721 : decode cL_law 721 = .ok (.iload 4, 2) := by decide +kernel
theorem dL_law_723 : decode cL_law 723 = .ok (.iconst 1, 1) := by decide +kernel
theorem dL_law_724 : decode cL_law 724 = .ok (.iadd, 1) := by decide +kernel
theorem dL_law_725 : decode cL_law 725 = .ok (.iaload, 1) := by decide +kernel
theorem dL_law_726 : decode cL_law 726 = .ok (.aload_n 0, 1) := by decide +kernel
theorem dL_law_727 : decode cL_law 727 = .ok (.iload 4, 2) := by decide +kernel
theorem dL_law_729 : decode cL_law 729 = .ok (.iconst 2, 1) := by decide +kernel
theorem dL_law_730 : decode cL_law 730 = .ok (.iadd, 1) := by decide +kernel
end
section
theorem dL_law_731 : decode cL_law 731 = .ok (.iaload, 1) := by decide +kernel
theorem dL_law_732 : decode cL_law 732 = .ok (.ifCond .eq 7, 3) := by decide +kernel
theorem dL_law_735 : decode cL_law 735 = .ok (.iconst 1, 1) := by decide +kernel
theorem dL_law_736 : decode cL_law 736 = .ok (.goto 4, 3) := by decide +kernel
theorem dL_law_739 : decode cL_law 739 = .ok (.iconst 0, 1) := by decide +kernel
theorem dL_law_740 : decode cL_law 740 = .ok (.invokevirtual 114, 3) := by decide +kernel
theorem dL_law_743 : decode cL_law 743 = .ok (.istore 6, 2) := by decide +kernel
theorem dL_law_745 : decode cL_law 745 = .ok (.aload_n 2, 1) := by decide +kernel
theorem dL_law_746 : decode cL_law 746 = .ok (.invokevirtual 80, 3) := by decide +kernel
theorem dL_law_749 : decode cL_law 749 = .ok (.iload 5, 2) := by decide +kernel
theorem dL_law_751 : decode cL_law 751 = .ok (.if_icmp .eq 5, 3) := by decide +kernel
theorem dL_law_754 : decode cL_law 754 = .ok (.iconst 0, 1) := by decide +kernel
theorem dL_law_755 : decode cL_law 755 = .ok (.ireturn, 1) := by decide +kernel
theorem dL_law_756 : decode cL_law 756 = .ok (.iload 5, 2) := by decide +kernel
theorem dL_law_758 : decode cL_law 758 = .ok (.ifCond .ne 15, 3) := by decide +kernel
theorem dL_law_761 : decode cL_law 761 = .ok (.aload_n 3, 1) := by decide +kernel
theorem dL_law_762 : decode cL_law 762 = .ok (.iconst 0, 1) := by decide +kernel
theorem dL_law_763 : decode cL_law 763 = .ok (.laload, 1) := by decide +kernel
theorem dL_law_764 : decode cL_law 764 = .ok (.iload 6, 2) := by decide +kernel
theorem dL_law_766 : decode cL_law 766 = .ok (.i2l, 1) := by decide +kernel
theorem dL_law_767 : decode cL_law 767 = .ok (.lcmp, 1) := by decide +kernel
theorem dL_law_768 : decode cL_law 768 = .ok (.ifCond .eq 5, 3) := by decide +kernel
theorem dL_law_771 : decode cL_law 771 = .ok (.iconst 0, 1) := by decide +kernel
theorem dL_law_772 : decode cL_law 772 = .ok (.ireturn, 1) := by decide +kernel
theorem dL_law_773 : decode cL_law 773 = .ok (.goto 271, 3) := by decide +kernel
theorem dL_law_776 : decode cL_law 776 = .ok (.aload_n 1, 1) := by decide +kernel
theorem dL_law_777 : decode cL_law 777 = .ok (.aload_n 3, 1) := by decide +kernel
theorem dL_law_778 : decode cL_law 778 = .ok (.invokestatic 115, 3) := by decide +kernel
theorem dL_law_781 : decode cL_law 781 = .ok (.istore 5, 2) := by decide +kernel
theorem dL_law_783 : decode cL_law 783 = .ok (.aload_n 2, 1) := by decide +kernel
theorem dL_law_784 : decode cL_law 784 = .ok (.invokevirtual 118, 3) := by decide +kernel
theorem dL_law_787 : decode cL_law 787 = .ok (.istore 6, 2) := by decide +kernel
theorem dL_law_789 : decode cL_law 789 = .ok (.aload_n 2, 1) := by decide +kernel
theorem dL_law_790 : decode cL_law 790 = .ok (.invokevirtual 80, 3) := by decide +kernel
theorem dL_law_793 : decode cL_law 793 = .ok (.iload 5, 2) := by decide +kernel
theorem dL_law_795 : decode cL_law 795 = .ok (.if_icmp .eq 5, 3) := by decide +kernel
theorem dL_law_798 : decode cL_law 798 = .ok (.iconst 0, 1) := by decide +kernel
theorem dL_law_799 : decode cL_law 799 = .ok (.ireturn, 1) := by decide +kernel
theorem dL_law_800 : decode cL_law 800 = .ok (.iload 5, 2) := by decide +kernel
theorem dL_law_802 : decode cL_law 802 = .ok (.ifCond .ne 15, 3) := by decide +kernel
theorem dL_law_805 : decode cL_law 805 = .ok (.aload_n 3, 1) := by decide +kernel
theorem dL_law_806 : decode cL_law 806 = .ok (.iconst 0, 1) := by decide +kernel
theorem dL_law_807 : decode cL_law 807 = .ok (.laload, 1) := by decide +kernel
theorem dL_law_808 : decode cL_law 808 = .ok (.iload 6, 2) := by decide +kernel
theorem dL_law_810 : decode cL_law 810 = .ok (.i2l, 1) := by decide +kernel
theorem dL_law_811 : decode cL_law 811 = .ok (.lcmp, 1) := by decide +kernel
theorem dL_law_812 : decode cL_law 812 = .ok (.ifCond .eq 5, 3) := by decide +kernel
theorem dL_law_815 : decode cL_law 815 = .ok (.iconst 0, 1) := by decide +kernel
theorem dL_law_816 : decode cL_law 816 = .ok (.ireturn, 1) := by decide +kernel
theorem dL_law_817 : decode cL_law 817 = .ok (.goto 227, 3) := by decide +kernel
theorem dL_law_820 : decode cL_law 820 = .ok (.aload_n 1, 1) := by decide +kernel
theorem dL_law_821 : decode cL_law 821 = .ok (.aload_n 0, 1) := by decide +kernel
theorem dL_law_822 : decode cL_law 822 = .ok (.iload 4, 2) := by decide +kernel
theorem dL_law_824 : decode cL_law 824 = .ok (.iconst 1, 1) := by decide +kernel
theorem dL_law_825 : decode cL_law 825 = .ok (.iadd, 1) := by decide +kernel
theorem dL_law_826 : decode cL_law 826 = .ok (.iaload, 1) := by decide +kernel
theorem dL_law_827 : decode cL_law 827 = .ok (.aload_n 0, 1) := by decide +kernel
theorem dL_law_828 : decode cL_law 828 = .ok (.iload 4, 2) := by decide +kernel
theorem dL_law_830 : decode cL_law 830 = .ok (.iconst 2, 1) := by decide +kernel
theorem dL_law_831 : decode cL_law 831 = .ok (.iadd, 1) := by decide +kernel
theorem dL_law_832 : decode cL_law 832 = .ok (.iaload, 1) := by decide +kernel
theorem dL_law_833 : decode cL_law 833 = .ok (.aload_n 3, 1) := by decide +kernel
theorem dL_law_834 : decode cL_law 834 = .ok (.invokestatic 119, 3) := by decide +kernel
theorem dL_law_837 : decode cL_law 837 = .ok (.istore 5, 2) := by decide +kernel
theorem dL_law_839 : decode cL_law 839 = .ok (.aload_n 2, 1) := by decide +kernel
theorem dL_law_840 : decode cL_law 840 = .ok (.aload_n 0, 1) := by decide +kernel
theorem dL_law_841 : decode cL_law 841 = .ok (.iload 4, 2) := by decide +kernel
theorem dL_law_843 : decode cL_law 843 = .ok (.iconst 1, 1) := by decide +kernel
theorem dL_law_844 : decode cL_law 844 = .ok (.iadd, 1) := by decide +kernel
theorem dL_law_845 : decode cL_law 845 = .ok (.iaload, 1) := by decide +kernel
theorem dL_law_846 : decode cL_law 846 = .ok (.aload_n 0, 1) := by decide +kernel
theorem dL_law_847 : decode cL_law 847 = .ok (.iload 4, 2) := by decide +kernel
theorem dL_law_849 : decode cL_law 849 = .ok (.iconst 2, 1) := by decide +kernel
theorem dL_law_850 : decode cL_law 850 = .ok (.iadd, 1) := by decide +kernel
theorem dL_law_851 : decode cL_law 851 = .ok (.iaload, 1) := by decide +kernel
theorem dL_law_852 : decode cL_law 852 = .ok (.invokevirtual 121, 3) := by decide +kernel
theorem dL_law_855 : decode cL_law 855 = .ok (.istore 6, 2) := by decide +kernel
theorem dL_law_857 : decode cL_law 857 = .ok (.aload_n 2, 1) := by decide +kernel
theorem dL_law_858 : decode cL_law 858 = .ok (.invokevirtual 80, 3) := by decide +kernel
theorem dL_law_861 : decode cL_law 861 = .ok (.iload 5, 2) := by decide +kernel
theorem dL_law_863 : decode cL_law 863 = .ok (.if_icmp .eq 5, 3) := by decide +kernel
theorem dL_law_866 : decode cL_law 866 = .ok (.iconst 0, 1) := by decide +kernel
theorem dL_law_867 : decode cL_law 867 = .ok (.ireturn, 1) := by decide +kernel
theorem dL_law_868 : decode cL_law 868 = .ok (.iload 5, 2) := by decide +kernel
theorem dL_law_870 : decode cL_law 870 = .ok (.ifCond .ne 22, 3) := by decide +kernel
theorem dL_law_873 : decode cL_law 873 = .ok (.aload_n 3, 1) := by decide +kernel
theorem dL_law_874 : decode cL_law 874 = .ok (.iconst 0, 1) := by decide +kernel
theorem dL_law_875 : decode cL_law 875 = .ok (.laload, 1) := by decide +kernel
theorem dL_law_876 : decode cL_law 876 = .ok (.iload 6, 2) := by decide +kernel
theorem dL_law_878 : decode cL_law 878 = .ok (.ifCond .eq 7, 3) := by decide +kernel
theorem dL_law_881 : decode cL_law 881 = .ok (.lconst 1, 1) := by decide +kernel
theorem dL_law_882 : decode cL_law 882 = .ok (.goto 4, 3) := by decide +kernel
theorem dL_law_885 : decode cL_law 885 = .ok (.lconst 0, 1) := by decide +kernel
theorem dL_law_886 : decode cL_law 886 = .ok (.lcmp, 1) := by decide +kernel
theorem dL_law_887 : decode cL_law 887 = .ok (.ifCond .eq 5, 3) := by decide +kernel
theorem dL_law_890 : decode cL_law 890 = .ok (.iconst 0, 1) := by decide +kernel
theorem dL_law_891 : decode cL_law 891 = .ok (.ireturn, 1) := by decide +kernel
theorem dL_law_892 : decode cL_law 892 = .ok (.goto 152, 3) := by decide +kernel
theorem dL_law_895 : decode cL_law 895 = .ok (.aload_n 1, 1) := by decide +kernel
theorem dL_law_896 : decode cL_law 896 = .ok (.aload_n 0, 1) := by decide +kernel
theorem dL_law_897 : decode cL_law 897 = .ok (.iload 4, 2) := by decide +kernel
theorem dL_law_899 : decode cL_law 899 = .ok (.iconst 1, 1) := by decide +kernel
theorem dL_law_900 : decode cL_law 900 = .ok (.iadd, 1) := by decide +kernel
theorem dL_law_901 : decode cL_law 901 = .ok (.iaload, 1) := by decide +kernel
theorem dL_law_902 : decode cL_law 902 = .ok (.aload_n 3, 1) := by decide +kernel
theorem dL_law_903 : decode cL_law 903 = .ok (.invokestatic 122, 3) := by decide +kernel
theorem dL_law_906 : decode cL_law 906 = .ok (.istore 5, 2) := by decide +kernel
theorem dL_law_908 : decode cL_law 908 = .ok (.aload_n 2, 1) := by decide +kernel
theorem dL_law_909 : decode cL_law 909 = .ok (.aload_n 0, 1) := by decide +kernel
theorem dL_law_910 : decode cL_law 910 = .ok (.iload 4, 2) := by decide +kernel
theorem dL_law_912 : decode cL_law 912 = .ok (.iconst 1, 1) := by decide +kernel
theorem dL_law_913 : decode cL_law 913 = .ok (.iadd, 1) := by decide +kernel
theorem dL_law_914 : decode cL_law 914 = .ok (.iaload, 1) := by decide +kernel
theorem dL_law_915 : decode cL_law 915 = .ok (.invokevirtual 124, 3) := by decide +kernel
theorem dL_law_918 : decode cL_law 918 = .ok (.istore 6, 2) := by decide +kernel
theorem dL_law_920 : decode cL_law 920 = .ok (.aload_n 2, 1) := by decide +kernel
theorem dL_law_921 : decode cL_law 921 = .ok (.invokevirtual 80, 3) := by decide +kernel
theorem dL_law_924 : decode cL_law 924 = .ok (.iload 5, 2) := by decide +kernel
theorem dL_law_926 : decode cL_law 926 = .ok (.if_icmp .eq 5, 3) := by decide +kernel
theorem dL_law_929 : decode cL_law 929 = .ok (.iconst 0, 1) := by decide +kernel
theorem dL_law_930 : decode cL_law 930 = .ok (.ireturn, 1) := by decide +kernel
theorem dL_law_931 : decode cL_law 931 = .ok (.iload 5, 2) := by decide +kernel
theorem dL_law_933 : decode cL_law 933 = .ok (.ifCond .ne 15, 3) := by decide +kernel
theorem dL_law_936 : decode cL_law 936 = .ok (.aload_n 3, 1) := by decide +kernel
theorem dL_law_937 : decode cL_law 937 = .ok (.iconst 0, 1) := by decide +kernel
theorem dL_law_938 : decode cL_law 938 = .ok (.laload, 1) := by decide +kernel
theorem dL_law_939 : decode cL_law 939 = .ok (.iload 6, 2) := by decide +kernel
theorem dL_law_941 : decode cL_law 941 = .ok (.i2l, 1) := by decide +kernel
theorem dL_law_942 : decode cL_law 942 = .ok (.lcmp, 1) := by decide +kernel
theorem dL_law_943 : decode cL_law 943 = .ok (.ifCond .eq 5, 3) := by decide +kernel
theorem dL_law_946 : decode cL_law 946 = .ok (.iconst 0, 1) := by decide +kernel
theorem dL_law_947 : decode cL_law 947 = .ok (.ireturn, 1) := by decide +kernel
theorem dL_law_948 : decode cL_law 948 = .ok (.goto 96, 3) := by decide +kernel
theorem dL_law_951 : decode cL_law 951 = .ok (.aload_n 1, 1) := by decide +kernel
theorem dL_law_952 : decode cL_law 952 = .ok (.aload_n 0, 1) := by decide +kernel
theorem dL_law_953 : decode cL_law 953 = .ok (.iload 4, 2) := by decide +kernel
theorem dL_law_955 : decode cL_law 955 = .ok (.iconst 1, 1) := by decide +kernel
theorem dL_law_956 : decode cL_law 956 = .ok (.iadd, 1) := by decide +kernel
theorem dL_law_957 : decode cL_law 957 = .ok (.iaload, 1) := by decide +kernel
theorem dL_law_958 : decode cL_law 958 = .ok (.aload_n 0, 1) := by decide +kernel
theorem dL_law_959 : decode cL_law 959 = .ok (.iload 4, 2) := by decide +kernel
theorem dL_law_961 : decode cL_law 961 = .ok (.iconst 2, 1) := by decide +kernel
theorem dL_law_962 : decode cL_law 962 = .ok (.iadd, 1) := by decide +kernel
theorem dL_law_963 : decode cL_law 963 = .ok (.iaload, 1) := by decide +kernel
theorem dL_law_964 : decode cL_law 964 = .ok (.aload_n 3, 1) := by decide +kernel
theorem dL_law_965 : decode cL_law 965 = .ok (.invokestatic 125, 3) := by decide +kernel
theorem dL_law_968 : decode cL_law 968 = .ok (.istore 5, 2) := by decide +kernel
theorem dL_law_970 : decode cL_law 970 = .ok (.aload_n 2, 1) := by decide +kernel
theorem dL_law_971 : decode cL_law 971 = .ok (.aload_n 0, 1) := by decide +kernel
theorem dL_law_972 : decode cL_law 972 = .ok (.iload 4, 2) := by decide +kernel
theorem dL_law_974 : decode cL_law 974 = .ok (.iconst 1, 1) := by decide +kernel
theorem dL_law_975 : decode cL_law 975 = .ok (.iadd, 1) := by decide +kernel
theorem dL_law_976 : decode cL_law 976 = .ok (.iaload, 1) := by decide +kernel
theorem dL_law_977 : decode cL_law 977 = .ok (.aload_n 0, 1) := by decide +kernel
theorem dL_law_978 : decode cL_law 978 = .ok (.iload 4, 2) := by decide +kernel
theorem dL_law_980 : decode cL_law 980 = .ok (.iconst 2, 1) := by decide +kernel
theorem dL_law_981 : decode cL_law 981 = .ok (.iadd, 1) := by decide +kernel
theorem dL_law_982 : decode cL_law 982 = .ok (.iaload, 1) := by decide +kernel
theorem dL_law_983 : decode cL_law 983 = .ok (.invokevirtual 127, 3) := by decide +kernel
theorem dL_law_986 : decode cL_law 986 = .ok (.istore 6, 2) := by decide +kernel
theorem dL_law_988 : decode cL_law 988 = .ok (.aload_n 2, 1) := by decide +kernel
theorem dL_law_989 : decode cL_law 989 = .ok (.invokevirtual 80, 3) := by decide +kernel
theorem dL_law_992 : decode cL_law 992 = .ok (.iload 5, 2) := by decide +kernel
theorem dL_law_994 : decode cL_law 994 = .ok (.if_icmp .eq 5, 3) := by decide +kernel
theorem dL_law_997 : decode cL_law 997 = .ok (.iconst 0, 1) := by decide +kernel
theorem dL_law_998 : decode cL_law 998 = .ok (.ireturn, 1) := by decide +kernel
theorem dL_law_999 : decode cL_law 999 = .ok (.iload 5, 2) := by decide +kernel
theorem dL_law_1001 : decode cL_law 1001 = .ok (.ifCond .ne 15, 3) := by decide +kernel
theorem dL_law_1004 : decode cL_law 1004 = .ok (.aload_n 3, 1) := by decide +kernel
theorem dL_law_1005 : decode cL_law 1005 = .ok (.iconst 0, 1) := by decide +kernel
theorem dL_law_1006 : decode cL_law 1006 = .ok (.laload, 1) := by decide +kernel
theorem dL_law_1007 : decode cL_law 1007 = .ok (.iload 6, 2) := by decide +kernel
theorem dL_law_1009 : decode cL_law 1009 = .ok (.i2l, 1) := by decide +kernel
theorem dL_law_1010 : decode cL_law 1010 = .ok (.lcmp, 1) := by decide +kernel
theorem dL_law_1011 : decode cL_law 1011 = .ok (.ifCond .eq 5, 3) := by decide +kernel
theorem dL_law_1014 : decode cL_law 1014 = .ok (.iconst 0, 1) := by decide +kernel
theorem dL_law_1015 : decode cL_law 1015 = .ok (.ireturn, 1) := by decide +kernel
theorem dL_law_1016 : decode cL_law 1016 = .ok (.goto 28, 3) := by decide +kernel
theorem dL_law_1019 : decode cL_law 1019 = .ok (.aload_n 1, 1) := by decide +kernel
theorem dL_law_1020 : decode cL_law 1020 = .ok (.aload_n 0, 1) := by decide +kernel
theorem dL_law_1021 : decode cL_law 1021 = .ok (.iload 4, 2) := by decide +kernel
theorem dL_law_1023 : decode cL_law 1023 = .ok (.iconst 1, 1) := by decide +kernel
theorem dL_law_1024 : decode cL_law 1024 = .ok (.iadd, 1) := by decide +kernel
theorem dL_law_1025 : decode cL_law 1025 = .ok (.iaload, 1) := by decide +kernel
theorem dL_law_1026 : decode cL_law 1026 = .ok (.invokevirtual 128, 3) := by decide +kernel
theorem dL_law_1029 : decode cL_law 1029 = .ok (.aload_n 2, 1) := by decide +kernel
theorem dL_law_1030 : decode cL_law 1030 = .ok (.aload_n 0, 1) := by decide +kernel
theorem dL_law_1031 : decode cL_law 1031 = .ok (.iload 4, 2) := by decide +kernel
theorem dL_law_1033 : decode cL_law 1033 = .ok (.iconst 1, 1) := by decide +kernel
theorem dL_law_1034 : decode cL_law 1034 = .ok (.iadd, 1) := by decide +kernel
theorem dL_law_1035 : decode cL_law 1035 = .ok (.iaload, 1) := by decide +kernel
theorem dL_law_1036 : decode cL_law 1036 = .ok (.invokevirtual 131, 3) := by decide +kernel
theorem dL_law_1039 : decode cL_law 1039 = .ok (.if_icmp .eq 5, 3) := by decide +kernel
theorem dL_law_1042 : decode cL_law 1042 = .ok (.iconst 0, 1) := by decide +kernel
theorem dL_law_1043 : decode cL_law 1043 = .ok (.ireturn, 1) := by decide +kernel
theorem dL_law_1044 : decode cL_law 1044 = .ok (.iinc 4 4, 3) := by decide +kernel
theorem dL_law_1047 : decode cL_law 1047 = .ok (.goto (-1004), 3) := by decide +kernel
theorem dL_law_1050 : decode cL_law 1050 = .ok (.iconst 1, 1) := by decide +kernel
theorem dL_law_1051 : decode cL_law 1051 = .ok (.ireturn, 1) := by decide +kernel
abbrev vwCl : List vw_C := [(RJx00060, TJx00060, 6), (RX0, TX0, 12), (RX1, TX1, 2), (RX2, TX2, 10), (RX3, TX3, 23)]
end
section
/-! numbers: every int of the walk is written zz_i a, a an integer; rows of the kit turned to that form -/
section ZZ
def zz_i (a : Int) : Int32 := Int32.ofInt a
theorem zz_self (x : Int32) : zz_i x.toInt = x := Int32.ofInt_toInt x
theorem zz_bd (x : Int32) : -2147483648 ≤ x.toInt ∧ x.toInt < 2147483648 := ⟨by have := Int32.le_toInt x; omega, by have := Int32.toInt_lt x; omega⟩
theorem zz_toInt {a : Int} (h : -2147483648 ≤ a ∧ a < 2147483648) : (zz_i a).toInt = a := Int32.toInt_ofInt_of_le (by omega) (by omega)
theorem zz_lt {a b : Int} (ha : -2147483648 ≤ a ∧ a < 2147483648) (hb : -2147483648 ≤ b ∧ b < 2147483648) : zz_i a < zz_i b ↔ a < b := by
  rw [Int32.lt_iff_toInt_lt, zz_toInt ha, zz_toInt hb]
theorem zz_le {a b : Int} (ha : -2147483648 ≤ a ∧ a < 2147483648) (hb : -2147483648 ≤ b ∧ b < 2147483648) : zz_i a ≤ zz_i b ↔ a ≤ b := by
  rw [Int32.le_iff_toInt_le, zz_toInt ha, zz_toInt hb]
theorem zz_eq {a b : Int} (ha : -2147483648 ≤ a ∧ a < 2147483648) (hb : -2147483648 ≤ b ∧ b < 2147483648) : zz_i a = zz_i b ↔ a = b := by
  rw [← Int32.toInt_inj, zz_toInt ha, zz_toInt hb]
theorem zz_add (a b : Int) : zz_i a + zz_i b = zz_i (a + b) := (Int32.ofInt_add a b).symm
theorem zz_sub (a b : Int) : zz_i a - zz_i b = zz_i (a - b) := (Int32.ofInt_sub a b).symm
theorem zz_mul (a b : Int) : zz_i a * zz_i b = zz_i (a * b) := (Int32.ofInt_mul a b).symm
theorem zz_0 : zz_i 0 = 0 := rfl
theorem zz_nat {a : Int} (h : 0 ≤ a ∧ a < 2147483648) : (zz_i a).toNatClampNeg = a.toNat := Int32.toNatClampNeg_ofInt_of_le (by omega) (by omega)
theorem zz_in {a : Int} {n : Nat} (h : 0 ≤ a ∧ a < n) (hn : n < 2147483648) : vp_in (zz_i a) n := by
  rw [vp_in_iff, zz_toInt (by omega)]; exact h
theorem zz_div {a b : Int} (ha : 0 ≤ a ∧ a < 2147483648) (hb : 0 < b ∧ b < 2147483648) : zz_i a / zz_i b = zz_i (a / b) := by
  have h1 : (zz_i a / zz_i b).toInt = a.tdiv b := by
    rw [Int32.toInt_div_of_ne_left _ _ (fun h => by have h2 := congrArg Int32.toInt h; rw [zz_toInt (by omega)] at h2; have : Int32.minValue.toInt = -2147483648 := rfl; omega), zz_toInt (by omega), zz_toInt (by omega)]
  have h2 : a.tdiv b = a / b := Int.tdiv_eq_ediv_of_nonneg ha.1
  have h3 := Int.ediv_le_self b ha.1
  have h4 := Int.ediv_nonneg ha.1 (show 0 ≤ b by omega)
  rw [← Int32.toInt_inj, h1, h2, zz_toInt (by omega)]
theorem zz_rem {a b : Int} (ha : 0 ≤ a ∧ a < 2147483648) (hb : 0 < b ∧ b < 2147483648) : zz_i a - zz_i a / zz_i b * zz_i b = zz_i (a % b) := by
  rw [zz_div ha hb, zz_mul, zz_sub]
  congr 1
  have := Int.emod_def a b
  have h2 : a / b * b = b * (a / b) := Int.mul_comm _ _
  omega
theorem zz_pred (x : Int) : ∃ y : Int, zz_i (x - 1) = zz_i y ∧ ((x = -2147483648 ∧ y = 2147483647) ∨ (x ≠ -2147483648 ∧ y = x - 1)) := by
  by_cases h : x = -2147483648
  · exact ⟨2147483647, by rw [h]; decide, Or.inl ⟨h, rfl⟩⟩
  · exact ⟨x - 1, rfl, Or.inr ⟨h, rfl⟩⟩
/-- one place of a row changed -/
def up_i (g : Int → Int) (a v : Int) : Int → Int := fun j => if j = a then v else g j
/-- the numbers of a sorter: a row of integers for each name (a number), a single number stands at place 0 of its row -/
abbrev zz_S : Type := Nat → Int → Int
def up_a (σ : zz_S) (F : Nat) (a v : Int) : zz_S := fun G => bif Nat.beq G F then up_i (σ F) a v else σ G
def up_s (σ : zz_S) (F : Nat) (v : Int) : zz_S := fun G => bif Nat.beq G F then (fun _ => v) else σ G
theorem up_i_s (g : Int → Int) (a v : Int) : up_i g a v a = v := by simp [up_i]
theorem up_i_n {g : Int → Int} {a v j : Int} (h : j ≠ a) : up_i g a v j = g j := by simp [up_i, h]
theorem up_i_ap (g : Int → Int) (a v j : Int) : up_i g a v j = if j = a then v else g j := rfl
theorem up_a_s (σ : zz_S) (F : Nat) (a v : Int) : up_a σ F a v F = up_i (σ F) a v := by simp [up_a]
theorem up_a_n {σ : zz_S} {F G : Nat} {a v : Int} (h : G ≠ F) : up_a σ F a v G = σ G := by
  have : Nat.beq G F = false := by cases hq : Nat.beq G F with | true => exact absurd (Nat.eq_of_beq_eq_true hq) h | false => rfl
  simp [up_a, this]
theorem up_s_s (σ : zz_S) (F : Nat) (v j : Int) : up_s σ F v F j = v := by simp [up_s]
theorem up_s_n {σ : zz_S} {F G : Nat} {v : Int} (h : G ≠ F) : up_s σ F v G = σ G := by
  have : Nat.beq G F = false := by cases hq : Nat.beq G F with | true => exact absurd (Nat.eq_of_beq_eq_true hq) h | false => rfl
  simp [up_s, this]
theorem zz_upd {g : Int → Int} {a v : Int} (h : 0 ≤ a ∧ a < 2147483648) : upd (fun j : Nat => zz_i (g j)) (zz_i a).toNatClampNeg (zz_i v) = fun j : Nat => zz_i (up_i g a v j) := by
  funext j
  rw [zz_nat h]
  simp only [upd, up_i]
  by_cases q : j = a.toNat
  · rw [if_pos q, if_pos (by omega)]
  · rw [if_neg q, if_neg (by omega)]
theorem zz_nar {v : Int} (h : v = 0 ∨ v = 1) : vp_nar .boolean (zz_i v) = zz_i v := by rcases h with rfl | rfl <;> decide
theorem zz_narB {v : Int} (h : v = 0 ∨ v = 1) : narrow .boolean (.int (zz_i v)) = .int (zz_i v) := by rcases h with rfl | rfl <;> decide
theorem zz_fitB {v : Int} (h : v = 0 ∨ v = 1) : fits .boolean (.int (zz_i v)) = true := by rcases h with rfl | rfl <;> decide
end ZZ
section ZR
variable {p : Program} {l : Launch} {e : Env} {R : Room} {s : State} {m : MethodId} {args : Array Value} {below : List Frame} {meth : Method} {c : Code} {H : Heap} {locs : List Loc} {cells slots : Nat} {Q : State → Prop} {cc : ByteArray} {pc : Nat} {ls : Array Slot} {rest : List Value} {D : va_G} {cl : List vw_C} {A : Nat → Prop} {aa : Nat} {tys : List (ClassId × FieldType)} {ws : va_W} {H0 : Heap} {a b : Int} {off : Int} {tgt : Nat}
theorem zz_icmp_eq (hx : p.tables.exec = Jvm.exec) (hb : c.code = cc) (hdg : decode cc pc = .ok (.if_icmp .eq off, 3)) (ht : (pc : Int) + off = (tgt : Int)) (ha : -2147483648 ≤ a ∧ a < 2147483648) (hb2 : -2147483648 ≤ b ∧ b < 2147483648)
    (kt : a = b → W p l e R s m args below meth c H locs cells slots Q (F0 m tgt ls rest)) (kf : a ≠ b → W p l e R s m args below meth c H locs cells slots Q (F0 m (pc + 3) ls rest)) : W p l e R s m args below meth c H locs cells slots Q (F0 m pc ls (.int (zz_i b) :: .int (zz_i a) :: rest)) :=
  lv_icmp_eq hx hb hdg ht (fun h => kt ((zz_eq ha hb2).mp h)) (fun h => kf (fun q => h ((zz_eq ha hb2).mpr q)))
theorem zz_icmp_ne (hx : p.tables.exec = Jvm.exec) (hb : c.code = cc) (hdg : decode cc pc = .ok (.if_icmp .ne off, 3)) (ht : (pc : Int) + off = (tgt : Int)) (ha : -2147483648 ≤ a ∧ a < 2147483648) (hb2 : -2147483648 ≤ b ∧ b < 2147483648)
    (kt : a ≠ b → W p l e R s m args below meth c H locs cells slots Q (F0 m tgt ls rest)) (kf : a = b → W p l e R s m args below meth c H locs cells slots Q (F0 m (pc + 3) ls rest)) : W p l e R s m args below meth c H locs cells slots Q (F0 m pc ls (.int (zz_i b) :: .int (zz_i a) :: rest)) :=
  lv_icmp_ne hx hb hdg ht (fun h => kt (fun q => h ((zz_eq ha hb2).mpr q))) (fun h => kf ((zz_eq ha hb2).mp h))
theorem zz_icmp_lt (hx : p.tables.exec = Jvm.exec) (hb : c.code = cc) (hdg : decode cc pc = .ok (.if_icmp .lt off, 3)) (ht : (pc : Int) + off = (tgt : Int)) (ha : -2147483648 ≤ a ∧ a < 2147483648) (hb2 : -2147483648 ≤ b ∧ b < 2147483648)
    (kt : a < b → W p l e R s m args below meth c H locs cells slots Q (F0 m tgt ls rest)) (kf : b ≤ a → W p l e R s m args below meth c H locs cells slots Q (F0 m (pc + 3) ls rest)) : W p l e R s m args below meth c H locs cells slots Q (F0 m pc ls (.int (zz_i b) :: .int (zz_i a) :: rest)) :=
  lv_icmp_lt hx hb hdg ht (fun h => kt ((zz_lt ha hb2).mp h)) (fun h => kf (Int.not_lt.mp (fun q => h ((zz_lt ha hb2).mpr q))))
theorem zz_icmp_ge (hx : p.tables.exec = Jvm.exec) (hb : c.code = cc) (hdg : decode cc pc = .ok (.if_icmp .ge off, 3)) (ht : (pc : Int) + off = (tgt : Int)) (ha : -2147483648 ≤ a ∧ a < 2147483648) (hb2 : -2147483648 ≤ b ∧ b < 2147483648)
    (kt : b ≤ a → W p l e R s m args below meth c H locs cells slots Q (F0 m tgt ls rest)) (kf : a < b → W p l e R s m args below meth c H locs cells slots Q (F0 m (pc + 3) ls rest)) : W p l e R s m args below meth c H locs cells slots Q (F0 m pc ls (.int (zz_i b) :: .int (zz_i a) :: rest)) :=
  lv_icmp_ge hx hb hdg ht (fun h => kt ((zz_le hb2 ha).mp h)) (fun h => kf (Int.not_le.mp (fun q => h ((zz_le hb2 ha).mpr q))))
theorem zz_icmp_gt (hx : p.tables.exec = Jvm.exec) (hb : c.code = cc) (hdg : decode cc pc = .ok (.if_icmp .gt off, 3)) (ht : (pc : Int) + off = (tgt : Int)) (ha : -2147483648 ≤ a ∧ a < 2147483648) (hb2 : -2147483648 ≤ b ∧ b < 2147483648)
    (kt : b < a → W p l e R s m args below meth c H locs cells slots Q (F0 m tgt ls rest)) (kf : a ≤ b → W p l e R s m args below meth c H locs cells slots Q (F0 m (pc + 3) ls rest)) : W p l e R s m args below meth c H locs cells slots Q (F0 m pc ls (.int (zz_i b) :: .int (zz_i a) :: rest)) :=
  lv_icmp_gt hx hb hdg ht (fun h => kt ((zz_lt hb2 ha).mp h)) (fun h => kf (Int.not_lt.mp (fun q => h ((zz_lt hb2 ha).mpr q))))
theorem zz_icmp_le (hx : p.tables.exec = Jvm.exec) (hb : c.code = cc) (hdg : decode cc pc = .ok (.if_icmp .le off, 3)) (ht : (pc : Int) + off = (tgt : Int)) (ha : -2147483648 ≤ a ∧ a < 2147483648) (hb2 : -2147483648 ≤ b ∧ b < 2147483648)
    (kt : a ≤ b → W p l e R s m args below meth c H locs cells slots Q (F0 m tgt ls rest)) (kf : b < a → W p l e R s m args below meth c H locs cells slots Q (F0 m (pc + 3) ls rest)) : W p l e R s m args below meth c H locs cells slots Q (F0 m pc ls (.int (zz_i b) :: .int (zz_i a) :: rest)) :=
  lv_icmp_le hx hb hdg ht (fun h => kt ((zz_le ha hb2).mp h)) (fun h => kf (Int.not_le.mp (fun q => h ((zz_le ha hb2).mpr q))))
theorem zz_if_eq (hx : p.tables.exec = Jvm.exec) (hb : c.code = cc) (hdg : decode cc pc = .ok (.ifCond .eq off, 3)) (ht : (pc : Int) + off = (tgt : Int)) (ha : -2147483648 ≤ a ∧ a < 2147483648)
    (kt : a = 0 → W p l e R s m args below meth c H locs cells slots Q (F0 m tgt ls rest)) (kf : a ≠ 0 → W p l e R s m args below meth c H locs cells slots Q (F0 m (pc + 3) ls rest)) : W p l e R s m args below meth c H locs cells slots Q (F0 m pc ls (.int (zz_i a) :: rest)) :=
  lv_if_eq hx hb hdg ht (fun h => kt ((zz_eq ha (by omega)).mp h)) (fun h => kf (fun q => h ((zz_eq ha (by omega)).mpr q)))
theorem zz_if_ne (hx : p.tables.exec = Jvm.exec) (hb : c.code = cc) (hdg : decode cc pc = .ok (.ifCond .ne off, 3)) (ht : (pc : Int) + off = (tgt : Int)) (ha : -2147483648 ≤ a ∧ a < 2147483648)
    (kt : a ≠ 0 → W p l e R s m args below meth c H locs cells slots Q (F0 m tgt ls rest)) (kf : a = 0 → W p l e R s m args below meth c H locs cells slots Q (F0 m (pc + 3) ls rest)) : W p l e R s m args below meth c H locs cells slots Q (F0 m pc ls (.int (zz_i a) :: rest)) :=
  lv_if_ne hx hb hdg ht (fun h => kt (fun q => h ((zz_eq ha (by omega)).mpr q))) (fun h => kf ((zz_eq ha (by omega)).mp h))
theorem zz_if_lt (hx : p.tables.exec = Jvm.exec) (hb : c.code = cc) (hdg : decode cc pc = .ok (.ifCond .lt off, 3)) (ht : (pc : Int) + off = (tgt : Int)) (ha : -2147483648 ≤ a ∧ a < 2147483648)
    (kt : a < 0 → W p l e R s m args below meth c H locs cells slots Q (F0 m tgt ls rest)) (kf : 0 ≤ a → W p l e R s m args below meth c H locs cells slots Q (F0 m (pc + 3) ls rest)) : W p l e R s m args below meth c H locs cells slots Q (F0 m pc ls (.int (zz_i a) :: rest)) :=
  lv_if_lt hx hb hdg ht (fun h => kt ((zz_lt ha (by omega)).mp h)) (fun h => kf (Int.not_lt.mp (fun q => h ((zz_lt ha (by omega)).mpr q))))
theorem zz_if_ge (hx : p.tables.exec = Jvm.exec) (hb : c.code = cc) (hdg : decode cc pc = .ok (.ifCond .ge off, 3)) (ht : (pc : Int) + off = (tgt : Int)) (ha : -2147483648 ≤ a ∧ a < 2147483648)
    (kt : 0 ≤ a → W p l e R s m args below meth c H locs cells slots Q (F0 m tgt ls rest)) (kf : a < 0 → W p l e R s m args below meth c H locs cells slots Q (F0 m (pc + 3) ls rest)) : W p l e R s m args below meth c H locs cells slots Q (F0 m pc ls (.int (zz_i a) :: rest)) :=
  lv_if_ge hx hb hdg ht (fun h => kt ((zz_le (by omega) ha).mp h)) (fun h => kf (Int.not_le.mp (fun q => h ((zz_le (by omega) ha).mpr q))))
theorem zz_if_gt (hx : p.tables.exec = Jvm.exec) (hb : c.code = cc) (hdg : decode cc pc = .ok (.ifCond .gt off, 3)) (ht : (pc : Int) + off = (tgt : Int)) (ha : -2147483648 ≤ a ∧ a < 2147483648)
    (kt : 0 < a → W p l e R s m args below meth c H locs cells slots Q (F0 m tgt ls rest)) (kf : a ≤ 0 → W p l e R s m args below meth c H locs cells slots Q (F0 m (pc + 3) ls rest)) : W p l e R s m args below meth c H locs cells slots Q (F0 m pc ls (.int (zz_i a) :: rest)) :=
  lv_if_gt hx hb hdg ht (fun h => kt ((zz_lt (by omega) ha).mp h)) (fun h => kf (Int.not_lt.mp (fun q => h ((zz_lt (by omega) ha).mpr q))))
theorem zz_if_le (hx : p.tables.exec = Jvm.exec) (hb : c.code = cc) (hdg : decode cc pc = .ok (.ifCond .le off, 3)) (ht : (pc : Int) + off = (tgt : Int)) (ha : -2147483648 ≤ a ∧ a < 2147483648)
    (kt : a ≤ 0 → W p l e R s m args below meth c H locs cells slots Q (F0 m tgt ls rest)) (kf : 0 < a → W p l e R s m args below meth c H locs cells slots Q (F0 m (pc + 3) ls rest)) : W p l e R s m args below meth c H locs cells slots Q (F0 m pc ls (.int (zz_i a) :: rest)) :=
  lv_if_le hx hb hdg ht (fun h => kt ((zz_le ha (by omega)).mp h)) (fun h => kf (Int.not_le.mp (fun q => h ((zz_le ha (by omega)).mpr q))))
theorem zz_iadd (hx : p.tables.exec = Jvm.exec) (hb : c.code = cc) (hdg : decode cc pc = .ok (.iadd, 1)) (k : W p l e R s m args below meth c H locs cells slots Q (F0 m (pc + 1) ls (.int (zz_i (a + b)) :: rest))) : W p l e R s m args below meth c H locs cells slots Q (F0 m pc ls (.int (zz_i b) :: .int (zz_i a) :: rest)) :=
  lv_iadd hx hb hdg (by rw [zz_add]; exact k)
theorem zz_isub (hx : p.tables.exec = Jvm.exec) (hb : c.code = cc) (hdg : decode cc pc = .ok (.isub, 1)) (k : W p l e R s m args below meth c H locs cells slots Q (F0 m (pc + 1) ls (.int (zz_i (a - b)) :: rest))) : W p l e R s m args below meth c H locs cells slots Q (F0 m pc ls (.int (zz_i b) :: .int (zz_i a) :: rest)) :=
  lv_isub hx hb hdg (by rw [zz_sub]; exact k)
theorem zz_imul (hx : p.tables.exec = Jvm.exec) (hb : c.code = cc) (hdg : decode cc pc = .ok (.imul, 1)) (k : W p l e R s m args below meth c H locs cells slots Q (F0 m (pc + 1) ls (.int (zz_i (a * b)) :: rest))) : W p l e R s m args below meth c H locs cells slots Q (F0 m pc ls (.int (zz_i b) :: .int (zz_i a) :: rest)) :=
  lv_imul hx hb hdg (by rw [zz_mul]; exact k)
theorem zz_idiv (hx : p.tables.exec = Jvm.exec) (hb : c.code = cc) (hdg : decode cc pc = .ok (.idiv, 1)) (ha : 0 ≤ a ∧ a < 2147483648) (hb2 : 0 < b ∧ b < 2147483648) (k : W p l e R s m args below meth c H locs cells slots Q (F0 m (pc + 1) ls (.int (zz_i (a / b)) :: rest))) : W p l e R s m args below meth c H locs cells slots Q (F0 m pc ls (.int (zz_i b) :: .int (zz_i a) :: rest)) :=
  lv_idiv hx hb hdg (fun h => by have := (zz_eq (a := b) (b := 0) (by omega) (by omega)).mp h; omega) (by rw [zz_div ha hb2]; exact k)
theorem zz_irem (hx : p.tables.exec = Jvm.exec) (hb : c.code = cc) (hdg : decode cc pc = .ok (.irem, 1)) (ha : 0 ≤ a ∧ a < 2147483648) (hb2 : 0 < b ∧ b < 2147483648) (k : W p l e R s m args below meth c H locs cells slots Q (F0 m (pc + 1) ls (.int (zz_i (a % b)) :: rest))) : W p l e R s m args below meth c H locs cells slots Q (F0 m pc ls (.int (zz_i b) :: .int (zz_i a) :: rest)) :=
  lv_irem hx hb hdg (fun h => by have := (zz_eq (a := b) (b := 0) (by omega) (by omega)).mp h; omega) (by rw [zz_rem ha hb2]; exact k)
theorem zz_iald (hx : p.tables.exec = Jvm.exec) (hb : c.code = cc) (hK : va_K D cl tys s) (hP : va_P D cl ws H) (q0 t0 : Nat) {cA : ClassId} {n : Nat} {g : Int → Int} (hw : ws[q0]? = some (aa, .inl (cA, n, .inl (fun j : Nat => zz_i (g j))))) (ht : tys[t0]? = some (cA, .int)) (hi : 0 ≤ a ∧ a < n) (hn : n < 2147483648) (hdg : decode cc pc = .ok (.iaload, 1))
    (kk : W p l e R s m args below meth c H locs cells slots Q (F0 m (pc + 1) ls (.int (zz_i (g a)) :: rest))) : W p l e R s m args below meth c H locs cells slots Q (F0 m pc ls (.int (zz_i a) :: .ref aa :: rest)) :=
  va_iald hx hb hK hP q0 t0 hw ht (zz_in hi hn) hdg (by
    have h1 : ((a.toNat : Nat) : Int) = a := Int.toNat_of_nonneg hi.1
    rw [zz_nat (by omega), h1]; exact kk)
theorem zz_zald (hx : p.tables.exec = Jvm.exec) (hb : c.code = cc) (hK : va_K D cl tys s) (hP : va_P D cl ws H) (q0 t0 : Nat) {cA : ClassId} {n : Nat} {g : Int → Int} (hw : ws[q0]? = some (aa, .inl (cA, n, .inl (fun j : Nat => zz_i (g j))))) (ht : tys[t0]? = some (cA, .boolean)) (hi : 0 ≤ a ∧ a < n) (hn : n < 2147483648) (hdg : decode cc pc = .ok (.baload, 1))
    (kk : W p l e R s m args below meth c H locs cells slots Q (F0 m (pc + 1) ls (.int (zz_i (g a)) :: rest))) : W p l e R s m args below meth c H locs cells slots Q (F0 m pc ls (.int (zz_i a) :: .ref aa :: rest)) :=
  va_zald hx hb hK hP q0 t0 hw ht (zz_in hi hn) hdg (by
    have h1 : ((a.toNat : Nat) : Int) = a := Int.toNat_of_nonneg hi.1
    rw [zz_nat (by omega), h1]; exact kk)
theorem zz_iast (hx : p.tables.exec = Jvm.exec) (hb : c.code = cc) (hK : va_K D cl tys s) (hP : va_P D cl ws H) (hD : va_D A ws) (hS : va_S A H0 H locs) (q0 t0 : Nat) {cA : ClassId} {n : Nat} {g : Int → Int} (hw : ws[q0]? = some (aa, .inl (cA, n, .inl (fun j : Nat => zz_i (g j))))) (ht : tys[t0]? = some (cA, .int)) (hi : 0 ≤ a ∧ a < n) (hn : n < 2147483648) (hdg : decode cc pc = .ok (.iastore, 1))
    (kk : ∀ (H1 : Heap) (locs1 : List Loc), va_P D cl (ws.set q0 (aa, .inl (cA, n, .inl (fun j : Nat => zz_i (up_i g a b j))))) H1 → va_D A (ws.set q0 (aa, .inl (cA, n, .inl (fun j : Nat => zz_i (up_i g a b j))))) → va_S A H0 H1 locs1 → W p l e R s m args below meth c H1 locs1 cells slots Q (F0 m (pc + 1) ls rest)) : W p l e R s m args below meth c H locs cells slots Q (F0 m pc ls (.int (zz_i b) :: .int (zz_i a) :: .ref aa :: rest)) :=
  va_iast hx hb hK hP hD hS q0 t0 hw ht (zz_in hi hn) hdg (fun H1 locs1 h1 h2 h3 => kk H1 locs1 (by rw [zz_upd (by omega)] at h1; exact h1) (by rw [zz_upd (by omega)] at h2; exact h2) h3)
theorem zz_zast (hx : p.tables.exec = Jvm.exec) (hb : c.code = cc) (hK : va_K D cl tys s) (hP : va_P D cl ws H) (hD : va_D A ws) (hS : va_S A H0 H locs) (q0 t0 : Nat) {cA : ClassId} {n : Nat} {g : Int → Int} (hw : ws[q0]? = some (aa, .inl (cA, n, .inl (fun j : Nat => zz_i (g j))))) (ht : tys[t0]? = some (cA, .boolean)) (hi : 0 ≤ a ∧ a < n) (hn : n < 2147483648) (hv : b = 0 ∨ b = 1) (hdg : decode cc pc = .ok (.bastore, 1))
    (kk : ∀ (H1 : Heap) (locs1 : List Loc), va_P D cl (ws.set q0 (aa, .inl (cA, n, .inl (fun j : Nat => zz_i (up_i g a b j))))) H1 → va_D A (ws.set q0 (aa, .inl (cA, n, .inl (fun j : Nat => zz_i (up_i g a b j))))) → va_S A H0 H1 locs1 → W p l e R s m args below meth c H1 locs1 cells slots Q (F0 m (pc + 1) ls rest)) : W p l e R s m args below meth c H locs cells slots Q (F0 m pc ls (.int (zz_i b) :: .int (zz_i a) :: .ref aa :: rest)) :=
  va_zast hx hb hK hP hD hS q0 t0 hw ht (zz_in hi hn) hdg (fun H1 locs1 h1 h2 h3 => kk H1 locs1 (by rw [zz_nar hv, zz_upd (by omega)] at h1; exact h1) (by rw [zz_nar hv, zz_upd (by omega)] at h2; exact h2) h3)
end ZR
section ZL
/-- a loop: from its head, for a measure that falls -/
theorem zz_lp {p : Program} {l : Launch} {e : Env} {R : Room} {s : State} {m : MethodId} {args : Array Value} {below : List Frame} {meth : Method} {c : Code} {Q : State → Prop} {pc : Nat} {α : Type} (μ : α → Nat) (cf sf : α → Nat) (I : α → Heap → List Loc → Array Slot → Prop)
    (st : ∀ (a : α) (H : Heap) (locs : List Loc) (ls : Array Slot), I a H locs ls → (∀ (b : α) (H1 : Heap) (locs1 : List Loc) (ls1 : Array Slot), μ b < μ a → I b H1 locs1 ls1 → W p l e R s m args below meth c H1 locs1 (cf b) (sf b) Q (F0 m pc ls1 [])) → W p l e R s m args below meth c H locs (cf a) (sf a) Q (F0 m pc ls [])) :
    ∀ (a : α) (H : Heap) (locs : List Loc) (ls : Array Slot), I a H locs ls → W p l e R s m args below meth c H locs (cf a) (sf a) Q (F0 m pc ls []) := by
  have key : ∀ (n : Nat) (a : α) (H : Heap) (locs : List Loc) (ls : Array Slot), μ a < n → I a H locs ls → W p l e R s m args below meth c H locs (cf a) (sf a) Q (F0 m pc ls []) := by
    intro n
    induction n with
    | zero => intro a H locs ls h; omega
    | succ n ih => intro a H locs ls h hi; exact st a H locs ls hi (fun b H1 locs1 ls1 hb hib => ih b H1 locs1 ls1 (by omega) hib)
  exact fun a H locs ls hi => key (μ a + 1) a H locs ls (Nat.lt_succ_self _) hi
/-- sums over the places 0 .. k - 1 -/
def sm_ (f : Int → Int) : Nat → Int
  | 0 => 0
  | k + 1 => sm_ f k + f k
theorem sm_s (f : Int → Int) {j : Int} (h : 0 ≤ j) : sm_ f (j + 1).toNat = sm_ f j.toNat + f j := by
  have h1 : (j + 1).toNat = j.toNat + 1 := by omega
  have h2 : ((j.toNat : Nat) : Int) = j := by omega
  rw [h1]
  show sm_ f j.toNat + f (j.toNat : Nat) = _
  rw [h2]
theorem sm_b {f : Int → Int} (h : ∀ j, 0 ≤ f j ∧ f j ≤ 1) (k : Nat) : 0 ≤ sm_ f k ∧ sm_ f k ≤ k := by
  induction k with
  | zero => exact ⟨Int.le_refl _, Int.le_refl _⟩
  | succ k ih =>
    have := h k
    have e : sm_ f (k + 1) = sm_ f k + f k := rfl
    omega
end ZL
end
section
/-! the worlds: the class's cells, the reference's cells, what a call needs beside them -/
section ST
abbrev zz_cl : List vw_C := [(RX0, TX0, 12), (RX1, TX1, 2), (RX2, TX2, 10), (RX3, TX3, 23)]
abbrev zz_ty (cy : Nat → Nat) : List (ClassId × FieldType) := [(cy 0, .int), (cy 1, .boolean), (cy 2, .object RX0), (cy 3, .long)]
def aq_ (ad : Int → Nat) (i : Int) : Option Nat := if i = 0 then none else some (ad i)
theorem aq_0 (ad : Int → Nat) : aq_ ad 0 = none := rfl
theorem aq_n {ad : Int → Nat} {i : Int} (h : i ≠ 0) : aq_ ad i = some (ad i) := if_neg h
/-- an item's fields: number, length, state, code, rounds, tray, retries, code after them, doubted, found, left to, left at step -/
def it_v (σ : zz_S) (i : Int) : List Value := [.int (zz_i i), .int (zz_i (σ 12 i)), .int (zz_i (σ 13 i)), .int (zz_i (σ 14 i)), .int (zz_i (σ 15 i)), .int (zz_i (σ 18 i)), .int (zz_i (σ 16 i)), .int (zz_i (σ 17 i)), .int (zz_i (σ 19 i)), .int (zz_i (σ 20 i)), .int (zz_i (σ 21 i)), .int (zz_i (σ 22 i))]
def it_w (ad : Int → Nat) (σ : zz_S) : va_W := (List.range (σ 4 0).toNat).map (fun j : Nat => (ad ((j : Int) + 1), .inr (0, it_v σ ((j : Int) + 1))))
/-- the class's fixed cells -/
def cw_x (cy ga : Nat → Nat) (ad : Int → Nat) (σ : zz_S) : va_W := [
  (ga 0, .inr (2, [.ref (ga 1), .ref (ga 2), .ref (ga 3), .ref (ga 4), .ref (ga 5), .int (zz_i (σ 1 0)), .int (zz_i (σ 3 0)), .int (zz_i (σ 2 0)), .int (zz_i (σ 8 0)), .int (zz_i (σ 6 0))])),
  (ga 1, .inl (cy 2, (σ 0 0).toNat, .inr (.inr (.inr (.inr (fun j : Nat => aq_ ad (σ 10 j))))))),
  (ga 2, .inl (cy 1, (σ 28 0 + 1).toNat, .inl (fun j : Nat => zz_i (σ 11 j)))),
  (ga 3, .inr (1, [.ref (ga 6), .int (zz_i (σ 4 0))])),
  (ga 4, .inr (1, [.ref (ga 7), .int (zz_i (σ 5 0))])),
  (ga 5, .inr (1, [.ref (ga 8), .int (zz_i (σ 7 0))])),
  (ga 6, .inl (cy 2, 60, .inr (.inr (.inr (.inr (fun j : Nat => if (j : Int) < σ 4 0 then some (ad ((j : Int) + 1)) else none)))))),
  (ga 7, .inl (cy 2, 60, .inr (.inr (.inr (.inr (fun j : Nat => aq_ ad (σ 23 j))))))),
  (ga 8, .inl (cy 2, 40, .inr (.inr (.inr (.inr (fun j : Nat => aq_ ad (σ 27 j)))))))]
def cw_ (cy ga : Nat → Nat) (ad : Int → Nat) (σ : zz_S) : va_W := cw_x cy ga ad σ ++ it_w ad σ
/-- the reference's cells -/
def rw_ (cy gr : Nat → Nat) (σ : zz_S) : va_W := [
  (gr 0, .inr (3, [.int (zz_i (σ 9 0)), .int (zz_i (σ 0 0)), .int (zz_i (σ 1 0)), .int (zz_i (σ 2 0)), .int (zz_i (σ 3 0)), .ref (gr 1), .ref (gr 2), .int (zz_i (σ 4 0)), .ref (gr 3), .ref (gr 4), .ref (gr 5), .ref (gr 6), .ref (gr 7), .ref (gr 8), .int (zz_i (σ 5 0)), .ref (gr 9), .ref (gr 10), .ref (gr 11), .ref (gr 12), .int (zz_i (σ 6 0)), .int (zz_i (σ 7 0)), .ref (gr 13), .ref (gr 14)])),
  (gr 1, .inl (cy 0, 40, .inl (fun j : Nat => zz_i (σ 10 j)))),
  (gr 2, .inl (cy 1, 7, .inl (fun j : Nat => zz_i (σ 11 j)))),
  (gr 3, .inl (cy 0, 61, .inl (fun j : Nat => zz_i (σ 12 j)))),
  (gr 4, .inl (cy 0, 61, .inl (fun j : Nat => zz_i (σ 13 j)))),
  (gr 5, .inl (cy 0, 61, .inl (fun j : Nat => zz_i (σ 14 j)))),
  (gr 6, .inl (cy 0, 61, .inl (fun j : Nat => zz_i (σ 15 j)))),
  (gr 7, .inl (cy 0, 61, .inl (fun j : Nat => zz_i (σ 16 j)))),
  (gr 8, .inl (cy 0, 61, .inl (fun j : Nat => zz_i (σ 17 j)))),
  (gr 9, .inl (cy 0, 60, .inl (fun j : Nat => zz_i (σ 23 j)))),
  (gr 10, .inl (cy 0, 60, .inl (fun j : Nat => zz_i (σ 24 j)))),
  (gr 11, .inl (cy 0, 60, .inl (fun j : Nat => zz_i (σ 25 j)))),
  (gr 12, .inl (cy 0, 60, .inl (fun j : Nat => zz_i (σ 26 j)))),
  (gr 13, .inl (cy 0, 40, .inl (fun j : Nat => zz_i (σ 27 j)))),
  (gr 14, .inl (cy 1, 61, .inl (fun j : Nat => zz_i (σ 20 j))))]
def ev_ws : List Cond := [.castable "java/lang/IllegalArgumentException" "java/lang/IllegalArgumentException", .castable "java/lang/IllegalStateException" "java/lang/IllegalStateException", .castable "java/lang/UnsupportedOperationException" "java/lang/UnsupportedOperationException", .castable "java/lang/ArrayIndexOutOfBoundsException" "java/lang/ArrayIndexOutOfBoundsException",
  .declares ⟨"java/lang/RuntimeException", "<init>", "(Ljava/lang/String;)V"⟩, .declares ⟨"java/lang/Exception", "<init>", "(Ljava/lang/String;)V"⟩, .declares ⟨"java/lang/Throwable", "<init>", "(Ljava/lang/String;)V"⟩, .declares ⟨"java/lang/IndexOutOfBoundsException", "<init>", "(Ljava/lang/String;)V"⟩]
def ev_st : List (Nat × String) := [(59, "there are sixty items"), (84, "no such induct"), (101, "the tray is not empty"), (121, "no such number of retries"), (126, "the item is not on a tray"), (128, "the item has a code"), (136, "no such number of steps"), (144, "not so many items left their trays"), (155, "no such what"), (171, "no such positions"), (185, "the item is not doubted"), (193, "it is not jammed"), (201, "the item is neither manual nor lost"), (205, "no such tray"), (221, "no such item"), (223, "no such length"), (228, "no such chute"), (230, "no such code"), (232, "it is jammed"), (234, "the item is not new"), (236, "the item is longer than the trays")]
/-- what a throw needs, and a catch: the statics of Throwable, words of the tables, the texts -/
def ev_ok (A : Nat → Prop) (U : State) : Prop := vx_Zq Bundle.tN "UNASSIGNED_STACK" Bundle.steD A U U.heap ∧ vx_Zq Bundle.tN "SUPPRESSED_SENTINEL" Bundle.listD A U U.heap ∧ (∀ w ∈ ev_ws, va_Nw w U) ∧ (∀ q ∈ ev_st, ∃ a, vk_R RX2 q.1 q.2 a U) ∧ va_Nc "java/lang/IllegalStateException" "java/lang/IllegalArgumentException" U ∧ va_Nc "java/lang/UnsupportedOperationException" "java/lang/IllegalArgumentException" U ∧ va_AO RX0 U
theorem ev_warm {s U : State} (hW : s.WarmedH U.vm) (h : ∀ w ∈ ev_ws, va_Nw w s) : ∀ w ∈ ev_ws, va_Nw w U := by
  intro w hw
  have h1 := h w hw
  simp only [ev_ws, List.mem_cons, List.not_mem_nil, or_false] at hw
  rcases hw with rfl | rfl | rfl | rfl | rfl | rfl | rfl | rfl
  · exact va_Nw.warmC hW h1
  · exact va_Nw.warmC hW h1
  · exact va_Nw.warmC hW h1
  · exact va_Nw.warmC hW h1
  · exact va_Nw.warmD hW h1
  · exact va_Nw.warmD hW h1
  · exact va_Nw.warmD hW h1
  · exact va_Nw.warmD hW h1
theorem ev_call {A B : Nat → Prop} {s U : State} {H : Heap} {locs : List Loc} (h : ev_ok A s) (hS : va_S A s.heap H locs) (hU : U.heap = H) (hW : s.WarmedH U.vm) (hB : ∀ q, B q → A q) : ev_ok B U := by
  obtain ⟨h1, h2, h3, h4, h5, h6, h7⟩ := h
  refine ⟨?_, ?_, ev_warm hW h3, fun q hq => ?_, h5.moved hW.alike, h6.moved hW.alike, h7.moved hW.alike⟩
  · rw [hU]; exact vx_Zq.moved hW.alike (vx_Zq.narrow (h1.kept hS.2.1) hB)
  · rw [hU]; exact vx_Zq.moved hW.alike (vx_Zq.narrow (h2.kept hS.2.1) hB)
  · obtain ⟨a, ha⟩ := h4 q hq
    exact ⟨a, ha.warm hW⟩
theorem ev_blind {A : Nat → Prop} {U : State} {g : JFrame} {mk : MethodId} {a : Array Value} (h : ev_ok A U) : ev_ok A (U.calling g mk a) := by
  obtain ⟨h1, h2, h3, h4, h5, h6, h7⟩ := h
  refine ⟨vx_Zq.moved (u := U) (U := U.calling g mk a) (Vm.Alike.refl U.vm) h1, vx_Zq.moved (u := U) (U := U.calling g mk a) (Vm.Alike.refl U.vm) h2, ev_warm (s := U) (U := U.calling g mk a) (State.WarmedH.refl U) h3, fun q hq => ?_, h5.moved (u := U) (U := U.calling g mk a) (Vm.Alike.refl U.vm), h6.moved (u := U) (U := U.calling g mk a) (Vm.Alike.refl U.vm), h7.moved (u := U) (U := U.calling g mk a) (Vm.Alike.refl U.vm)⟩
  obtain ⟨b, hb⟩ := h4 q hq
  exact ⟨b, vk_R.same (u := U) rfl hb⟩
/-- a contract's start: the arguments, the world, the size of the heap -/
def ct_P (D : va_G) (cy : Nat → Nat) (av : List Value) (wd : va_W) (sz : Nat) : Array Value → State → Prop := va_Pc av (fun U => U.heap.size = sz ∧ va_P D zz_cl wd U.heap ∧ va_K D zz_cl (zz_ty cy) U ∧ va_D (fun _ => True) wd ∧ ev_ok (va_A wd sz) U)
def ct_B (D : va_G) (cy : Nat → Nat) (A : Nat → Prop) (wd : va_W) (t : State) : Prop := va_P D zz_cl wd t.heap ∧ va_K D zz_cl (zz_ty cy) t ∧ va_D A wd
/-- its end: what it answers, the world behind it -/
def ct_Q (D : va_G) (cy : Nat → Nat) (wd : va_W) (sz : Nat) (V : Option Value) {S : Type} (ok : S → Prop) (wd' : S → va_W) : Array Value → State → Outcome → State → Prop := fun _ st o t =>
  o = .returned V ∧ (∃ u : S, ok u ∧ ct_B D cy (va_A wd sz) (wd' u) t) ∧ va_F (va_A wd sz) st t
/-- its other end: what it throws, the world as it was -/
def ct_X (D : va_G) (cy : Nat → Nat) (wd : va_W) (sz : Nat) (bad : Prop) (ex : String) : String → State → State → Prop := fun E st t => E = ex ∧ bad ∧ ct_B D cy (va_A wd sz) wd t ∧ va_F (va_A wd sz) st t
theorem ct_blind {D : va_G} {cy : Nat → Nat} {av : List Value} {wd : va_W} {sz : Nat} : FrameBlind (ct_P D cy av wd sz) := by
  intro a U g mk q
  obtain ⟨q0, q1, qP, qK, qD, qE⟩ := q
  exact ⟨q0, q1, qP, va_K.moved (u := U) (U := U.calling g mk a) (Vm.Alike.refl U.vm) qK, qD, ev_blind qE⟩
theorem ct_fr {A : Nat → Prop} {wd : va_W} {H0 H : Heap} {locs : List Loc} (hD : va_D A wd) (hS : va_S A H0 H locs) (hA : ∀ q, H0.size ≤ q → A q) : ∀ q, va_A wd H.size q → A q := by
  intro q h
  rcases h with ⟨k, e, hk⟩ | h
  · exact hD.2 k _ hk
  · exact hA q (Nat.le_trans hS.1 h)
theorem ct_pre {D : va_G} {cy : Nat → Nat} {av : List Value} {wd : va_W} {A : Nat → Prop} {s : State} {H : Heap} {locs : List Loc} (hP : va_P D zz_cl wd H) (hK : va_K D zz_cl (zz_ty cy) s) (hD : va_D A wd) (hS : va_S A s.heap H locs) (hA : ∀ q, s.heap.size ≤ q → A q) (hE : ev_ok A s) :
    ∀ U : State, U.heap = H → s.WarmedH U.vm → ct_P D cy av wd H.size av.toArray U := fun U hU hW =>
  ⟨rfl, by rw [hU], by rw [hU]; exact hP, va_K.moved hW.alike hK, hD.weaken (fun _ _ _ _ => trivial), ev_call hE hS hU hW (ct_fr hD hS hA)⟩
end ST
section CR
variable {p : Program} {l : Launch} {e : Env} {R : Room} {s : State} {m : MethodId} {args : Array Value} {below : List Frame} {meth : Method} {c : Code} {H : Heap} {locs : List Loc} {cells slots : Nat} {Q : State → Prop} {D : va_G} {cy : Nat → Nat} {A : Nat → Prop} {wd : va_W} {V : Option Value} {S : Type} {ok : S → Prop} {wd' : S → va_W}
variable {y : MethodName} {bytes cc : ByteArray} {maxL nL mc ms n index pc : Nat} {ret : Option FieldType} {ws : List Cond} {rm : Room} {Ts : List Cond} {own C : String} {b : Nat} {As rest st0 : List Value} {ls : Array Slot} {bad : Prop} {ex : String}
/-- behind a call that returns -/
theorem zc_back {Qa : State → Outcome → State → Prop} (hr : va_Run p l e R s m args below meth c H locs cells slots mc ms (F0 m pc ls st0) rest Qa (va_A wd H.size)) (hQ : ∀ st o t, Qa st o t → o = .returned V ∧ (∃ u : S, ok u ∧ ct_B D cy (va_A wd H.size) (wd' u) t) ∧ va_F (va_A wd H.size) st t)
    (hD : va_D A wd) (hS : va_S A s.heap H locs) (hA : ∀ q, s.heap.size ≤ q → A q)
    (kk : ∀ (u : S) (H1 : Heap) (locs1 : List Loc), ok u → va_P D zz_cl (wd' u) H1 → va_D A (wd' u) → va_S A s.heap H1 locs1 → W p l e R s m args below meth c H1 locs1 (cells + mc) (slots + ms) Q (F0 m (pc + 3) ls (V.toList ++ rest))) : W p l e R s m args below meth c H locs cells slots Q (F0 m pc ls st0) := by
  intro T hT X
  obtain ⟨v, st₀, t, T', L, h0, X', hL, e1, e2, hq, st⟩ := hr T hT X
  obtain ⟨hv, ⟨u, hu, hP1, hK1, hD1⟩, hF⟩ := hQ _ _ _ hq
  have hv : v = V := Outcome.returned.inj hv
  subst hv
  have hf := ct_fr hD hS hA
  obtain ⟨k1, k2, k3⟩ := vx_keep h0 e1 hS (fun q _ h => hf q h) hf hL hF
  obtain ⟨t2, a1, b1⟩ := kk u T'.heap (locs ++ L) hu (by rw [e1]; exact hP1) (hD1.weaken (fun _ _ _ h => hf _ h)) k3 T' rfl X'
  exact ⟨t2, st t2 a1, b1⟩
/-- a call of a method of this world that returns -/
theorem zc_v (Sx : CallFix p m c cc nL s args Ts own) (hM : Met l y ws rm (ct_P D cy (.ref b :: As) wd H.size) (ct_Q D cy wd H.size V ok wd') mc ms (va_A wd H.size)) (cw : CallW R s args own C index y bytes maxL ret ws rm mc ms n)
    (hK : va_K D zz_cl (zz_ty cy) s) (hP : va_P D zz_cl wd H) (hD : va_D A wd) (hS : va_S A s.heap H locs) (hA : ∀ q, s.heap.size ≤ q → A q) (hE : ev_ok A s) (hrc : ∃ cellB : Cell, H[b]? = some cellB ∧ cellB.vm.isStatics = false ∧ s.vm.findClass C = some cellB.cls)
    (hn : As.length = n) (hl : ls.size = nL) (hst : st0 = As.reverse ++ .ref b :: rest) (hR : (rest.map fun v => v.category).sum ≤ 8) (hdg : decode cc pc = .ok (.invokevirtual index, 3)) (hf : cells + mc ≤ R.cells ∧ slots + ms ≤ R.slots)
    (kk : ∀ (u : S) (H1 : Heap) (locs1 : List Loc), ok u → va_P D zz_cl (wd' u) H1 → va_D A (wd' u) → va_S A s.heap H1 locs1 → W p l e R s m args below meth c H1 locs1 (cells + mc) (slots + ms) Q (F0 m (pc + 3) ls (V.toList ++ rest))) : W p l e R s m args below meth c H locs cells slots Q (F0 m pc ls st0) :=
  zc_back (va_runV (As := As) (rest := rest) Sx hM cw ⟨ct_blind, hrc, ct_pre hP hK hD hS hA hE⟩ rfl hn hl hst (lv_room hR) hdg hf) (fun _ _ _ h => h) hD hS hA kk
theorem zc_s (Sx : CallFix p m c cc nL s args Ts own) (hM : Met l y ws rm (ct_P D cy As wd H.size) (ct_Q D cy wd H.size V ok wd') mc ms (va_A wd H.size)) (cw : CallB R s args own index y bytes maxL ret ws rm mc ms n ∧ (Cond.static y).before args s = true)
    (hK : va_K D zz_cl (zz_ty cy) s) (hP : va_P D zz_cl wd H) (hD : va_D A wd) (hS : va_S A s.heap H locs) (hA : ∀ q, s.heap.size ≤ q → A q) (hE : ev_ok A s)
    (hn : As.length = n) (hl : ls.size = nL) (hst : st0 = As.reverse ++ rest) (hR : (rest.map fun v => v.category).sum ≤ 8) (hdg : decode cc pc = .ok (.invokestatic index, 3)) (hf : cells + mc ≤ R.cells ∧ slots + ms ≤ R.slots)
    (kk : ∀ (u : S) (H1 : Heap) (locs1 : List Loc), ok u → va_P D zz_cl (wd' u) H1 → va_D A (wd' u) → va_S A s.heap H1 locs1 → W p l e R s m args below meth c H1 locs1 (cells + mc) (slots + ms) Q (F0 m (pc + 3) ls (V.toList ++ rest))) : W p l e R s m args below meth c H locs cells slots Q (F0 m pc ls st0) :=
  zc_back (va_runS (As := As) (rest := rest) Sx hM cw ⟨ct_blind, ct_pre hP hK hD hS hA hE⟩ rfl hn hl hst (lv_room hR) hdg hf) (fun _ _ _ h => h) hD hS hA kk
/-- a call of a method of this world that may throw -/
theorem zc_x (Sx : CallFix p m c cc nL s args Ts own) (hM : vx_Met l y ws rm (ct_P D cy (.ref b :: As) wd H.size) (ct_Q D cy wd H.size V ok wd') (ct_X D cy wd H.size bad ex) mc ms (va_A wd H.size)) (cw : CallW R s args own C index y bytes maxL ret ws rm mc ms n)
    (hK : va_K D zz_cl (zz_ty cy) s) (hP : va_P D zz_cl wd H) (hD : va_D A wd) (hS : va_S A s.heap H locs) (hA : ∀ q, s.heap.size ≤ q → A q) (hE : ev_ok A s) (hrc : ∃ cellB : Cell, H[b]? = some cellB ∧ cellB.vm.isStatics = false ∧ s.vm.findClass C = some cellB.cls)
    (hn : As.length = n) (hl : ls.size = nL) (hst : st0 = As.reverse ++ .ref b :: rest) (hR : (rest.map fun v => v.category).sum ≤ 8) (hdg : decode cc pc = .ok (.invokevirtual index, 3)) (hf : cells + mc ≤ R.cells ∧ slots + ms ≤ R.slots)
    (kx : bad → ∀ (ce : Cell) (q9 : Addr) (H1 : Heap) (locs1 : List Loc), va_P D zz_cl wd H1 → va_D A wd → va_S A s.heap H1 locs1 → H1[q9]? = some ce → ce.vm = .none → s.vm.findClass ex = some ce.cls → vx_W p l e R s m args below meth c H1 locs1 (cells + mc) (slots + ms) Q (F0 m pc ls rest) q9)
    (kk : ∀ (u : S) (H1 : Heap) (locs1 : List Loc), ok u → va_P D zz_cl (wd' u) H1 → va_D A (wd' u) → va_S A s.heap H1 locs1 → W p l e R s m args below meth c H1 locs1 (cells + mc) (slots + ms) Q (F0 m (pc + 3) ls (V.toList ++ rest))) : W p l e R s m args below meth c H locs cells slots Q (F0 m pc ls st0) := by
  have hr := vx_runV (g := F0 m pc ls st0) (H := H) (locs := locs) (cells := cells) (slots := slots) (below := below) (meth := meth) (e := e) (As := As) (rest := rest) Sx hM cw ⟨ct_blind, hrc, ct_pre hP hK hD hS hA hE⟩ rfl hn hl hst (lv_room hR) hdg hf
  intro T hT X
  have hfr := ct_fr hD hS hA
  rcases hr T hT X with ⟨v, st₀, t, T', L, h0, X', hL, e1, e2, hq, st⟩ | ⟨q, st₀, t, T', L, E, ce, h0, X', hL, e1, e2, hq, hce, hcv, hcl, st⟩
  · obtain ⟨hv, ⟨u, hu, hP1, hK1, hD1⟩, hF⟩ := hq
    have hv : v = V := Outcome.returned.inj hv
    subst hv
    obtain ⟨k1, k2, k3⟩ := vx_keep h0 e1 hS (fun q _ h => hfr q h) hfr hL hF
    obtain ⟨t2, a1, b1⟩ := kk u T'.heap (locs ++ L) hu (by rw [e1]; exact hP1) (hD1.weaken (fun _ _ _ h => hfr _ h)) k3 T' rfl X'
    exact ⟨t2, st t2 a1, b1⟩
  · obtain ⟨rfl, hbad, ⟨hP1, hK1, hD1⟩, hF⟩ := hq
    obtain ⟨k1, k2, k3⟩ := vx_keep h0 e1 hS (fun q _ h => hfr q h) hfr hL hF
    obtain ⟨t2, a1, b1⟩ := kx hbad ce q T'.heap (locs ++ L) (by rw [e1]; exact hP1) hD k3 (by rw [e1]; exact hce) hcv hcl T' rfl X'
    exact ⟨t2, st.trans a1, b1⟩
end CR
end
section
/-! rows of the class's cells: references, items, throws  -/
section RW
theorem zz_len {a : Int} (h : 0 ≤ a ∧ a < 2147483648) : Int32.ofNat a.toNat = zz_i a := by
  rw [← Int32.toInt_inj, zz_toInt (by omega)]
  have h1 : (nI a.toNat).toInt = (a.toNat : Int) := nI_toInt (by omega)
  exact h1.trans (by omega)
theorem aq_or (ad : Int → Nat) (i : Int) : (i = 0 ∧ va_rf (aq_ ad i) = .null) ∨ (i ≠ 0 ∧ va_rf (aq_ ad i) = .ref (ad i)) := by
  by_cases h : i = 0
  · exact Or.inl ⟨h, by rw [h]; rfl⟩
  · exact Or.inr ⟨h, by rw [aq_n h]; rfl⟩
theorem cw_len (cy ga : Nat → Nat) (ad : Int → Nat) (σ : zz_S) : (cw_x cy ga ad σ).length = 9 := rfl
theorem it_get {ad : Int → Nat} {σ : zz_S} {i : Int} (h : 1 ≤ i ∧ i ≤ σ 4 0) : (it_w ad σ)[(i - 1).toNat]? = some (ad i, .inr (0, it_v σ i)) := by
  have h1 : (i - 1).toNat < (σ 4 0).toNat := by omega
  have h2 : (((i - 1).toNat : Nat) : Int) + 1 = i := by omega
  simp only [it_w, List.getElem?_map, List.getElem?_range h1, Option.map_some, h2]
theorem cw_it {cy ga : Nat → Nat} {ad : Int → Nat} {σ : zz_S} {i : Int} (h : 1 ≤ i ∧ i ≤ σ 4 0) : (cw_ cy ga ad σ)[9 + (i - 1).toNat]? = some (ad i, .inr (0, it_v σ i)) := by
  have h1 : (cw_ cy ga ad σ)[9 + (i - 1).toNat]? = (it_w ad σ)[9 + (i - 1).toNat - 9]? := List.getElem?_append_right (Nat.le_add_right _ _)
  rw [h1, Nat.add_sub_cancel_left]
  exact it_get h
theorem cw_si {cy ga : Nat → Nat} {ad : Int → Nat} {σ σ' : zz_S} {i : Int} (h : 1 ≤ i ∧ i ≤ σ 4 0) (h1 : cw_x cy ga ad σ' = cw_x cy ga ad σ) (h2 : σ' 4 0 = σ 4 0) (h3 : ∀ j, j ≠ i → it_v σ' j = it_v σ j) : (cw_ cy ga ad σ).set (9 + (i - 1).toNat) (ad i, .inr (0, it_v σ' i)) = cw_ cy ga ad σ' := by
  have e1 : (cw_ cy ga ad σ).set (9 + (i - 1).toNat) (ad i, .inr (0, it_v σ' i)) = cw_x cy ga ad σ ++ (it_w ad σ).set (9 + (i - 1).toNat - 9) (ad i, .inr (0, it_v σ' i)) := by
    unfold cw_
    rw [List.set_append_right _ _ (by rw [cw_len]; exact Nat.le_add_right _ _), cw_len]
  rw [e1, Nat.add_sub_cancel_left]
  unfold cw_
  rw [h1]
  congr 1
  apply List.ext_getElem?
  intro k
  rw [List.getElem?_set]
  have hl : (it_w ad σ).length = (σ 4 0).toNat := by simp [it_w]
  by_cases hk : (i - 1).toNat = k
  · rw [if_pos hk, if_pos (by rw [hl]; omega), ← hk, it_get (by rw [h2]; exact h)]
  · rw [if_neg hk]
    simp only [it_w, List.getElem?_map, h2]
    by_cases hk2 : k < (σ 4 0).toNat
    · rw [List.getElem?_range hk2]
      simp only [Option.map_some]
      rw [h3 _ (by omega)]
    · rw [List.getElem?_eq_none (by simpa using hk2)]
      rfl
theorem cw_si13 {cy ga : Nat → Nat} {ad : Int → Nat} {σ : zz_S} {i v : Int} (h : 1 ≤ i ∧ i ≤ σ 4 0) : (cw_ cy ga ad σ).set (9 + (i - 1).toNat) (ad i, .inr (0, (it_v σ i).set 2 (.int (zz_i v)))) = cw_ cy ga ad (up_a σ 13 i v) := by
  have e1 : (it_v σ i).set 2 (.int (zz_i v)) = it_v (up_a σ 13 i v) i := by
    show _ = [_, _, _, _, _, _, _, _, _, _, _, _]
    have e2 : up_a σ 13 i v 13 i = v := up_i_s (σ 13) i v
    rw [e2]; rfl
  rw [e1]
  refine cw_si h rfl rfl (fun j hj => ?_)
  show [_, _, _, _, _, _, _, _, _, _, _, _] = _
  have e2 : up_a σ 13 i v 13 j = σ 13 j := up_i_n hj
  rw [e2]; rfl
theorem cw_si14 {cy ga : Nat → Nat} {ad : Int → Nat} {σ : zz_S} {i v : Int} (h : 1 ≤ i ∧ i ≤ σ 4 0) : (cw_ cy ga ad σ).set (9 + (i - 1).toNat) (ad i, .inr (0, (it_v σ i).set 3 (.int (zz_i v)))) = cw_ cy ga ad (up_a σ 14 i v) := by
  have e1 : (it_v σ i).set 3 (.int (zz_i v)) = it_v (up_a σ 14 i v) i := by
    show _ = [_, _, _, _, _, _, _, _, _, _, _, _]
    have e2 : up_a σ 14 i v 14 i = v := up_i_s (σ 14) i v
    rw [e2]; rfl
  rw [e1]
  refine cw_si h rfl rfl (fun j hj => ?_)
  show [_, _, _, _, _, _, _, _, _, _, _, _] = _
  have e2 : up_a σ 14 i v 14 j = σ 14 j := up_i_n hj
  rw [e2]; rfl
theorem cw_si15 {cy ga : Nat → Nat} {ad : Int → Nat} {σ : zz_S} {i v : Int} (h : 1 ≤ i ∧ i ≤ σ 4 0) : (cw_ cy ga ad σ).set (9 + (i - 1).toNat) (ad i, .inr (0, (it_v σ i).set 4 (.int (zz_i v)))) = cw_ cy ga ad (up_a σ 15 i v) := by
  have e1 : (it_v σ i).set 4 (.int (zz_i v)) = it_v (up_a σ 15 i v) i := by
    show _ = [_, _, _, _, _, _, _, _, _, _, _, _]
    have e2 : up_a σ 15 i v 15 i = v := up_i_s (σ 15) i v
    rw [e2]; rfl
  rw [e1]
  refine cw_si h rfl rfl (fun j hj => ?_)
  show [_, _, _, _, _, _, _, _, _, _, _, _] = _
  have e2 : up_a σ 15 i v 15 j = σ 15 j := up_i_n hj
  rw [e2]; rfl
theorem cw_si16 {cy ga : Nat → Nat} {ad : Int → Nat} {σ : zz_S} {i v : Int} (h : 1 ≤ i ∧ i ≤ σ 4 0) : (cw_ cy ga ad σ).set (9 + (i - 1).toNat) (ad i, .inr (0, (it_v σ i).set 6 (.int (zz_i v)))) = cw_ cy ga ad (up_a σ 16 i v) := by
  have e1 : (it_v σ i).set 6 (.int (zz_i v)) = it_v (up_a σ 16 i v) i := by
    show _ = [_, _, _, _, _, _, _, _, _, _, _, _]
    have e2 : up_a σ 16 i v 16 i = v := up_i_s (σ 16) i v
    rw [e2]; rfl
  rw [e1]
  refine cw_si h rfl rfl (fun j hj => ?_)
  show [_, _, _, _, _, _, _, _, _, _, _, _] = _
  have e2 : up_a σ 16 i v 16 j = σ 16 j := up_i_n hj
  rw [e2]; rfl
theorem cw_si17 {cy ga : Nat → Nat} {ad : Int → Nat} {σ : zz_S} {i v : Int} (h : 1 ≤ i ∧ i ≤ σ 4 0) : (cw_ cy ga ad σ).set (9 + (i - 1).toNat) (ad i, .inr (0, (it_v σ i).set 7 (.int (zz_i v)))) = cw_ cy ga ad (up_a σ 17 i v) := by
  have e1 : (it_v σ i).set 7 (.int (zz_i v)) = it_v (up_a σ 17 i v) i := by
    show _ = [_, _, _, _, _, _, _, _, _, _, _, _]
    have e2 : up_a σ 17 i v 17 i = v := up_i_s (σ 17) i v
    rw [e2]; rfl
  rw [e1]
  refine cw_si h rfl rfl (fun j hj => ?_)
  show [_, _, _, _, _, _, _, _, _, _, _, _] = _
  have e2 : up_a σ 17 i v 17 j = σ 17 j := up_i_n hj
  rw [e2]; rfl
theorem cw_si18 {cy ga : Nat → Nat} {ad : Int → Nat} {σ : zz_S} {i v : Int} (h : 1 ≤ i ∧ i ≤ σ 4 0) : (cw_ cy ga ad σ).set (9 + (i - 1).toNat) (ad i, .inr (0, (it_v σ i).set 5 (.int (zz_i v)))) = cw_ cy ga ad (up_a σ 18 i v) := by
  have e1 : (it_v σ i).set 5 (.int (zz_i v)) = it_v (up_a σ 18 i v) i := by
    show _ = [_, _, _, _, _, _, _, _, _, _, _, _]
    have e2 : up_a σ 18 i v 18 i = v := up_i_s (σ 18) i v
    rw [e2]; rfl
  rw [e1]
  refine cw_si h rfl rfl (fun j hj => ?_)
  show [_, _, _, _, _, _, _, _, _, _, _, _] = _
  have e2 : up_a σ 18 i v 18 j = σ 18 j := up_i_n hj
  rw [e2]; rfl
theorem cw_si19 {cy ga : Nat → Nat} {ad : Int → Nat} {σ : zz_S} {i v : Int} (h : 1 ≤ i ∧ i ≤ σ 4 0) : (cw_ cy ga ad σ).set (9 + (i - 1).toNat) (ad i, .inr (0, (it_v σ i).set 8 (.int (zz_i v)))) = cw_ cy ga ad (up_a σ 19 i v) := by
  have e1 : (it_v σ i).set 8 (.int (zz_i v)) = it_v (up_a σ 19 i v) i := by
    show _ = [_, _, _, _, _, _, _, _, _, _, _, _]
    have e2 : up_a σ 19 i v 19 i = v := up_i_s (σ 19) i v
    rw [e2]; rfl
  rw [e1]
  refine cw_si h rfl rfl (fun j hj => ?_)
  show [_, _, _, _, _, _, _, _, _, _, _, _] = _
  have e2 : up_a σ 19 i v 19 j = σ 19 j := up_i_n hj
  rw [e2]; rfl
theorem cw_si20 {cy ga : Nat → Nat} {ad : Int → Nat} {σ : zz_S} {i v : Int} (h : 1 ≤ i ∧ i ≤ σ 4 0) : (cw_ cy ga ad σ).set (9 + (i - 1).toNat) (ad i, .inr (0, (it_v σ i).set 9 (.int (zz_i v)))) = cw_ cy ga ad (up_a σ 20 i v) := by
  have e1 : (it_v σ i).set 9 (.int (zz_i v)) = it_v (up_a σ 20 i v) i := by
    show _ = [_, _, _, _, _, _, _, _, _, _, _, _]
    have e2 : up_a σ 20 i v 20 i = v := up_i_s (σ 20) i v
    rw [e2]; rfl
  rw [e1]
  refine cw_si h rfl rfl (fun j hj => ?_)
  show [_, _, _, _, _, _, _, _, _, _, _, _] = _
  have e2 : up_a σ 20 i v 20 j = σ 20 j := up_i_n hj
  rw [e2]; rfl
theorem cw_si21 {cy ga : Nat → Nat} {ad : Int → Nat} {σ : zz_S} {i v : Int} (h : 1 ≤ i ∧ i ≤ σ 4 0) : (cw_ cy ga ad σ).set (9 + (i - 1).toNat) (ad i, .inr (0, (it_v σ i).set 10 (.int (zz_i v)))) = cw_ cy ga ad (up_a σ 21 i v) := by
  have e1 : (it_v σ i).set 10 (.int (zz_i v)) = it_v (up_a σ 21 i v) i := by
    show _ = [_, _, _, _, _, _, _, _, _, _, _, _]
    have e2 : up_a σ 21 i v 21 i = v := up_i_s (σ 21) i v
    rw [e2]; rfl
  rw [e1]
  refine cw_si h rfl rfl (fun j hj => ?_)
  show [_, _, _, _, _, _, _, _, _, _, _, _] = _
  have e2 : up_a σ 21 i v 21 j = σ 21 j := up_i_n hj
  rw [e2]; rfl
theorem cw_si22 {cy ga : Nat → Nat} {ad : Int → Nat} {σ : zz_S} {i v : Int} (h : 1 ≤ i ∧ i ≤ σ 4 0) : (cw_ cy ga ad σ).set (9 + (i - 1).toNat) (ad i, .inr (0, (it_v σ i).set 11 (.int (zz_i v)))) = cw_ cy ga ad (up_a σ 22 i v) := by
  have e1 : (it_v σ i).set 11 (.int (zz_i v)) = it_v (up_a σ 22 i v) i := by
    show _ = [_, _, _, _, _, _, _, _, _, _, _, _]
    have e2 : up_a σ 22 i v 22 i = v := up_i_s (σ 22) i v
    rw [e2]; rfl
  rw [e1]
  refine cw_si h rfl rfl (fun j hj => ?_)
  show [_, _, _, _, _, _, _, _, _, _, _, _] = _
  have e2 : up_a σ 22 i v 22 j = σ 22 j := up_i_n hj
  rw [e2]; rfl
end RW
section RX
variable {p : Program} {l : Launch} {e : Env} {R : Room} {s : State} {m : MethodId} {args : Array Value} {below : List Frame} {meth : Method} {c : Code} {H : Heap} {locs : List Loc} {cells slots : Nat} {Q : State → Prop} {cc : ByteArray} {pc : Nat} {ls : Array Slot} {rest : List Value} {D : va_G} {cl : List vw_C} {A : Nat → Prop} {aa : Nat} {tys : List (ClassId × FieldType)} {ws : va_W} {H0 : Heap} {a b : Int} {ad : Int → Nat}
theorem zz_aald (hx : p.tables.exec = Jvm.exec) (hb : c.code = cc) (hK : va_K D cl tys s) (hP : va_P D cl ws H) (q0 t0 : Nat) {cA : ClassId} {C : String} {n : Nat} {g : Int → Int} (hw : ws[q0]? = some (aa, .inl (cA, n, .inr (.inr (.inr (.inr (fun j : Nat => aq_ ad (g j)))))))) (ht : tys[t0]? = some (cA, .object C)) (hi : 0 ≤ a ∧ a < n) (hn : n < 2147483648) (hdg : decode cc pc = .ok (.aaload, 1))
    (kk : W p l e R s m args below meth c H locs cells slots Q (F0 m (pc + 1) ls (va_rf (aq_ ad (g a)) :: rest))) : W p l e R s m args below meth c H locs cells slots Q (F0 m pc ls (.int (zz_i a) :: .ref aa :: rest)) :=
  va_aldq hx hb hK hP q0 t0 hw ht (zz_in hi hn) hdg (by
    have h1 : ((a.toNat : Nat) : Int) = a := Int.toNat_of_nonneg hi.1
    rw [zz_nat (by omega), h1]; exact kk)
theorem zz_aaldI (hx : p.tables.exec = Jvm.exec) (hb : c.code = cc) (hK : va_K D cl tys s) (hP : va_P D cl ws H) (q0 t0 : Nat) {cA : ClassId} {C : String} {n : Nat} {k : Int} (hw : ws[q0]? = some (aa, .inl (cA, n, .inr (.inr (.inr (.inr (fun j : Nat => if (j : Int) < k then some (ad ((j : Int) + 1)) else none))))))) (ht : tys[t0]? = some (cA, .object C)) (hi : 0 ≤ a ∧ a < n ∧ a < k) (hn : n < 2147483648) (hdg : decode cc pc = .ok (.aaload, 1))
    (kk : W p l e R s m args below meth c H locs cells slots Q (F0 m (pc + 1) ls (.ref (ad (a + 1)) :: rest))) : W p l e R s m args below meth c H locs cells slots Q (F0 m pc ls (.int (zz_i a) :: .ref aa :: rest)) :=
  va_aldq hx hb hK hP q0 t0 hw ht (zz_in (by omega) hn) hdg (by
    have h1 : ((a.toNat : Nat) : Int) = a := Int.toNat_of_nonneg hi.1
    rw [zz_nat (by omega), h1, if_pos hi.2.2]; exact kk)
theorem zz_upq {g : Int → Int} {v : Int} (h : 0 ≤ a ∧ a < 2147483648) : va_up (fun j : Nat => aq_ ad (g j)) (zz_i a).toNatClampNeg (aq_ ad v) = fun j : Nat => aq_ ad (up_i g a v j) := by
  funext j
  rw [zz_nat h]
  simp only [va_up, up_i]
  by_cases q : j = a.toNat
  · rw [if_pos q, if_pos (by omega)]
  · rw [if_neg q, if_neg (by omega)]
theorem zz_aastN (hx : p.tables.exec = Jvm.exec) (hb : c.code = cc) (hK : va_K D cl tys s) (hP : va_P D cl ws H) (hD : va_D A ws) (hS : va_S A H0 H locs) (q0 t0 : Nat) {cA : ClassId} {C : String} {n : Nat} {g : Int → Int} (hw : ws[q0]? = some (aa, .inl (cA, n, .inr (.inr (.inr (.inr (fun j : Nat => aq_ ad (g j)))))))) (ht : tys[t0]? = some (cA, .object C)) (hi : 0 ≤ a ∧ a < n) (hn : n < 2147483648) (hdg : decode cc pc = .ok (.aastore, 1))
    (kk : ∀ (H1 : Heap) (locs1 : List Loc), va_P D cl (ws.set q0 (aa, .inl (cA, n, .inr (.inr (.inr (.inr (fun j : Nat => aq_ ad (up_i g a 0 j)))))))) H1 → va_D A (ws.set q0 (aa, .inl (cA, n, .inr (.inr (.inr (.inr (fun j : Nat => aq_ ad (up_i g a 0 j)))))))) → va_S A H0 H1 locs1 → W p l e R s m args below meth c H1 locs1 cells slots Q (F0 m (pc + 1) ls rest)) : W p l e R s m args below meth c H locs cells slots Q (F0 m pc ls (.null :: .int (zz_i a) :: .ref aa :: rest)) :=
  va_astqN hx hb hK hP hD hS q0 t0 hw ht (zz_in hi hn) hdg (fun H1 locs1 h1 h2 h3 => kk H1 locs1 (by rw [← aq_0 ad, zz_upq (by omega)] at h1; exact h1) (by rw [← aq_0 ad, zz_upq (by omega)] at h2; exact h2) h3)
theorem zz_aast (hx : p.tables.exec = Jvm.exec) (hb : c.code = cc) (hK : va_K D cl tys s) (hP : va_P D cl ws H) (hD : va_D A ws) (hS : va_S A H0 H locs) (q0 t0 qk ci : Nat) {cA : ClassId} {r : vw_C} {n : Nat} {vs : List Value} {g : Int → Int} (hw : ws[q0]? = some (aa, .inl (cA, n, .inr (.inr (.inr (.inr (fun j : Nat => aq_ ad (g j)))))))) (ht : tys[t0]? = some (cA, .object r.1)) (hv : ws[qk]? = some (ad b, .inr (ci, vs))) (hc : cl[ci]? = some r) (hi : 0 ≤ a ∧ a < n) (hn : n < 2147483648) (hb0 : b ≠ 0) (hdg : decode cc pc = .ok (.aastore, 1))
    (kk : ∀ (H1 : Heap) (locs1 : List Loc), va_P D cl (ws.set q0 (aa, .inl (cA, n, .inr (.inr (.inr (.inr (fun j : Nat => aq_ ad (up_i g a b j)))))))) H1 → va_D A (ws.set q0 (aa, .inl (cA, n, .inr (.inr (.inr (.inr (fun j : Nat => aq_ ad (up_i g a b j)))))))) → va_S A H0 H1 locs1 → W p l e R s m args below meth c H1 locs1 cells slots Q (F0 m (pc + 1) ls rest)) : W p l e R s m args below meth c H locs cells slots Q (F0 m pc ls (.ref (ad b) :: .int (zz_i a) :: .ref aa :: rest)) :=
  va_astq hx hb hK hP hD hS q0 t0 qk ci hw ht hv hc (zz_in hi hn) hdg (fun H1 locs1 h1 h2 h3 => kk H1 locs1 (by rw [← aq_n (ad := ad) hb0, zz_upq (by omega)] at h1; exact h1) (by rw [← aq_n (ad := ad) hb0, zz_upq (by omega)] at h2; exact h2) h3)
end RX
end
section
/-! throws of the class's own, and a callee's throw that goes on to the caller -/
section TH
variable {p : Program} {l : Launch} {e : Env} {R : Room} {s : State} {m : MethodId} {args : Array Value} {below : List Frame} {meth : Method} {c : Code} {H : Heap} {locs : List Loc} {cells slots : Nat} {cc : ByteArray} {pc : Nat} {ls : Array Slot} {rest : List Value} {D : va_G} {cy : Nat → Nat} {A : Nat → Prop} {wd : va_W} {bad : Prop} {Qc : Array Value → State → Outcome → State → Prop} {mc ms : Nat}
theorem ev_ot : ∀ w ∈ ev_ws, w.onTables = true := by decide +kernel
theorem th_row (hx : p.tables.exec = Jvm.exec) (hb : c.code = cc) (hl9 : l.stackTraces = false) {own cls text : String} {names : List String} {ik is ic : Nat}
    (hown : s.vm.findClass own = some m.cls) (hcls : Bundle.fit cls = true) (hnames : ∀ n ∈ names, Bundle.fit n = true)
    (hk : (Cond.classLink own ik cls).before args s = true) (hini : (Cond.initialized cls).before args s = true) (hstr : ∃ sa, vk_R own is text sa s) (hat : ∀ w ∈ vx_atS own ic cls names, w.before args s = true)
    (hgood : ∀ w ∈ Cond.classLink own ik cls :: Cond.initialized cls :: vx_atS own ic cls names, vx_ot w = true)
    (hAe : A = va_A wd s.heap.size) (hE : ev_ok A s) (hK : va_K D zz_cl (zz_ty cy) s) (hP : va_P D zz_cl wd H) (hD : va_D A wd) (hS : va_S A s.heap H locs) (hsize : ls.size = c.maxLocals)
    (d0 : decode cc pc = .ok (.new ik, 3)) (d3 : decode cc (pc + 3) = .ok (.dup, 1)) (d4 : decode cc (pc + 4) = .ok (.ldc is, 2)) (d6 : decode cc (pc + 6) = .ok (.invokespecial ic, 3)) (d9 : decode cc (pc + 9) = .ok (.athrow, 1))
    (htb : ∀ x ∈ c.exceptionTable.toList, False)
    (hRframes : names.length + 3 < R.frames) (hRlocals : (rest.map fun v => v.category).sum + (13 * (names.length + 1) + 43) ≤ R.locals) (hRcells : cells + 1 ≤ R.cells) (hRslots : slots + 6 ≤ R.slots) (hlocks : meth.locks = false) (hbad : bad) (hc : cells + 1 ≤ mc) (hs : slots + 6 ≤ ms) :
    W p l e R s m args below meth c H locs cells slots (vx_MQ below Qc (ct_X D cy wd s.heap.size bad cls) args s mc ms (va_A wd s.heap.size)) (F0 m pc ls rest) := by
  obtain ⟨sa, hstr⟩ := hstr
  subst hAe
  exact vx_throwS (own := own) (cls := cls) (names := names) hx hb hl9 hown hcls hnames hk hini hstr hat hgood hE.1 hE.2.1 hS hsize d0 d3 d4 d6 d9 (fun x h => (htb x h).elim) hRframes hRlocals hRcells hRslots hlocks
    (fun t ha hsz hk => ⟨rfl, hbad, ⟨hP.kept (fun k q hq => hk q.1 (hP k q hq).lt), va_K.moved ha hK, hD⟩, Nat.le_trans hS.1 hsz, fun q h1 h2 => (hk q (Nat.lt_of_lt_of_le h1 hS.1)).trans (hS.2.1 q h1 h2)⟩) hS.2.2 hc hs
theorem th_out {E : String} {ce : Cell} {q9 : Addr} (hAe : A = va_A wd s.heap.size) (htb : ∀ x ∈ c.exceptionTable.toList, False) (hlocks : meth.locks = false) (hK : va_K D zz_cl (zz_ty cy) s) (hP : va_P D zz_cl wd H) (hD : va_D A wd) (hS : va_S A s.heap H locs)
    (hce : H[q9]? = some ce) (hcv : ce.vm = .none) (hcl : s.vm.findClass E = some ce.cls) (hbad : bad) (hc : cells ≤ mc) (hs : slots ≤ ms) :
    vx_W p l e R s m args below meth c H locs cells slots (vx_MQ below Qc (ct_X D cy wd s.heap.size bad E) args s mc ms (va_A wd s.heap.size)) (F0 m pc ls rest) q9 := by
  subst hAe
  exact vx_out (E := E) (fun x h => (htb x h).elim) hlocks hce hcv hcl (fun t ht ha => ⟨rfl, hbad, ⟨by rw [ht]; exact hP, va_K.moved ha hK, hD⟩, hS.F ht⟩) hS.2.2 hc hs
end TH
theorem at_IAE {args : Array Value} {s : State} {Ts : List Cond} {A : Nat → Prop} (hts : ∀ w ∈ Ts, w.before args s = true) (hg : ∀ w ∈ (vx_atS RX2 86 "java/lang/IllegalArgumentException" ["java/lang/RuntimeException", "java/lang/Exception"]).filter goodWord, w ∈ Ts) (hE : ev_ok A s) : ∀ w ∈ vx_atS RX2 86 "java/lang/IllegalArgumentException" ["java/lang/RuntimeException", "java/lang/Exception"], w.before args s = true :=
  vx_hat (B := ev_ws) (fun w hw => hts w (hg w hw)) (by decide +kernel) (fun w hw => va_Nw.use (ev_ot w hw) (hE.2.2.1 w hw))
theorem go_IAE : ∀ w ∈ Cond.classLink RX2 82 "java/lang/IllegalArgumentException" :: Cond.initialized "java/lang/IllegalArgumentException" :: vx_atS RX2 86 "java/lang/IllegalArgumentException" ["java/lang/RuntimeException", "java/lang/Exception"], vx_ot w = true := by decide +kernel
theorem at_ISE {args : Array Value} {s : State} {Ts : List Cond} {A : Nat → Prop} (hts : ∀ w ∈ Ts, w.before args s = true) (hg : ∀ w ∈ (vx_atS RX2 103 "java/lang/IllegalStateException" ["java/lang/RuntimeException", "java/lang/Exception"]).filter goodWord, w ∈ Ts) (hE : ev_ok A s) : ∀ w ∈ vx_atS RX2 103 "java/lang/IllegalStateException" ["java/lang/RuntimeException", "java/lang/Exception"], w.before args s = true :=
  vx_hat (B := ev_ws) (fun w hw => hts w (hg w hw)) (by decide +kernel) (fun w hw => va_Nw.use (ev_ot w hw) (hE.2.2.1 w hw))
theorem go_ISE : ∀ w ∈ Cond.classLink RX2 99 "java/lang/IllegalStateException" :: Cond.initialized "java/lang/IllegalStateException" :: vx_atS RX2 103 "java/lang/IllegalStateException" ["java/lang/RuntimeException", "java/lang/Exception"], vx_ot w = true := by decide +kernel
theorem at_UOE {args : Array Value} {s : State} {Ts : List Cond} {A : Nat → Prop} (hts : ∀ w ∈ Ts, w.before args s = true) (hg : ∀ w ∈ (vx_atS RX2 61 "java/lang/UnsupportedOperationException" ["java/lang/RuntimeException", "java/lang/Exception"]).filter goodWord, w ∈ Ts) (hE : ev_ok A s) : ∀ w ∈ vx_atS RX2 61 "java/lang/UnsupportedOperationException" ["java/lang/RuntimeException", "java/lang/Exception"], w.before args s = true :=
  vx_hat (B := ev_ws) (fun w hw => hts w (hg w hw)) (by decide +kernel) (fun w hw => va_Nw.use (ev_ot w hw) (hE.2.2.1 w hw))
theorem go_UOE : ∀ w ∈ Cond.classLink RX2 57 "java/lang/UnsupportedOperationException" :: Cond.initialized "java/lang/UnsupportedOperationException" :: vx_atS RX2 61 "java/lang/UnsupportedOperationException" ["java/lang/RuntimeException", "java/lang/Exception"], vx_ot w = true := by decide +kernel
theorem at_AIO {args : Array Value} {s : State} {Ts : List Cond} {A : Nat → Prop} (hts : ∀ w ∈ Ts, w.before args s = true) (hg : ∀ w ∈ (vx_atS RX2 207 "java/lang/ArrayIndexOutOfBoundsException" ["java/lang/IndexOutOfBoundsException", "java/lang/RuntimeException", "java/lang/Exception"]).filter goodWord, w ∈ Ts) (hE : ev_ok A s) : ∀ w ∈ vx_atS RX2 207 "java/lang/ArrayIndexOutOfBoundsException" ["java/lang/IndexOutOfBoundsException", "java/lang/RuntimeException", "java/lang/Exception"], w.before args s = true :=
  vx_hat (B := ev_ws) (fun w hw => hts w (hg w hw)) (by decide +kernel) (fun w hw => va_Nw.use (ev_ot w hw) (hE.2.2.1 w hw))
theorem go_AIO : ∀ w ∈ Cond.classLink RX2 203 "java/lang/ArrayIndexOutOfBoundsException" :: Cond.initialized "java/lang/ArrayIndexOutOfBoundsException" :: vx_atS RX2 207 "java/lang/ArrayIndexOutOfBoundsException" ["java/lang/IndexOutOfBoundsException", "java/lang/RuntimeException", "java/lang/Exception"], vx_ot w = true := by decide +kernel
def wsX2_trayB : List Cond := wsX2_tray ++ (vx_atS RX2 207 "java/lang/ArrayIndexOutOfBoundsException" ["java/lang/IndexOutOfBoundsException", "java/lang/RuntimeException", "java/lang/Exception"]).filter goodWord
theorem gX2_trayB_X2_isInLoop : GoodIn wsX2_trayB (wsV RX2 168 RX2 yX2_isInLoop wsX2_isInLoop) := fun w h => ⟨List.mem_append_left _ (gX2_tray_X2_isInLoop w h).1, (gX2_tray_X2_isInLoop w h).2⟩
end
section
/-! what a state of a sorter is. Rows (places): 0 trays, 1 rounds told, 2 steps, 3 trays' length, 4 items, 5 left, 6 jammed, 7 doubted ones, 8 position of tray 0, 9 what the reference has thrown, 28 chutes (single numbers); 10 item on tray t, 11 chute c full; of item i: 12 length, 13 state, 14 code, 15 rounds, 16 retries, 17 code behind them, 18 tray, 19 doubted, 20 found, 21 left to, 22 left at; of the j-th that left: 23 item, 24 to, 25 at, 26 rounds; 27 the j-th doubted -/
section SP
abbrev iv_it (σ : zz_S) (i : Int) : Prop := (1 ≤ σ 12 i ∧ σ 12 i ≤ 100) ∧ (0 ≤ σ 13 i ∧ σ 13 i ≤ 5) ∧ (0 ≤ σ 14 i ∧ σ 14 i ≤ σ 28 0) ∧ (0 ≤ σ 15 i ∧ σ 15 i ≤ 10) ∧ (0 ≤ σ 16 i ∧ σ 16 i ≤ 9) ∧ (0 ≤ σ 17 i ∧ σ 17 i ≤ σ 28 0) ∧ (-1 ≤ σ 18 i ∧ σ 18 i < σ 0 0) ∧ (σ 19 i = 0 ∨ σ 19 i = 1) ∧ (σ 20 i = 0 ∨ σ 20 i = 1) ∧ (-2 ≤ σ 21 i ∧ σ 21 i ≤ 6) ∧ (0 ≤ σ 22 i ∧ σ 22 i ≤ 100000000) ∧ (σ 18 i ≠ -1 → σ 10 (σ 18 i) = i) ∧ (σ 13 i = 1 ↔ σ 18 i ≠ -1) ∧ (σ 13 i ≤ 1 → σ 15 i ≤ σ 1 0)
/-- a new item's numbers -/
abbrev iv_nw (σ : zz_S) (i : Int) : Prop := σ 13 i = 0 ∧ σ 14 i = 0 ∧ σ 15 i = 0 ∧ σ 16 i = 0 ∧ σ 17 i = 0 ∧ σ 18 i = -1 ∧ σ 19 i = 0 ∧ σ 20 i = 0 ∧ σ 21 i = 0 ∧ σ 22 i = 0
/-- the single numbers' bounds -/
abbrev iw_ (σ : zz_S) : Prop :=
  (2 ≤ σ 0 0 ∧ σ 0 0 ≤ 40) ∧ (0 ≤ σ 1 0 ∧ σ 1 0 ≤ 9) ∧ (0 ≤ σ 2 0 ∧ σ 2 0 ≤ 100000000) ∧ (1 ≤ σ 3 0 ∧ σ 3 0 ≤ 100) ∧ (0 ≤ σ 4 0 ∧ σ 4 0 ≤ 60) ∧ (0 ≤ σ 5 0 ∧ σ 5 0 ≤ 60) ∧ (σ 6 0 = 0 ∨ σ 6 0 = 1) ∧ (0 ≤ σ 7 0 ∧ σ 7 0 ≤ 40) ∧ (0 ≤ σ 8 0 ∧ σ 8 0 < σ 0 0) ∧ ((12 < σ 0 0 ∧ σ 28 0 = 6) ∨ (σ 0 0 ≤ 12 ∧ (2 * σ 28 0 + 1 = σ 0 0 ∨ 2 * σ 28 0 + 2 = σ 0 0)))
/-- all that holds of a state; of the doubted ones from the lo-th on -/
abbrev ir_ (lo : Int) (σ : zz_S) : Prop := iw_ σ ∧
  (∀ t, 0 ≤ σ 10 t ∧ σ 10 t ≤ σ 4 0 ∧ (σ 10 t ≠ 0 → σ 18 (σ 10 t) = t)) ∧ (∀ c, σ 11 c = 0 ∨ σ 11 c = 1) ∧ (∀ i, 1 ≤ i → i ≤ σ 4 0 → iv_it σ i) ∧
  (∀ j, 0 ≤ j → j < σ 5 0 → 1 ≤ σ 23 j ∧ σ 23 j ≤ σ 4 0 ∧ 2 ≤ σ 13 (σ 23 j) ∧ σ 24 j = σ 21 (σ 23 j) ∧ σ 25 j = σ 22 (σ 23 j) ∧ σ 26 j = σ 15 (σ 23 j)) ∧
  (∀ j, lo ≤ j → j < σ 7 0 → 1 ≤ σ 27 j ∧ σ 27 j ≤ σ 4 0 ∧ σ 18 (σ 27 j) ≠ -1) ∧
  (∀ i, σ 4 0 < i → iv_nw σ i) ∧ (σ 8 0 = σ 2 0 % σ 0 0) ∧
  (∀ j k, 0 ≤ j → j < σ 5 0 → 0 ≤ k → k < σ 5 0 → σ 23 j = σ 23 k → j = k) ∧ (∀ j k, 0 ≤ j → j < σ 7 0 → 0 ≤ k → k < σ 7 0 → σ 27 j = σ 27 k → j = k) ∧
  (∀ i, 1 ≤ i → i ≤ σ 4 0 → (σ 19 i = 1 ↔ ∃ k, lo ≤ k ∧ k < σ 7 0 ∧ σ 27 k = i)) ∧ (σ 6 0 = 0 → σ 7 0 = 0) ∧ (∀ j, 0 ≤ σ 23 j ∧ σ 23 j ≤ σ 4 0) ∧ (∀ j, 0 ≤ σ 27 j ∧ σ 27 j ≤ σ 4 0) ∧ (∀ t, t < 0 → σ 10 t = 0)
abbrev iv_ (σ : zz_S) : Prop := ir_ 0 σ
def sp_fl (σ : zz_S) (F : Nat) (n : Int) : Int := if n ≤ σ F 0 then 1 else 0
/-- a sum or a difference of two places, brought into the loop -/
def sp_in (σ : zz_S) (x : Int) : Int := if x < 0 then x + σ 0 0 else if x < σ 0 0 then x else x - σ 0 0
/-- the tray at a position -/
def sp_tr (σ : zz_S) (x : Int) : Int := sp_in σ (x - σ 8 0)
def sp_il (σ : zz_S) (x : Int) : Int := if 0 ≤ x ∧ x < σ 0 0 then 1 else 0
def sp_ch (σ : zz_S) (x : Int) : Int := if 1 ≤ x ∧ x ≤ σ 28 0 then 1 else 0
def sp_fu (σ : zz_S) (x : Int) : Int := if 1 ≤ x ∧ x ≤ σ 28 0 then σ 11 x else 0
def sp_po (σ : zz_S) (i : Int) : Int := if σ 18 i = -1 then -1 else sp_in σ (σ 18 i + σ 8 0)
/-- an item comes onto a tray; an item leaves its tray -/
def sp_pu (σ : zz_S) (i t : Int) : zz_S := up_a (up_a (up_a σ 10 t i) 18 i t) 13 i 1
def sp_lv (σ : zz_S) (i st lt : Int) : zz_S := up_s (up_a (up_a (up_a (up_a (up_a (up_a (up_a (up_a (up_a σ 10 (σ 18 i) 0) 18 i (-1)) 13 i st) 21 i lt) 22 i (σ 2 0)) 23 (σ 5 0) i) 24 (σ 5 0) lt) 25 (σ 5 0) (σ 2 0)) 26 (σ 5 0) (σ 15 i)) 5 (σ 5 0 + 1)
def sp_ai (σ : zz_S) (x : Int) : Int := if 0 ≤ x ∧ x < σ 4 0 then x + 1 else 0
def sp_al (σ : zz_S) (x : Int) : Int := if 0 ≤ x ∧ x < σ 5 0 then σ 23 x else 0
def sp_ad (σ : zz_S) (x : Int) : Int := if 0 ≤ x ∧ x < σ 7 0 then σ 27 x else 0
theorem sp_fl_b (σ : zz_S) (F : Nat) (n : Int) : (sp_fl σ F n = 1 ∧ n ≤ σ F 0) ∨ (sp_fl σ F n = 0 ∧ σ F 0 < n) := by
  unfold sp_fl; split <;> omega
theorem sp_in_b (σ : zz_S) (x : Int) : (x < 0 ∧ sp_in σ x = x + σ 0 0) ∨ (0 ≤ x ∧ x < σ 0 0 ∧ sp_in σ x = x) ∨ (0 ≤ x ∧ σ 0 0 ≤ x ∧ sp_in σ x = x - σ 0 0) := by
  unfold sp_in; split
  · omega
  · split <;> omega
theorem sp_il_b (σ : zz_S) (x : Int) : (sp_il σ x = 1 ∧ 0 ≤ x ∧ x < σ 0 0) ∨ (sp_il σ x = 0 ∧ (x < 0 ∨ σ 0 0 ≤ x)) := by
  unfold sp_il; split <;> omega
theorem sp_ch_b (σ : zz_S) (x : Int) : (sp_ch σ x = 1 ∧ 1 ≤ x ∧ x ≤ σ 28 0) ∨ (sp_ch σ x = 0 ∧ (x < 1 ∨ σ 28 0 < x)) := by
  unfold sp_ch; split <;> omega
theorem sp_fu_b (σ : zz_S) (x : Int) : (sp_fu σ x = σ 11 x ∧ 1 ≤ x ∧ x ≤ σ 28 0) ∨ (sp_fu σ x = 0 ∧ (x < 1 ∨ σ 28 0 < x)) := by
  unfold sp_fu; split <;> omega
theorem sp_tr_b (σ : zz_S) (x : Int) : sp_tr σ x = sp_in σ (x - σ 8 0) := rfl
theorem sp_po_b (σ : zz_S) (i : Int) : (σ 18 i = -1 ∧ sp_po σ i = -1) ∨ (σ 18 i ≠ -1 ∧ sp_po σ i = sp_in σ (σ 18 i + σ 8 0)) := by
  unfold sp_po; split <;> omega
theorem sp_ai_b (σ : zz_S) (x : Int) : (0 ≤ x ∧ x < σ 4 0 ∧ sp_ai σ x = x + 1) ∨ ((x < 0 ∨ σ 4 0 ≤ x) ∧ sp_ai σ x = 0) := by
  unfold sp_ai; split <;> omega
theorem sp_al_b (σ : zz_S) (x : Int) : (0 ≤ x ∧ x < σ 5 0 ∧ sp_al σ x = σ 23 x) ∨ ((x < 0 ∨ σ 5 0 ≤ x) ∧ sp_al σ x = 0) := by
  unfold sp_al; split <;> omega
theorem sp_ad_b (σ : zz_S) (x : Int) : (0 ≤ x ∧ x < σ 7 0 ∧ sp_ad σ x = σ 27 x) ∨ ((x < 0 ∨ σ 7 0 ≤ x) ∧ sp_ad σ x = 0) := by
  unfold sp_ad; split <;> omega
end SP
end
section
section SQ
theorem pg_ : ∀ (m k : Nat) (f : Nat → Nat), (∀ j, j < k → f j < m) → (∀ a b, a < k → b < k → f a = f b → a = b) → k ≤ m := by
  intro m
  induction m with
  | zero =>
    intro k f h _
    cases k with
    | zero => exact Nat.le_refl _
    | succ k => exact absurd (h 0 (Nat.succ_pos k)) (Nat.not_lt_zero _)
  | succ m ih =>
    intro k f h inj
    by_cases hex : ∃ a, a < k ∧ f a = m
    · obtain ⟨a, ha, hfa⟩ := hex
      have hk := ih (k - 1) (fun j => f (if j = a then k - 1 else j)) (fun j hj => by
        show f (if j = a then k - 1 else j) < m
        by_cases q : j = a
        · rw [if_pos q]
          have h1 := h (k - 1) (by omega)
          have h2 : f (k - 1) ≠ m := fun z => by have := inj (k - 1) a (by omega) ha (by omega); omega
          omega
        · rw [if_neg q]
          have h1 := h j (by omega)
          have h2 : f j ≠ m := fun z => q (inj j a (by omega) ha (by omega))
          omega) (fun x y hx hy e => by
        have e : f (if x = a then k - 1 else x) = f (if y = a then k - 1 else y) := e
        have e2 := inj (if x = a then k - 1 else x) (if y = a then k - 1 else y) (by split <;> omega) (by split <;> omega) e
        by_cases q1 : x = a
        · by_cases q2 : y = a
          · omega
          · rw [if_pos q1, if_neg q2] at e2; omega
        · by_cases q2 : y = a
          · rw [if_neg q1, if_pos q2] at e2; omega
          · rw [if_neg q1, if_neg q2] at e2; exact e2)
      omega
    · have hk := ih k f (fun j hj => by have h1 := h j hj; have h2 : f j ≠ m := fun q => hex ⟨j, hj, q⟩; omega) inj
      omega
/-- as long as an item is on a tray, not all have left -/
theorem lf_lt {lo : Int} {σ : zz_S} (hI : ir_ lo σ) {i : Int} (hi : 1 ≤ i ∧ i ≤ σ 4 0) (ht : σ 18 i ≠ -1) : σ 5 0 < 60 := by
  obtain ⟨⟨j1, j2, j3, j4, j5, j6, j7, j8, j9, j10⟩, j11, j12, j13, j14, j15, j16, j17, j18, j19, j20, j21, j22, j23, j24⟩ := hI
  have hn : ∀ j, 0 ≤ j → j < σ 5 0 → σ 23 j ≠ i := fun j h1 h2 q => by
    have h3 := (j14 j h1 h2).2.2.1
    have h4 := (j13 i hi.1 hi.2).2.2.2.2.2.2.2.2.2.2.2.2.1
    rw [q] at h3
    omega
  have hk := pg_ (σ 4 0 - 1).toNat (σ 5 0).toNat (fun j => ((if σ 23 j = σ 4 0 then i else σ 23 j) - 1).toNat) (fun j hj => by
    show ((if σ 23 j = σ 4 0 then i else σ 23 j) - 1).toNat < _
    have h1 := j14 j (by omega) (by omega)
    have h2 := hn j (by omega) (by omega)
    split <;> omega) (fun a b ha hb e => by
    have e : ((if σ 23 a = σ 4 0 then i else σ 23 a) - 1).toNat = ((if σ 23 b = σ 4 0 then i else σ 23 b) - 1).toNat := e
    have h1 := j14 a (by omega) (by omega)
    have h2 := hn a (by omega) (by omega)
    have h3 := j14 b (by omega) (by omega)
    have h4 := hn b (by omega) (by omega)
    have h5 := j18 a b (by omega) (by omega) (by omega) (by omega)
    have h6 : σ 23 a = σ 23 b := by
      by_cases q1 : σ 23 a = σ 4 0
      · by_cases q2 : σ 23 b = σ 4 0
        · omega
        · rw [if_pos q1, if_neg q2] at e; omega
      · by_cases q2 : σ 23 b = σ 4 0
        · rw [if_neg q1, if_pos q2] at e; omega
        · rw [if_neg q1, if_neg q2] at e; omega
    have h7 := h5 h6
    omega)
  omega
/-- a tray comes to a chute -/
def sp_pd (σ : zz_S) (c i : Int) : zz_S := if i = 0 ∨ σ 14 i ≠ c then σ else if σ 11 c = 0 then sp_lv σ i 2 c else if σ 1 0 < σ 15 i + 1 then sp_lv (up_a σ 15 i (σ 15 i + 1)) i 4 (-1) else up_a σ 15 i (σ 15 i + 1)
def sp_pc (σ : zz_S) (c : Int) : zz_S := sp_pd σ c (σ 10 (sp_tr σ (c * 2)))
/-- a tray comes to position 0 -/
def sp_rd (σ : zz_S) (i : Int) : zz_S := if i = 0 ∨ σ 14 i ≠ 0 then σ else if σ 16 i = 0 then sp_lv σ i 3 0 else if σ 16 i - 1 = 0 then up_a (up_a σ 16 i (σ 16 i - 1)) 14 i (σ 17 i) else up_a σ 16 i (σ 16 i - 1)
def sp_ra (σ : zz_S) : zz_S := sp_rd σ (σ 10 (sp_tr σ 0))
/-- doubts -/
def sp_db (σ : zz_S) (i : Int) : zz_S := if i = 0 then σ else up_s (up_a (up_a (up_a σ 19 i 1) 20 i 0) 27 (σ 7 0) i) 7 (σ 7 0 + 1)
def sp_da (σ : zz_S) (x : Int) : zz_S := sp_db σ (σ 10 (sp_tr σ x))
def sp_ed (σ : zz_S) (i : Int) : zz_S := if σ 20 i = 0 then sp_lv (up_a σ 19 i 0) i 5 (-2) else up_a σ 19 i 0
/-- counted: trays that are empty, items that are out, doubted ones that are not found, items on trays that are longer -/
def f_et (σ : zz_S) (t : Int) : Int := if σ 10 t = 0 then 1 else 0
def f_ou (σ : zz_S) (k : Int) : Int := if σ 13 (k + 1) = 2 then 1 else 0
def f_nf (σ : zz_S) (k : Int) : Int := if σ 20 (σ 27 k) = 0 then 1 else 0
def f_lg (σ : zz_S) (x t : Int) : Int := if σ 10 t ≠ 0 ∧ x < σ 12 (σ 10 t) then 1 else 0
theorem f_et_b (σ : zz_S) (t : Int) : (f_et σ t = 1 ∧ σ 10 t = 0) ∨ (f_et σ t = 0 ∧ σ 10 t ≠ 0) := by unfold f_et; split <;> omega
theorem f_ou_b (σ : zz_S) (t : Int) : (f_ou σ t = 1 ∧ σ 13 (t + 1) = 2) ∨ (f_ou σ t = 0 ∧ σ 13 (t + 1) ≠ 2) := by unfold f_ou; split <;> omega
theorem f_nf_b (σ : zz_S) (t : Int) : (f_nf σ t = 1 ∧ σ 20 (σ 27 t) = 0) ∨ (f_nf σ t = 0 ∧ σ 20 (σ 27 t) ≠ 0) := by unfold f_nf; split <;> omega
theorem f_lg_b (σ : zz_S) (x t : Int) : (f_lg σ x t = 1 ∧ σ 10 t ≠ 0 ∧ x < σ 12 (σ 10 t)) ∨ (f_lg σ x t = 0 ∧ (σ 10 t = 0 ∨ σ 12 (σ 10 t) ≤ x)) := by unfold f_lg; split <;> omega
theorem f_et_r (σ : zz_S) (t : Int) : 0 ≤ f_et σ t ∧ f_et σ t ≤ 1 := by have := f_et_b σ t; omega
theorem f_ou_r (σ : zz_S) (t : Int) : 0 ≤ f_ou σ t ∧ f_ou σ t ≤ 1 := by have := f_ou_b σ t; omega
theorem f_nf_r (σ : zz_S) (t : Int) : 0 ≤ f_nf σ t ∧ f_nf σ t ≤ 1 := by have := f_nf_b σ t; omega
theorem f_lg_r (σ : zz_S) (x t : Int) : 0 ≤ f_lg σ x t ∧ f_lg σ x t ≤ 1 := by have := f_lg_b σ x t; omega
end SQ
end
section
/-! what each call answers (v_), which code it throws (k_), what it leaves (s_) -/
section OP
def k_item (σ : zz_S) (x : Int) : Int := if x < 1 ∨ 100 < x then 1 else if 60 ≤ σ 4 0 then 2 else 0
def s_item (σ : zz_S) (x : Int) : zz_S := up_s (up_a σ 12 (σ 4 0 + 1) x) 4 (σ 4 0 + 1)
def k_ind (σ : zz_S) (i a c : Int) : Int := if i < 1 ∨ σ 4 0 < i ∨ a < 0 ∨ 1 < a ∨ c < 0 ∨ σ 28 0 < c then 1 else if σ 6 0 ≠ 0 ∨ σ 13 i ≠ 0 ∨ σ 3 0 < σ 12 i ∨ σ 10 (sp_tr σ a) ≠ 0 then 2 else 0
def s_ind (σ : zz_S) (i a c : Int) : zz_S := sp_pu (up_a σ 14 i c) i (sp_tr σ a)
def k_len (_σ : zz_S) (x : Int) : Int := if x < 1 ∨ 100 < x then 1 else 0
def s_len (σ : zz_S) (x : Int) : zz_S := up_s σ 3 x
def v_len (σ : zz_S) (x : Int) : Int := sm_ (f_lg σ x) (σ 0 0).toNat
def k_ret (σ : zz_S) (i n c : Int) : Int := if i < 1 ∨ σ 4 0 < i ∨ n < 0 ∨ 9 < n ∨ c < 0 ∨ σ 28 0 < c then 1 else if σ 13 i ≠ 1 ∨ σ 14 i ≠ 0 then 2 else 0
def s_ret (σ : zz_S) (i n c : Int) : zz_S := up_a (up_a σ 16 i n) 17 i c
/-- one step: steps and position go on, the chutes in order, the reader -/
def sp_s1 (σ : zz_S) : zz_S := up_s (up_s σ 2 (σ 2 0 + 1)) 8 (sp_in (up_s σ 2 (σ 2 0 + 1)) (σ 8 0 + 1))
def it_pc (σ : zz_S) : Nat → zz_S
  | 0 => σ
  | k + 1 => sp_pc (it_pc σ k) ((k : Int) + 1)
def sp_ms (σ : zz_S) : zz_S := sp_ra (it_pc (sp_s1 σ) (σ 28 0).toNat)
def it_ms (σ : zz_S) : Nat → zz_S
  | 0 => σ
  | k + 1 => sp_ms (it_ms σ k)
def k_stp (σ : zz_S) (n : Int) : Int := if n < 0 ∨ 100 < n then 1 else if σ 6 0 ≠ 0 then 2 else 0
def s_stp (σ : zz_S) (n : Int) : zz_S := it_ms σ n.toNat
def k_out (σ : zz_S) (i w : Int) : Int := if i < 0 ∨ σ 5 0 ≤ i ∨ w < 0 ∨ 3 < w then 1 else 0
def v_out (σ : zz_S) (i w : Int) : Int := if w = 0 then σ 23 i else if w = 1 then σ 24 i else if w = 2 then σ 25 i else σ 26 i
def k_chu (σ : zz_S) (c : Int) : Int := if c < 1 ∨ σ 28 0 < c then 1 else 0
def it_da (σ : zz_S) (a : Int) : Nat → zz_S
  | 0 => σ
  | k + 1 => sp_da (it_da σ a k) (sp_in σ (a + k))
def k_jam (σ : zz_S) (a b : Int) : Int := if a < 0 ∨ σ 0 0 ≤ a ∨ b < 0 ∨ σ 0 0 ≤ b then 1 else if σ 6 0 ≠ 0 then 2 else 0
def s_jam (σ : zz_S) (a b : Int) : zz_S := it_da (up_s σ 6 1) a (sp_in σ (b - a) + 1).toNat
def v_dou (σ : zz_S) (i : Int) : Int := if 0 ≤ i ∧ i < σ 7 0 then σ 27 i else -1
def k_fou (σ : zz_S) (i : Int) : Int := if i < 1 ∨ σ 4 0 < i then 1 else if σ 19 i = 0 then 2 else 0
def v_fou (σ : zz_S) (i f : Int) : Int := sm_ (f_nf (up_a σ 20 i f)) (σ 7 0).toNat
def it_ed (σ : zz_S) : Nat → zz_S
  | 0 => σ
  | k + 1 => sp_ed (it_ed σ k) (σ 27 k)
def k_rtk (σ : zz_S) : Int := if σ 6 0 = 0 then 1 else 0
def s_rtk (σ : zz_S) : zz_S := up_s (up_s (it_ed σ (σ 7 0).toNat) 7 0) 6 0
def k_man (σ : zz_S) (i c : Int) : Int := if i < 1 ∨ σ 4 0 < i ∨ c < 1 ∨ σ 28 0 < c then 1 else if σ 13 i ≠ 3 ∧ σ 13 i ≠ 5 then 2 else 0
def v_man (σ : zz_S) (c : Int) : Int := if σ 11 c = 0 then 1 else 0
def s_man (σ : zz_S) (i c : Int) : zz_S := if σ 11 c = 0 then up_a σ 13 i 2 else σ
def k_tra (σ : zz_S) (t : Int) : Int := if t < 0 ∨ σ 0 0 ≤ t then 1 else 0
def k_tol (σ : zz_S) (i w : Int) : Int := if i < 1 ∨ σ 4 0 < i ∨ w < 0 ∨ 6 < w then 1 else 0
def v_tol (σ : zz_S) (i w : Int) : Int := if w = 0 then σ 13 i else if w = 1 then σ 14 i else if w = 2 then σ 15 i else if w = 3 then σ 12 i else if w = 4 then σ 18 i else if w = 5 then sp_po σ i else σ 16 i
def v_cou (σ : zz_S) (w : Int) : Int := if w = 0 then σ 0 0 else if w = 1 then σ 4 0 else if w = 2 then sm_ (f_et σ) (σ 0 0).toNat else if w = 3 then σ 2 0 else if w = 4 then σ 28 0 else if w = 5 then sm_ (f_ou σ) (σ 4 0).toNat else if w = 6 then σ 6 0 else -1
/-- the exception of a code -/
def ex_s (k : Int) : String := if k = 1 then "java/lang/IllegalArgumentException" else "java/lang/IllegalStateException"
def ex_u (k : Int) : String := if k = 1 then "java/lang/IllegalArgumentException" else "java/lang/UnsupportedOperationException"
end OP
end
section
/-! a call on a part of the world: the rest stays as it is -/
section FR
theorem fr_l {α : Type} {a b : List α} {k : Nat} {q : α} (h : a[k]? = some q) : (a ++ b)[k]? = some q := by
  have hl : k < a.length := (List.getElem?_eq_some_iff.mp h).1
  rw [List.getElem?_append_left hl]; exact h
theorem fr_r {α : Type} {a b : List α} {k : Nat} {q : α} (h : b[k]? = some q) : (a ++ b)[a.length + k]? = some q := by
  rw [List.getElem?_append_right (Nat.le_add_right _ _), Nat.add_sub_cancel_left]; exact h
theorem fr_c {α : Type} {a b : List α} {k : Nat} {q : α} (h : (a ++ b)[k]? = some q) : (k < a.length ∧ a[k]? = some q) ∨ (a.length ≤ k ∧ b[k - a.length]? = some q) := by
  by_cases hl : k < a.length
  · rw [List.getElem?_append_left hl] at h; exact Or.inl ⟨hl, h⟩
  · rw [List.getElem?_append_right (by omega)] at h; exact Or.inr ⟨by omega, h⟩
theorem fr_Pl {D : va_G} {cl : List vw_C} {a b : va_W} {H : Heap} (h : va_P D cl (a ++ b) H) : va_P D cl a H := fun k q hk => h k q (fr_l hk)
theorem fr_Pr {D : va_G} {cl : List vw_C} {a b : va_W} {H : Heap} (h : va_P D cl (a ++ b) H) : va_P D cl b H := fun _ q hk => h _ q (fr_r hk)
theorem fr_Dl {A : Nat → Prop} {a b : va_W} (h : va_D A (a ++ b)) : va_D A a := ⟨fun i j p q hi hj e => h.1 i j p q (fr_l hi) (fr_l hj) e, fun k q hk => h.2 k q (fr_l hk)⟩
theorem fr_Dr {A : Nat → Prop} {a b : va_W} (h : va_D A (a ++ b)) : va_D A b := ⟨fun i j p q hi hj e => by have := h.1 _ _ p q (fr_r (a := a) hi) (fr_r hj) e; omega, fun _ q hk => h.2 _ q (fr_r hk)⟩
theorem fr_ne {A : Nat → Prop} {a b : va_W} (h : va_D A (a ++ b)) {i j : Nat} {p q : Nat × va_E} (hi : a[i]? = some p) (hj : b[j]? = some q) : p.1 ≠ q.1 := fun e => by
  have h1 := h.1 _ _ p q (fr_l hi) (fr_r hj) e
  have h2 : i < a.length := (List.getElem?_eq_some_iff.mp hi).1
  omega
theorem fr_Pc {D : va_G} {cl : List vw_C} {a b : va_W} {H : Heap} (h : va_P D cl (a ++ b) H) : va_P D cl (b ++ a) H := (fr_Pr h).app (fr_Pl h)
theorem fr_Dc {A : Nat → Prop} {a b : va_W} (h : va_D A (a ++ b)) : va_D A (b ++ a) := (fr_Dr h).app (fr_Dl h) (fun _ _ _ _ hi hj e => fr_ne h hj hi e.symm)
theorem fr_join {A : Nat → Prop} {D : va_G} {cl : List vw_C} {wc wr wc' : va_W} {H H1 : Heap} (hP : va_P D cl (wc ++ wr) H) (hD : va_D A (wc ++ wr)) (hk : ∀ q : Nat, q < H.size → ¬ va_A wc H.size q → H1[q]? = H[q]?) (hf : ∀ q, va_A wc H.size q → A q)
    (hP1 : va_P D cl wc' H1) (hD1 : va_D (va_A wc H.size) wc') : va_P D cl (wc' ++ wr) H1 ∧ va_D A (wc' ++ wr) := by
  have hn : ∀ (k : Nat) (q : Nat × va_E), wr[k]? = some q → ¬ va_A wc H.size q.1 := fun k q hq h => by
    rcases h with ⟨i, e, hi⟩ | h
    · exact fr_ne hD hi hq rfl
    · exact absurd (fr_Pr hP k q hq).lt (by omega)
  refine ⟨hP1.app ((fr_Pr hP).kept (fun k q hq => hk q.1 (fr_Pr hP k q hq).lt (hn k q hq))), (hD1.weaken (fun _ _ _ h => hf _ h)).app (fr_Dr hD) (fun i j x y hi hj e => ?_)⟩
  exact hn j y hj (by rw [← e]; exact hD1.2 i x hi)
variable {p : Program} {l : Launch} {e : Env} {R : Room} {s : State} {m : MethodId} {args : Array Value} {below : List Frame} {meth : Method} {c : Code} {H : Heap} {locs : List Loc} {cells slots : Nat} {Q : State → Prop} {D : va_G} {cy : Nat → Nat} {A : Nat → Prop} {wc wr : va_W} {V : Option Value} {S : Type} {ok : S → Prop} {wd' : S → va_W}
variable {y : MethodName} {bytes cc : ByteArray} {maxL nL mc ms n index pc : Nat} {ret : Option FieldType} {ws : List Cond} {rm : Room} {Ts : List Cond} {own C : String} {b : Nat} {As rest st0 : List Value} {ls : Array Slot} {bad : Prop} {ex : String}
theorem zf_back {Qa : State → Outcome → State → Prop} (hr : va_Run p l e R s m args below meth c H locs cells slots mc ms (F0 m pc ls st0) rest Qa (va_A wc H.size)) (hQ : ∀ st o t, Qa st o t → o = .returned V ∧ (∃ u : S, ok u ∧ ct_B D cy (va_A wc H.size) (wd' u) t) ∧ va_F (va_A wc H.size) st t)
    (hP : va_P D zz_cl (wc ++ wr) H) (hD : va_D A (wc ++ wr)) (hS : va_S A s.heap H locs) (hA : ∀ q, s.heap.size ≤ q → A q)
    (kk : ∀ (u : S) (H1 : Heap) (locs1 : List Loc), ok u → va_P D zz_cl (wd' u ++ wr) H1 → va_D A (wd' u ++ wr) → va_S A s.heap H1 locs1 → W p l e R s m args below meth c H1 locs1 (cells + mc) (slots + ms) Q (F0 m (pc + 3) ls (V.toList ++ rest))) : W p l e R s m args below meth c H locs cells slots Q (F0 m pc ls st0) := by
  intro T hT X
  obtain ⟨v, st₀, t, T', L, h0, X', hL, e1, e2, hq, st⟩ := hr T hT X
  obtain ⟨hv, ⟨u, hu, hP1, hK1, hD1⟩, hF⟩ := hQ _ _ _ hq
  have hv : v = V := Outcome.returned.inj hv
  subst hv
  have hf := ct_fr (fr_Dl hD) hS hA
  obtain ⟨k1, k2, k3⟩ := vx_keep h0 e1 hS (fun q _ h => hf q h) hf hL hF
  obtain ⟨q1, q2⟩ := fr_join hP hD k2 hf (by rw [e1]; exact hP1) hD1
  obtain ⟨t2, a1, b1⟩ := kk u T'.heap (locs ++ L) hu q1 q2 k3 T' rfl X'
  exact ⟨t2, st t2 a1, b1⟩
theorem zf_v (Sx : CallFix p m c cc nL s args Ts own) (hM : Met l y ws rm (ct_P D cy (.ref b :: As) wc H.size) (ct_Q D cy wc H.size V ok wd') mc ms (va_A wc H.size)) (cw : CallW R s args own C index y bytes maxL ret ws rm mc ms n)
    (hK : va_K D zz_cl (zz_ty cy) s) (hP : va_P D zz_cl (wc ++ wr) H) (hD : va_D A (wc ++ wr)) (hS : va_S A s.heap H locs) (hA : ∀ q, s.heap.size ≤ q → A q) (hE : ev_ok A s) (hrc : ∃ cellB : Cell, H[b]? = some cellB ∧ cellB.vm.isStatics = false ∧ s.vm.findClass C = some cellB.cls)
    (hn : As.length = n) (hl : ls.size = nL) (hst : st0 = As.reverse ++ .ref b :: rest) (hR : (rest.map fun v => v.category).sum ≤ 8) (hdg : decode cc pc = .ok (.invokevirtual index, 3)) (hf : cells + mc ≤ R.cells ∧ slots + ms ≤ R.slots)
    (kk : ∀ (u : S) (H1 : Heap) (locs1 : List Loc), ok u → va_P D zz_cl (wd' u ++ wr) H1 → va_D A (wd' u ++ wr) → va_S A s.heap H1 locs1 → W p l e R s m args below meth c H1 locs1 (cells + mc) (slots + ms) Q (F0 m (pc + 3) ls (V.toList ++ rest))) : W p l e R s m args below meth c H locs cells slots Q (F0 m pc ls st0) :=
  zf_back (va_runV (As := As) (rest := rest) Sx hM cw ⟨ct_blind, hrc, ct_pre (fr_Pl hP) hK (fr_Dl hD) hS hA hE⟩ rfl hn hl hst (lv_room hR) hdg hf) (fun _ _ _ h => h) hP hD hS hA kk
theorem zf_s (Sx : CallFix p m c cc nL s args Ts own) (hM : Met l y ws rm (ct_P D cy As wc H.size) (ct_Q D cy wc H.size V ok wd') mc ms (va_A wc H.size)) (cw : CallB R s args own index y bytes maxL ret ws rm mc ms n ∧ (Cond.static y).before args s = true)
    (hK : va_K D zz_cl (zz_ty cy) s) (hP : va_P D zz_cl (wc ++ wr) H) (hD : va_D A (wc ++ wr)) (hS : va_S A s.heap H locs) (hA : ∀ q, s.heap.size ≤ q → A q) (hE : ev_ok A s)
    (hn : As.length = n) (hl : ls.size = nL) (hst : st0 = As.reverse ++ rest) (hR : (rest.map fun v => v.category).sum ≤ 8) (hdg : decode cc pc = .ok (.invokestatic index, 3)) (hf : cells + mc ≤ R.cells ∧ slots + ms ≤ R.slots)
    (kk : ∀ (u : S) (H1 : Heap) (locs1 : List Loc), ok u → va_P D zz_cl (wd' u ++ wr) H1 → va_D A (wd' u ++ wr) → va_S A s.heap H1 locs1 → W p l e R s m args below meth c H1 locs1 (cells + mc) (slots + ms) Q (F0 m (pc + 3) ls (V.toList ++ rest))) : W p l e R s m args below meth c H locs cells slots Q (F0 m pc ls st0) :=
  zf_back (va_runS (As := As) (rest := rest) Sx hM cw ⟨ct_blind, ct_pre (fr_Pl hP) hK (fr_Dl hD) hS hA hE⟩ rfl hn hl hst (lv_room hR) hdg hf) (fun _ _ _ h => h) hP hD hS hA kk
theorem zf_i (Sx : CallFix p m c cc nL s args Ts own) (hM : Met l y ws rm (ct_P D cy (.ref b :: As) wc H.size) (ct_Q D cy wc H.size V ok wd') mc ms (va_A wc H.size)) (cw : CallB R s args own index y bytes maxL none ws rm mc ms n ∧ y.name = "<init>" ∧ (Cond.instanceMethod y).before args s = true)
    (hK : va_K D zz_cl (zz_ty cy) s) (hP : va_P D zz_cl (wc ++ wr) H) (hD : va_D A (wc ++ wr)) (hS : va_S A s.heap H locs) (hA : ∀ q, s.heap.size ≤ q → A q) (hE : ev_ok A s)
    (hn : As.length = n) (hl : ls.size = nL) (hst : st0 = As.reverse ++ .ref b :: rest) (hR : (rest.map fun v => v.category).sum ≤ 8) (hdg : decode cc pc = .ok (.invokespecial index, 3)) (hf : cells + mc ≤ R.cells ∧ slots + ms ≤ R.slots)
    (kk : ∀ (u : S) (H1 : Heap) (locs1 : List Loc), ok u → va_P D zz_cl (wd' u ++ wr) H1 → va_D A (wd' u ++ wr) → va_S A s.heap H1 locs1 → W p l e R s m args below meth c H1 locs1 (cells + mc) (slots + ms) Q (F0 m (pc + 3) ls (V.toList ++ rest))) : W p l e R s m args below meth c H locs cells slots Q (F0 m pc ls st0) :=
  zf_back (va_runI (As := As) (rest := rest) Sx hM cw ⟨ct_blind, ct_pre (fr_Pl hP) hK (fr_Dl hD) hS hA hE⟩ rfl hn hl hst (lv_room hR) hdg hf) (fun _ _ _ h => h) hP hD hS hA kk
end FR
end
section
/-! the reference's cells: k is the code that its last call has left -/
section RK
def rk_ (cy gr : Nat → Nat) (k : Int) (σ : zz_S) : va_W := [
  (gr 0, .inr (3, [.int (zz_i k), .int (zz_i (σ 0 0)), .int (zz_i (σ 1 0)), .int (zz_i (σ 2 0)), .int (zz_i (σ 3 0)), .ref (gr 1), .ref (gr 2), .int (zz_i (σ 4 0)), .ref (gr 3), .ref (gr 4), .ref (gr 5), .ref (gr 6), .ref (gr 7), .ref (gr 8), .int (zz_i (σ 5 0)), .ref (gr 9), .ref (gr 10), .ref (gr 11), .ref (gr 12), .int (zz_i (σ 6 0)), .int (zz_i (σ 7 0)), .ref (gr 13), .ref (gr 14)])),
  (gr 1, .inl (cy 0, 40, .inl (fun j : Nat => zz_i (σ 10 j)))),
  (gr 2, .inl (cy 1, 7, .inl (fun j : Nat => zz_i (σ 11 j)))),
  (gr 3, .inl (cy 0, 61, .inl (fun j : Nat => zz_i (σ 12 j)))),
  (gr 4, .inl (cy 0, 61, .inl (fun j : Nat => zz_i (σ 13 j)))),
  (gr 5, .inl (cy 0, 61, .inl (fun j : Nat => zz_i (σ 14 j)))),
  (gr 6, .inl (cy 0, 61, .inl (fun j : Nat => zz_i (σ 15 j)))),
  (gr 7, .inl (cy 0, 61, .inl (fun j : Nat => zz_i (σ 16 j)))),
  (gr 8, .inl (cy 0, 61, .inl (fun j : Nat => zz_i (σ 17 j)))),
  (gr 9, .inl (cy 0, 60, .inl (fun j : Nat => zz_i (σ 23 j)))),
  (gr 10, .inl (cy 0, 60, .inl (fun j : Nat => zz_i (σ 24 j)))),
  (gr 11, .inl (cy 0, 60, .inl (fun j : Nat => zz_i (σ 25 j)))),
  (gr 12, .inl (cy 0, 60, .inl (fun j : Nat => zz_i (σ 26 j)))),
  (gr 13, .inl (cy 0, 40, .inl (fun j : Nat => zz_i (σ 27 j)))),
  (gr 14, .inl (cy 1, 61, .inl (fun j : Nat => zz_i (σ 20 j))))]
def sp_bt (v lo hi : Int) : Int := if lo ≤ v ∧ v ≤ hi then 1 else 0
theorem sp_bt_b (v lo hi : Int) : (sp_bt v lo hi = 1 ∧ lo ≤ v ∧ v ≤ hi) ∨ (sp_bt v lo hi = 0 ∧ (v < lo ∨ hi < v)) := by
  unfold sp_bt; split <;> omega
/-- what the reference answers, what it leaves, where a call throws the code k -/
def an_ (k v : Int) : Int := if k = 0 then v else 0
def nx_ (k : Int) (σ σ' : zz_S) : zz_S := if k = 0 then σ' else σ
theorem em_2 {y n : Int} (h : 0 ≤ y ∧ y < 2 * n) : y % n = if y < n then y else y - n := by
  by_cases q : y < n
  · rw [if_pos q]; exact Int.emod_eq_of_lt h.1 q
  · rw [if_neg q]
    have h2 : y = (y - n) + n * 1 := by omega
    have h1 : y % n = (y - n) % n := by
      calc y % n = ((y - n) + n * 1) % n := by rw [← h2]
        _ = (y - n) % n := Int.add_mul_emod_self_left _ _ _
    rw [h1]
    exact Int.emod_eq_of_lt (by omega) (by omega)
theorem tr_md {σ : zz_S} (hw : iw_ σ) (h17 : σ 8 0 = σ 2 0 % σ 0 0) {x : Int} (hx : 0 ≤ x ∧ x < σ 0 0) : sp_tr σ x = (x + σ 0 0 - σ 2 0 % σ 0 0) % σ 0 0 := by
  have a := sp_in_b σ (x - σ 8 0)
  have b := sp_tr_b σ x
  have j9 := hw.2.2.2.2.2.2.2.2.1
  rw [← h17, em_2 (by omega)]
  split <;> omega
theorem to_n {σ : zz_S} {x j : Int} (h : ∀ t, 0 ≤ t → t < j → σ 10 t ≠ x) (hj : σ 10 j ≠ x) : ∀ t, 0 ≤ t → t < j + 1 → σ 10 t ≠ x := by
  intro t h1 h2
  by_cases q : t = j
  · rw [q]; exact hj
  · exact h t h1 (by omega)
theorem to_e {lo : Int} {σ : zz_S} (hI : ir_ lo σ) {x j : Int} (hx : 1 ≤ x ∧ x ≤ σ 4 0) (h : ∀ t, 0 ≤ t → t < j → σ 10 t ≠ x) (hj : σ 0 0 ≤ j) : σ 18 x = -1 := by
  have hit := hI.2.2.2.1 x hx.1 hx.2
  by_cases q : σ 18 x = -1
  · exact q
  · exact absurd (hit.2.2.2.2.2.2.2.2.2.2.2.1 q) (h _ (by omega) (by omega))
theorem to_f {lo : Int} {σ : zz_S} (hI : ir_ lo σ) {x j : Int} (hx : 1 ≤ x) (h : σ 10 j = x) : σ 18 x = j := by
  have a := (hI.2.1 j).2.2 (by omega)
  rw [h] at a; exact a
theorem pw_on {lo : Int} {σ : zz_S} (hI : ir_ lo σ) {t : Int} (h0 : 0 ≤ t) (h : σ 10 t ≠ 0) : (1 ≤ σ 10 t ∧ σ 10 t ≤ σ 4 0) ∧ σ 18 (σ 10 t) = t ∧ σ 18 (σ 10 t) ≠ -1 := by
  have a := hI.2.1 t
  have b := a.2.2 h
  exact ⟨by omega, b, by omega⟩
/-- the reference's own ways to a place in the loop -/
theorem md_in {σ : zz_S} {x y : Int} (hx : 0 ≤ x ∧ x < σ 0 0) (hy : 0 ≤ y ∧ y < σ 0 0) : (y - x + σ 0 0) % σ 0 0 = sp_in σ (y - x) := by
  have a := sp_in_b σ (y - x)
  rw [em_2 (by omega)]
  split <;> omega
theorem md_ad {σ : zz_S} {z : Int} (hz : 0 ≤ z ∧ z < 2 * σ 0 0) : z % σ 0 0 = sp_in σ z := by
  have a := sp_in_b σ z
  rw [em_2 hz]
  split <;> omega
theorem md_po {σ : zz_S} (hw : iw_ σ) (h17 : σ 8 0 = σ 2 0 % σ 0 0) {t : Int} (ht : 0 ≤ t ∧ t < σ 0 0) : (t + σ 2 0) % σ 0 0 = sp_in σ (t + σ 8 0) := by
  have j9 := hw.2.2.2.2.2.2.2.2.1
  have h3 : t + σ 2 0 = (t + σ 8 0) + σ 0 0 * (σ 2 0 / σ 0 0) := by have := Int.emod_add_mul_ediv (σ 2 0) (σ 0 0); omega
  rw [h3, Int.add_mul_emod_self_left]
  exact md_ad (by omega)
theorem rk_7 {cy gr : Nat → Nat} {k : Int} {σ : zz_S} (h : σ 7 0 = 0) : rk_ cy gr k (up_s σ 7 0) = rk_ cy gr k σ := by
  unfold rk_; rw [h]; rfl
theorem th_n {σ : zz_S} {x j b : Int} (hb : b = 0 ∨ b = 1) (h : b = 1 ↔ ∃ k, 0 ≤ k ∧ k < j ∧ σ 27 k = x) (hj : 0 ≤ j) {b' : Int} (h' : (b' = 1 ∧ (b = 1 ∨ σ 27 j = x)) ∨ (b' = 0 ∧ b = 0 ∧ σ 27 j ≠ x)) : b' = 1 ↔ ∃ k, 0 ≤ k ∧ k < j + 1 ∧ σ 27 k = x := by
  constructor
  · intro q
    rcases h' with ⟨-, h1 | h1⟩ | ⟨h1, -, -⟩
    · obtain ⟨k, a, c, d⟩ := h.mp h1
      exact ⟨k, a, by omega, d⟩
    · exact ⟨j, hj, by omega, h1⟩
    · omega
  · rintro ⟨k, a, c, d⟩
    rcases h' with ⟨h1, -⟩ | ⟨-, h1, h2⟩
    · exact h1
    · by_cases q : k = j
      · rw [q] at d; exact absurd d h2
      · have := h.mpr ⟨k, a, by omega, d⟩
        omega
theorem cnt_0 {σ : zz_S} {x a j : Int} (h : (x = 2 ∧ a = sm_ (f_et σ) j.toNat) ∨ (x ≠ 2 ∧ a = 0 ∧ j = 0)) (hj : x = 2 → j = σ 0 0) : (x = 5 ∧ a = sm_ (f_ou σ) (1 - 1 : Int).toNat) ∨ (x = 2 ∧ a = sm_ (f_et σ) (σ 0 0).toNat ∧ (1 : Int) = 1) ∨ (x ≠ 2 ∧ x ≠ 5 ∧ (1 : Int) = 1) := by
  rcases h with ⟨h1, h2⟩ | ⟨h1, h2, h3⟩
  · exact Or.inr (Or.inl ⟨h1, by rw [h2, hj h1], rfl⟩)
  · by_cases q : x = 5
    · exact Or.inl ⟨q, h2⟩
    · exact Or.inr (Or.inr ⟨h1, q, rfl⟩)
end RK
end
section
section RL
/-- b says whether x is among the first j doubted ones -/
def th_p (σ : zz_S) (x j b : Int) : Prop := b = 1 ↔ ∃ k, 0 ≤ k ∧ k < j ∧ σ 27 k = x
theorem th_0 (σ : zz_S) (x : Int) : th_p σ x 0 0 := ⟨fun h => by omega, fun ⟨k, h1, h2, _⟩ => by omega⟩
theorem th_s {σ : zz_S} {x j b : Int} (hb : b = 0 ∨ b = 1) (h : th_p σ x j b) (hj : 0 ≤ j) {b' : Int} (h' : (b' = 1 ∧ (b = 1 ∨ σ 27 j = x)) ∨ (b' = 0 ∧ b = 0 ∧ σ 27 j ≠ x)) : th_p σ x (j + 1) b' := th_n hb h hj h'
theorem th_e {σ : zz_S} {x j b : Int} (h : th_p σ x j b) (h2 : σ 19 x = 1 ↔ ∃ k, 0 ≤ k ∧ k < σ 7 0 ∧ σ 27 k = x) (hj : j = σ 7 0) : b = 1 ↔ σ 19 x = 1 := by
  rw [h2, ← hj]; exact h
end RL
end
section
/-! the start: a new sorter -/
section S0
def cl_ (lo hi x : Int) : Int := if hi < (if x < lo then lo else x) then hi else (if x < lo then lo else x)
def ch_ (n : Int) : Int := if 6 < (n - 1) / 2 then 6 else (n - 1) / 2
theorem cl_b {lo hi x : Int} (h : lo ≤ hi) : (x < lo ∧ cl_ lo hi x = lo) ∨ (hi < x ∧ cl_ lo hi x = hi) ∨ (lo ≤ x ∧ x ≤ hi ∧ cl_ lo hi x = x) := by
  unfold cl_
  by_cases h1 : x < lo
  · rw [if_pos h1]; split <;> omega
  · rw [if_neg h1]; split <;> omega
theorem ch_b {n : Int} (h : 2 ≤ n ∧ n ≤ 40) : (12 < n ∧ ch_ n = 6) ∨ (n ≤ 12 ∧ (2 * ch_ n + 1 = n ∨ 2 * ch_ n + 2 = n)) := by
  unfold ch_; split <;> omega
def s_1 (n q : Int) : zz_S := up_s (up_s (up_s (up_s (up_s (fun _ _ => 0) 0 n) 1 q) 3 60) 18 (-1)) 28 (ch_ n)
def s_0 (t r : Int) : zz_S := s_1 (cl_ 2 40 t) (cl_ 0 9 r)
theorem pv_1 {n q : Int} (a : 2 ≤ n ∧ n ≤ 40) (b : 0 ≤ q ∧ q ≤ 9) : iv_ (s_1 n q) := by
  have c := ch_b a
  exact ⟨⟨a, b, ⟨show (0 : Int) ≤ 0 by omega, show (0 : Int) ≤ 100000000 by omega⟩, ⟨show (1 : Int) ≤ 60 by omega, show (60 : Int) ≤ 100 by omega⟩, ⟨show (0 : Int) ≤ 0 by omega, show (0 : Int) ≤ 60 by omega⟩, ⟨show (0 : Int) ≤ 0 by omega, show (0 : Int) ≤ 60 by omega⟩, Or.inl rfl, ⟨show (0 : Int) ≤ 0 by omega, show (0 : Int) ≤ 40 by omega⟩, ⟨show (0 : Int) ≤ 0 by omega, show (0 : Int) < n by omega⟩, c⟩,
    fun t => ⟨show (0 : Int) ≤ 0 by omega, show (0 : Int) ≤ 0 by omega, fun h => absurd rfl h⟩, fun c => Or.inl rfl, fun i h1 h2 => absurd (show i ≤ 0 from h2) (by omega), fun j h1 h2 => absurd (show j < 0 from h2) (by omega), fun j h1 h2 => absurd (show j < 0 from h2) (by omega),
    fun i _ => ⟨rfl, rfl, rfl, rfl, rfl, rfl, rfl, rfl, rfl, rfl⟩, show (0 : Int) = 0 % n from (Int.zero_emod n).symm, fun j k h1 h2 => absurd (show j < 0 from h2) (by omega), fun j k h1 h2 => absurd (show j < 0 from h2) (by omega), fun i h1 h2 => absurd (show i ≤ 0 from h2) (by omega), fun _ => rfl,
    fun j => ⟨show (0 : Int) ≤ 0 by omega, show (0 : Int) ≤ 0 by omega⟩, fun j => ⟨show (0 : Int) ≤ 0 by omega, show (0 : Int) ≤ 0 by omega⟩, fun t _ => rfl⟩
theorem cl_t (t : Int) : 2 ≤ cl_ 2 40 t ∧ cl_ 2 40 t ≤ 40 := by have := cl_b (lo := 2) (hi := 40) (x := t) (by omega); omega
theorem cl_r (r : Int) : 0 ≤ cl_ 0 9 r ∧ cl_ 0 9 r ≤ 9 := by have := cl_b (lo := 0) (hi := 9) (x := r) (by omega); omega
theorem pv_0 (t r : Int) : iv_ (s_0 t r) := pv_1 (cl_t t) (cl_r r)
theorem cw_st (cy ga : Nat → Nat) (ad : Int → Nat) (n q : Int) : cw_ cy ga ad (s_1 n q) = [
  (ga 0, .inr (2, [.ref (ga 1), .ref (ga 2), .ref (ga 3), .ref (ga 4), .ref (ga 5), .int (zz_i q), .int (zz_i 60), .int (zz_i 0), .int (zz_i 0), .int (zz_i 0)])),
  (ga 1, .inl (cy 2, n.toNat, .inr (.inr (.inr (.inr (fun _ => none)))))), (ga 2, .inl (cy 1, (ch_ n + 1).toNat, .inl (fun _ => zz_i 0))),
  (ga 3, .inr (1, [.ref (ga 6), .int (zz_i 0)])), (ga 4, .inr (1, [.ref (ga 7), .int (zz_i 0)])), (ga 5, .inr (1, [.ref (ga 8), .int (zz_i 0)])),
  (ga 6, .inl (cy 2, 60, .inr (.inr (.inr (.inr (fun _ => none)))))), (ga 7, .inl (cy 2, 60, .inr (.inr (.inr (.inr (fun _ => none)))))), (ga 8, .inl (cy 2, 40, .inr (.inr (.inr (.inr (fun _ => none))))))] := by
  have e : (fun j : Nat => if (j : Int) < s_1 n q 4 0 then some (ad ((j : Int) + 1)) else none) = (fun _ => none) := by
    funext j; exact if_neg (show ¬ (j : Int) < 0 by omega)
  unfold cw_ cw_x
  rw [e]
  rfl
theorem rk_st (cy gr : Nat → Nat) (n q : Int) : rk_ cy gr 0 (s_1 n q) = [
  (gr 0, .inr (3, [.int (zz_i 0), .int (zz_i n), .int (zz_i q), .int (zz_i 0), .int (zz_i 60), .ref (gr 1), .ref (gr 2), .int (zz_i 0), .ref (gr 3), .ref (gr 4), .ref (gr 5), .ref (gr 6), .ref (gr 7), .ref (gr 8), .int (zz_i 0), .ref (gr 9), .ref (gr 10), .ref (gr 11), .ref (gr 12), .int (zz_i 0), .int (zz_i 0), .ref (gr 13), .ref (gr 14)])),
  (gr 1, .inl (cy 0, 40, .inl (fun _ => zz_i 0))), (gr 2, .inl (cy 1, 7, .inl (fun _ => zz_i 0))), (gr 3, .inl (cy 0, 61, .inl (fun _ => zz_i 0))), (gr 4, .inl (cy 0, 61, .inl (fun _ => zz_i 0))), (gr 5, .inl (cy 0, 61, .inl (fun _ => zz_i 0))), (gr 6, .inl (cy 0, 61, .inl (fun _ => zz_i 0))), (gr 7, .inl (cy 0, 61, .inl (fun _ => zz_i 0))), (gr 8, .inl (cy 0, 61, .inl (fun _ => zz_i 0))),
  (gr 9, .inl (cy 0, 60, .inl (fun _ => zz_i 0))), (gr 10, .inl (cy 0, 60, .inl (fun _ => zz_i 0))), (gr 11, .inl (cy 0, 60, .inl (fun _ => zz_i 0))), (gr 12, .inl (cy 0, 60, .inl (fun _ => zz_i 0))), (gr 13, .inl (cy 0, 40, .inl (fun _ => zz_i 0))), (gr 14, .inl (cy 1, 61, .inl (fun _ => zz_i 0)))] := rfl
theorem zz_mx {a b : Int} (ha : -2147483648 ≤ a ∧ a < 2147483648) (hb : -2147483648 ≤ b ∧ b < 2147483648) : (if zz_i a < zz_i b then zz_i b else zz_i a) = zz_i (if a < b then b else a) := by
  by_cases h : a < b
  · rw [if_pos h, if_pos ((zz_lt ha hb).mpr h)]
  · rw [if_neg h, if_neg (fun q => h ((zz_lt ha hb).mp q))]
theorem zz_mn {a b : Int} (ha : -2147483648 ≤ a ∧ a < 2147483648) (hb : -2147483648 ≤ b ∧ b < 2147483648) : (if zz_i b < zz_i a then zz_i b else zz_i a) = zz_i (if b < a then b else a) := by
  by_cases h : b < a
  · rw [if_pos h, if_pos ((zz_lt hb ha).mpr h)]
  · rw [if_neg h, if_neg (fun q => h ((zz_lt hb ha).mp q))]
theorem ka_i {D : va_G} {cy : Nat → Nat} {s : State} {cA : ClassId} (hK : va_K D zz_cl (zz_ty cy ++ [(cA, .int)]) s) : cA = cy 0 :=
  Option.some.inj ((show s.vm.findClass ("[" ++ FieldType.int.toString) = some cA from (hK.2 4 (cA, .int) rfl).2).symm.trans (hK.2 0 (cy 0, .int) rfl).2)
theorem ka_z {D : va_G} {cy : Nat → Nat} {s : State} {cA : ClassId} (hK : va_K D zz_cl (zz_ty cy ++ [(cA, .boolean)]) s) : cA = cy 1 :=
  Option.some.inj ((show s.vm.findClass ("[" ++ FieldType.boolean.toString) = some cA from (hK.2 4 (cA, .boolean) rfl).2).symm.trans (hK.2 1 (cy 1, .boolean) rfl).2)
theorem ka_l {D : va_G} {cy : Nat → Nat} {s : State} {cA : ClassId} (hK : va_K D zz_cl (zz_ty cy ++ [(cA, .long)]) s) : cA = cy 3 :=
  Option.some.inj ((show s.vm.findClass ("[" ++ FieldType.long.toString) = some cA from (hK.2 4 (cA, .long) rfl).2).symm.trans (hK.2 3 (cy 3, .long) rfl).2)
theorem ka_o {D : va_G} {cy : Nat → Nat} {s : State} {cA : ClassId} (hK : va_K D zz_cl (zz_ty cy ++ [(cA, .object RX0)]) s) : cA = cy 2 := by
  obtain ⟨_, _, _, _, _, h1⟩ := (hK.2 4 (cA, .object RX0) rfl).2
  obtain ⟨_, _, _, _, _, h2⟩ := (hK.2 2 (cy 2, .object RX0) rfl).2
  exact Option.some.inj (h1.symm.trans h2)
end S0
section S1
variable {p : Program} {l : Launch} {e : Env} {R : Room} {s : State} {m : MethodId} {args : Array Value} {below : List Frame} {meth : Method} {c : Code} {H : Heap} {locs : List Loc} {cells slots : Nat} {Q : State → Prop} {cc : ByteArray} {pc : Nat} {ls : Array Slot} {rest : List Value} {a b : Int}
theorem zz_mmax (hexec : p.tables.exec = Jvm.exec) (hb : c.code = cc) (hml : c.maxLocals = ls.size) {own : String} {index : Nat} (hown : s.vm.findClass own = some m.cls) (hlink : (Cond.methodLink own index Lib.Math.max.name).before args s = true) (hstat : (Cond.static Lib.Math.max.name).before args s = true) (hini : (Cond.initialized "java/lang/Math").before args s = true) (hcode : (Cond.code Lib.Math.max.name Lib.Math.max.code 2 (some .int)).before args s = true)
    (hframes : 1 ≤ R.frames) (hlocals : (rest.map fun v => v.category).sum + 13 ≤ R.locals) (hc : cells ≤ R.cells) (hs : slots ≤ R.slots) (ha : -2147483648 ≤ a ∧ a < 2147483648) (hb2 : -2147483648 ≤ b ∧ b < 2147483648) (hdg : decode cc pc = .ok (.invokestatic index, 3))
    (kk : W p l e R s m args below meth c H locs cells slots Q (F0 m (pc + 3) ls (.int (zz_i (if a < b then b else a)) :: rest))) : W p l e R s m args below meth c H locs cells slots Q (F0 m pc ls (.int (zz_i b) :: .int (zz_i a) :: rest)) :=
  va_mmax hexec hb hml hown hlink hstat hini hcode hframes hlocals hc hs hdg (by rw [zz_mx ha hb2]; exact kk)
theorem zz_mmin (hexec : p.tables.exec = Jvm.exec) (hb : c.code = cc) (hml : c.maxLocals = ls.size) {own : String} {index : Nat} (hown : s.vm.findClass own = some m.cls) (hlink : (Cond.methodLink own index Lib.Math.min.name).before args s = true) (hstat : (Cond.static Lib.Math.min.name).before args s = true) (hini : (Cond.initialized "java/lang/Math").before args s = true) (hcode : (Cond.code Lib.Math.min.name Lib.Math.min.code 2 (some .int)).before args s = true)
    (hframes : 1 ≤ R.frames) (hlocals : (rest.map fun v => v.category).sum + 13 ≤ R.locals) (hc : cells ≤ R.cells) (hs : slots ≤ R.slots) (ha : -2147483648 ≤ a ∧ a < 2147483648) (hb2 : -2147483648 ≤ b ∧ b < 2147483648) (hdg : decode cc pc = .ok (.invokestatic index, 3))
    (kk : W p l e R s m args below meth c H locs cells slots Q (F0 m (pc + 3) ls (.int (zz_i (if b < a then b else a)) :: rest))) : W p l e R s m args below meth c H locs cells slots Q (F0 m pc ls (.int (zz_i b) :: .int (zz_i a) :: rest)) :=
  va_mmin hexec hb hml hown hlink hstat hini hcode hframes hlocals hc hs hdg (by rw [zz_mn ha hb2]; exact kk)
end S1
end
section
/-! constructors -/
set_option maxHeartbeats 4000000 in
set_option maxRecDepth 100000 in
theorem c_X0_init (l : Launch) (D : va_G) (cy : Nat → Nat) (h sz : Nat) (a x : Int) : Met l yX0_init wsX0_init ({ frames := 1, cells := 0, slots := 0, locals := 40 }) (ct_P D cy [.ref (h), .int (zz_i (a)), .int (zz_i (x))] [(h, .inr (0, [.int (zz_i 0), .int (zz_i 0), .int (zz_i 0), .int (zz_i 0), .int (zz_i 0), .int (zz_i 0), .int (zz_i 0), .int (zz_i 0), .int (zz_i 0), .int (zz_i 0), .int (zz_i 0), .int (zz_i 0)]))] sz) (ct_Q D cy [(h, .inr (0, [.int (zz_i 0), .int (zz_i 0), .int (zz_i 0), .int (zz_i 0), .int (zz_i 0), .int (zz_i 0), .int (zz_i 0), .int (zz_i 0), .int (zz_i 0), .int (zz_i 0), .int (zz_i 0), .int (zz_i 0)]))] sz none (fun u : Unit => True) (fun u => [(h, .inr (0, [.int (zz_i a), .int (zz_i x), .int (zz_i 0), .int (zz_i 0), .int (zz_i 0), .int (zz_i (-1)), .int (zz_i 0), .int (zz_i 0), .int (zz_i 0), .int (zz_i 0), .int (zz_i 0), .int (zz_i 0)]))])) 0 0 (va_A [(h, .inr (0, [.int (zz_i 0), .int (zz_i 0), .int (zz_i 0), .int (zz_i 0), .int (zz_i 0), .int (zz_i 0), .int (zz_i 0), .int (zz_i 0), .int (zz_i 0), .int (zz_i 0), .int (zz_i 0), .int (zz_i 0)]))] sz) := by
  refine Met.ofW (cc := cX0_init) (maxL := 3) (ret := none) (by decide) rfl ?_
  intro p e s m args below meth c s₁ B hml hv
  obtain ⟨rfl, rfl, hP, hK, hD0, hE⟩ := hv
  have hx := B.exec
  have hb := B.bytes
  have hr := B.returns
  have hts := atoms_spec (ws := wsX0_init) B.pre
  have hown : s.vm.findClass RX0 = some m.cls := findClass_of_methodNamed B.named
  have hin : meth.name = "<init>" := (name_of_methodNamed B.named B.method).1
  have hD := hD0.self (sz := s.heap.size)
  obtain ⟨A, hAe⟩ : ∃ A, A = va_A ([(h, .inr (0, [.int (zz_i 0), .int (zz_i 0), .int (zz_i 0), .int (zz_i 0), .int (zz_i 0), .int (zz_i 0), .int (zz_i 0), .int (zz_i 0), .int (zz_i 0), .int (zz_i 0), .int (zz_i 0), .int (zz_i 0)]))]) s.heap.size := ⟨_, rfl⟩
  rw [← hAe] at hD hE
  have hA : ∀ q : Nat, s.heap.size ≤ q → A q := fun q h => by rw [hAe]; exact Or.inr h
  have hS : va_S A s.heap s.heap [] := va_S.rf
  have hP : va_P D zz_cl ([(h, .inr (0, [.int (zz_i 0), .int (zz_i 0), .int (zz_i 0), .int (zz_i 0), .int (zz_i 0), .int (zz_i 0), .int (zz_i 0), .int (zz_i 0), .int (zz_i 0), .int (zz_i 0), .int (zz_i 0), .int (zz_i 0)]))]) s.heap := hP
  have hl := lv_entry ([.ref (h), .int (zz_i (a)), .int (zz_i (x))]) (n := 3) (Nat.le_of_ble_eq_true rfl)
  rw [lg_entry_eq]
  generalize (lg_sl ([.ref (h), .int (zz_i (a)), .int (zz_i (x))]) ++ List.replicate (3 - (lg_sl ([.ref (h), .int (zz_i (a)), .int (zz_i (x))])).length) Slot.unset).toArray = ls at hl ⊢
  have hl : lv_has ls 3 [(0, .ref (h)), (1, .int (zz_i (a))), (2, .int (zz_i (x)))] := hl
  have hiX0 : ∀ w ∈ wsX00, w ∈ wsX0_init := by decide +kernel
  have hf9 := hts (.fieldLink RX0 9 "SorterSteps$Item" "state" "I") (by decide +kernel)
  have hf15 := hts (.fieldLink RX0 15 "SorterSteps$Item" "code" "I") (by decide +kernel)
  have hf18 := hts (.fieldLink RX0 18 "SorterSteps$Item" "tray" "I") (by decide +kernel)
  have hf21 := hts (.fieldLink RX0 21 "SorterSteps$Item" "number" "I") (by decide +kernel)
  have hf24 := hts (.fieldLink RX0 24 "SorterSteps$Item" "length" "I") (by decide +kernel)
  refine lv_aload_n hx hb dX0_init_0 rfl (lv_at hl 0 rfl) ?_
  refine W.objInit hx hb hown (hts (.methodLink RX0 3 objectInit) (by decide +kernel)) (hts (.instanceMethod objectInit) (by decide +kernel)) (hts (.code objectInit ⟨#[0xb1]⟩ 1 none) (by decide +kernel)) rfl (by rw [hml]; exact hl.1) rfl dX0_init_1 (Nat.le_of_ble_eq_true rfl) (Nat.le_of_ble_eq_true rfl) ?_
  refine W.eq (g2 := F0 m 4 ls []) rfl ?_
  refine lv_aload_n hx hb dX0_init_4 rfl (lv_at hl 0 rfl) ?_
  refine lv_iconst (v := zz_i (0)) hx hb dX0_init_5 rfl ?_
  refine va_put (D := D) (ci := 0) (v := .int (zz_i (0))) (ty := .int) (C := RX0) (T := TX0) (N := 12) hx hb hts hiX0 tyX0 tyX0_ok nmX0 hown hK hP hD hS 0 rfl rfl 2 (by decide) hf9 (fun _ h9 => h9) rfl (by decide +kernel) rfl rfl (Nat.le_of_ble_eq_true rfl) dX0_init_6 (fun H locs hP hD hS => ?_)
  have hP : va_P D zz_cl ([(h, .inr (0, [.int (zz_i 0), .int (zz_i 0), .int (zz_i (0)), .int (zz_i 0), .int (zz_i 0), .int (zz_i 0), .int (zz_i 0), .int (zz_i 0), .int (zz_i 0), .int (zz_i 0), .int (zz_i 0), .int (zz_i 0)]))]) H := hP
  have hD : va_D A ([(h, .inr (0, [.int (zz_i 0), .int (zz_i 0), .int (zz_i (0)), .int (zz_i 0), .int (zz_i 0), .int (zz_i 0), .int (zz_i 0), .int (zz_i 0), .int (zz_i 0), .int (zz_i 0), .int (zz_i 0), .int (zz_i 0)]))]) := hD
  refine lv_aload_n hx hb dX0_init_9 rfl (lv_at hl 0 rfl) ?_
  refine lv_iconst (v := zz_i (0)) hx hb dX0_init_10 rfl ?_
  refine va_put (D := D) (ci := 0) (v := .int (zz_i (0))) (ty := .int) (C := RX0) (T := TX0) (N := 12) hx hb hts hiX0 tyX0 tyX0_ok nmX0 hown hK hP hD hS 0 rfl rfl 3 (by decide) hf15 (fun _ h9 => h9) rfl (by decide +kernel) rfl rfl (Nat.le_of_ble_eq_true rfl) dX0_init_11 (fun H locs hP hD hS => ?_)
  have hP : va_P D zz_cl ([(h, .inr (0, [.int (zz_i 0), .int (zz_i 0), .int (zz_i (0)), .int (zz_i (0)), .int (zz_i 0), .int (zz_i 0), .int (zz_i 0), .int (zz_i 0), .int (zz_i 0), .int (zz_i 0), .int (zz_i 0), .int (zz_i 0)]))]) H := hP
  have hD : va_D A ([(h, .inr (0, [.int (zz_i 0), .int (zz_i 0), .int (zz_i (0)), .int (zz_i (0)), .int (zz_i 0), .int (zz_i 0), .int (zz_i 0), .int (zz_i 0), .int (zz_i 0), .int (zz_i 0), .int (zz_i 0), .int (zz_i 0)]))]) := hD
  refine lv_aload_n hx hb dX0_init_14 rfl (lv_at hl 0 rfl) ?_
  refine lv_iconst (v := zz_i (-1)) hx hb dX0_init_15 rfl ?_
  refine va_put (D := D) (ci := 0) (v := .int (zz_i (-1))) (ty := .int) (C := RX0) (T := TX0) (N := 12) hx hb hts hiX0 tyX0 tyX0_ok nmX0 hown hK hP hD hS 0 rfl rfl 5 (by decide) hf18 (fun _ h9 => h9) rfl (by decide +kernel) rfl rfl (Nat.le_of_ble_eq_true rfl) dX0_init_16 (fun H locs hP hD hS => ?_)
  have hP : va_P D zz_cl ([(h, .inr (0, [.int (zz_i 0), .int (zz_i 0), .int (zz_i (0)), .int (zz_i (0)), .int (zz_i 0), .int (zz_i (-1)), .int (zz_i 0), .int (zz_i 0), .int (zz_i 0), .int (zz_i 0), .int (zz_i 0), .int (zz_i 0)]))]) H := hP
  have hD : va_D A ([(h, .inr (0, [.int (zz_i 0), .int (zz_i 0), .int (zz_i (0)), .int (zz_i (0)), .int (zz_i 0), .int (zz_i (-1)), .int (zz_i 0), .int (zz_i 0), .int (zz_i 0), .int (zz_i 0), .int (zz_i 0), .int (zz_i 0)]))]) := hD
  refine lv_aload_n hx hb dX0_init_19 rfl (lv_at hl 0 rfl) ?_
  refine lv_iload_n hx hb dX0_init_20 rfl (lv_at hl 1 rfl) ?_
  refine va_putF (D := D) (ci := 0) (v := .int (zz_i (a))) (ty := .int) (C := RX0) (T := TX0) (N := 12) hx hb hts hiX0 tyX0 tyX0_ok nmX0 hown hK hP hD hS 0 rfl rfl 0 (by decide) hf21 (fun _ h9 => h9) rfl hin rfl (by decide +kernel) rfl rfl (Nat.le_of_ble_eq_true rfl) dX0_init_21 (fun H locs hP hD hS => ?_)
  have hP : va_P D zz_cl ([(h, .inr (0, [.int (zz_i (a)), .int (zz_i 0), .int (zz_i (0)), .int (zz_i (0)), .int (zz_i 0), .int (zz_i (-1)), .int (zz_i 0), .int (zz_i 0), .int (zz_i 0), .int (zz_i 0), .int (zz_i 0), .int (zz_i 0)]))]) H := hP
  have hD : va_D A ([(h, .inr (0, [.int (zz_i (a)), .int (zz_i 0), .int (zz_i (0)), .int (zz_i (0)), .int (zz_i 0), .int (zz_i (-1)), .int (zz_i 0), .int (zz_i 0), .int (zz_i 0), .int (zz_i 0), .int (zz_i 0), .int (zz_i 0)]))]) := hD
  refine lv_aload_n hx hb dX0_init_24 rfl (lv_at hl 0 rfl) ?_
  refine lv_iload_n hx hb dX0_init_25 rfl (lv_at hl 2 rfl) ?_
  refine va_putF (D := D) (ci := 0) (v := .int (zz_i (x))) (ty := .int) (C := RX0) (T := TX0) (N := 12) hx hb hts hiX0 tyX0 tyX0_ok nmX0 hown hK hP hD hS 0 rfl rfl 1 (by decide) hf24 (fun _ h9 => h9) rfl hin rfl (by decide +kernel) rfl rfl (Nat.le_of_ble_eq_true rfl) dX0_init_26 (fun H locs hP hD hS => ?_)
  have hP : va_P D zz_cl ([(h, .inr (0, [.int (zz_i (a)), .int (zz_i (x)), .int (zz_i (0)), .int (zz_i (0)), .int (zz_i 0), .int (zz_i (-1)), .int (zz_i 0), .int (zz_i 0), .int (zz_i 0), .int (zz_i 0), .int (zz_i 0), .int (zz_i 0)]))]) H := hP
  have hD : va_D A ([(h, .inr (0, [.int (zz_i (a)), .int (zz_i (x)), .int (zz_i (0)), .int (zz_i (0)), .int (zz_i 0), .int (zz_i (-1)), .int (zz_i 0), .int (zz_i 0), .int (zz_i 0), .int (zz_i 0), .int (zz_i 0), .int (zz_i 0)]))]) := hD
  have hP9 := hP
  have hD9 := hD
  subst hAe
  refine W.widen (k := 0) (n := 0) (by omega) (by omega) ?_
  exact W.vret hx hb hr (fun t ht hW => ⟨rfl, ⟨(), trivial, by rw [ht]; exact hP9, va_K.moved hW.alike hK, hD9⟩, hS.F ht⟩) hS.2.2 dX0_init_29
set_option maxHeartbeats 4000000 in
set_option maxRecDepth 100000 in
theorem c_X1_init (l : Launch) (D : va_G) (cy : Nat → Nat) (h sz : Nat) (r : Int) (h0 : 0 ≤ r ∧ r ≤ 60) : Met l yX1_init wsX1_init ({ frames := 1, cells := 1, slots := 60, locals := 40 }) (ct_P D cy [.ref (h), .int (zz_i (r))] [(h, .inr (1, [.null, .int (zz_i 0)]))] sz) (ct_Q D cy [(h, .inr (1, [.null, .int (zz_i 0)]))] sz none (fun u : Nat => True) (fun u => [(h, .inr (1, [.ref u, .int (zz_i 0)])), (u, .inl (cy 2, r.toNat, .inr (.inr (.inr (.inr (fun _ => none))))))])) 1 60 (va_A [(h, .inr (1, [.null, .int (zz_i 0)]))] sz) := by
  refine Met.ofW (cc := cX1_init) (maxL := 2) (ret := none) (by decide) rfl ?_
  intro p e s m args below meth c s₁ B hml hv
  obtain ⟨rfl, rfl, hP, hK, hD0, hE⟩ := hv
  have hx := B.exec
  have hb := B.bytes
  have hr := B.returns
  have hts := atoms_spec (ws := wsX1_init) B.pre
  have hown : s.vm.findClass RX1 = some m.cls := findClass_of_methodNamed B.named
  have hin : meth.name = "<init>" := (name_of_methodNamed B.named B.method).1
  have hD := hD0.self (sz := s.heap.size)
  obtain ⟨A, hAe⟩ : ∃ A, A = va_A ([(h, .inr (1, [.null, .int (zz_i 0)]))]) s.heap.size := ⟨_, rfl⟩
  rw [← hAe] at hD hE
  have hA : ∀ q : Nat, s.heap.size ≤ q → A q := fun q h => by rw [hAe]; exact Or.inr h
  have hS : va_S A s.heap s.heap [] := va_S.rf
  have hP : va_P D zz_cl ([(h, .inr (1, [.null, .int (zz_i 0)]))]) s.heap := hP
  have hl := lv_entry ([.ref (h), .int (zz_i (r))]) (n := 2) (Nat.le_of_ble_eq_true rfl)
  rw [lg_entry_eq]
  generalize (lg_sl ([.ref (h), .int (zz_i (r))]) ++ List.replicate (2 - (lg_sl ([.ref (h), .int (zz_i (r))])).length) Slot.unset).toArray = ls at hl ⊢
  have hl : lv_has ls 2 [(0, .ref (h)), (1, .int (zz_i (r)))] := hl
  have hiX1 : ∀ w ∈ wsX10, w ∈ wsX1_init := by decide +kernel
  have hf15 := hts (.fieldLink RX1 15 "SorterSteps$ItemRow" "places" "[LSorterSteps$Item;") (by decide +kernel)
  refine lv_aload_n hx hb dX1_init_0 rfl (lv_at hl 0 rfl) ?_
  refine W.objInit hx hb hown (hts (.methodLink RX1 1 objectInit) (by decide +kernel)) (hts (.instanceMethod objectInit) (by decide +kernel)) (hts (.code objectInit ⟨#[0xb1]⟩ 1 none) (by decide +kernel)) rfl (by rw [hml]; exact hl.1) rfl dX1_init_1 (Nat.le_of_ble_eq_true rfl) (Nat.le_of_ble_eq_true rfl) ?_
  refine W.eq (g2 := F0 m 4 ls []) rfl ?_
  refine lv_aload_n hx hb dX1_init_4 rfl (lv_at hl 0 rfl) ?_
  refine lv_iload_n hx hb dX1_init_5 rfl (lv_at hl 1 rfl) ?_
  refine lv_iconst (v := zz_i (0)) hx hb dX1_init_6 rfl ?_
  refine zz_mmax hx hb (hml.trans hl.1.symm) hown (hts (.methodLink RX1 7 Lib.Math.max.name) (by decide +kernel)) (hts (.static Lib.Math.max.name) (by decide +kernel)) (hts (.initialized "java/lang/Math") (by decide +kernel)) (hts (.code Lib.Math.max.name Lib.Math.max.code 2 (some .int)) (by decide +kernel)) (Nat.le_of_ble_eq_true rfl) (Nat.le_of_ble_eq_true rfl) (Nat.le_of_ble_eq_true rfl) (Nat.le_of_ble_eq_true rfl) (by omega) (by omega) dX1_init_7 ?_
  refine W.eq (g2 := F0 m 10 ls [.int (zz_i (r)), .ref (h)]) rfl ?_
  refine va_newq (n := zz_i (r)) (N' := (r).toNat) hx hb hown (hts (.classLink RX1 13 RX0) (by decide +kernel)) hE.2.2.2.2.2.2 hK hP hD hS hA (fun h9 => by have := (zz_lt (by omega) (by omega)).mp (show zz_i (r) < zz_i 0 from h9); omega) (zz_nat (by omega)) (by omega) (Nat.le_of_ble_eq_true rfl) (show 0 + (r).toNat ≤ 60 by omega) dX1_init_10 (fun q1 cA H hK5 hP hD hS => ?_)
  obtain rfl := ka_o hK5
  have hP : va_P D zz_cl ([(h, .inr (1, [.null, .int (zz_i 0)])), (q1, .inl (cy 2, (r).toNat, .inr (.inr (.inr (.inr (fun _ => none))))))]) H := hP
  have hD : va_D A ([(h, .inr (1, [.null, .int (zz_i 0)])), (q1, .inl (cy 2, (r).toNat, .inr (.inr (.inr (.inr (fun _ => none))))))]) := hD
  refine W.widen (k := 1) (n := 60) (by omega) (by omega) ?_
  refine W.eq (g2 := F0 m 13 ls [.ref (q1), .ref (h)]) rfl ?_
  refine va_putF (D := D) (ci := 1) (v := .ref (q1)) (ty := .array (.object "SorterSteps$Item")) (C := RX1) (T := TX1) (N := 2) hx hb hts hiX1 tyX1 tyX1_ok nmX1 hown hK hP hD hS 0 rfl rfl 0 (by decide) hf15 (fun _ h9 => h9) rfl hin rfl (by decide +kernel) rfl rfl (Nat.le_of_ble_eq_true rfl) dX1_init_13 (fun H locs hP hD hS => ?_)
  have hP : va_P D zz_cl ([(h, .inr (1, [.ref (q1), .int (zz_i 0)])), (q1, .inl (cy 2, (r).toNat, .inr (.inr (.inr (.inr (fun _ => none))))))]) H := hP
  have hD : va_D A ([(h, .inr (1, [.ref (q1), .int (zz_i 0)])), (q1, .inl (cy 2, (r).toNat, .inr (.inr (.inr (.inr (fun _ => none))))))]) := hD
  have hP9 := hP
  have hD9 := hD
  subst hAe
  refine W.widen (k := 1) (n := 60) (by omega) (by omega) ?_
  exact W.vret hx hb hr (fun t ht hW => ⟨rfl, ⟨q1, trivial, by rw [ht]; exact hP9, va_K.moved hW.alike hK, hD9⟩, hS.F ht⟩) hS.2.2 dX1_init_16
set_option maxHeartbeats 4000000 in
set_option maxRecDepth 100000 in
theorem c_X2_init (l : Launch) (D : va_G) (cy : Nat → Nat) (h sz : Nat) (ad : Int → Nat) (t r : Int) (h1 : -2147483648 ≤ t ∧ t < 2147483648) (h2 : -2147483648 ≤ r ∧ r < 2147483648) : Met l yX2_init wsX2_init ({ frames := 2, cells := 8, slots := 233, locals := 80 }) (ct_P D cy [.ref (h), .int (zz_i (t)), .int (zz_i (r))] [(h, .inr (2, [.null, .null, .null, .null, .null, .int (zz_i 0), .int (zz_i 0), .int (zz_i 0), .int (zz_i 0), .int (zz_i 0)]))] sz) (ct_Q D cy [(h, .inr (2, [.null, .null, .null, .null, .null, .int (zz_i 0), .int (zz_i 0), .int (zz_i 0), .int (zz_i 0), .int (zz_i 0)]))] sz none (fun u : Nat → Nat => u 0 = h) (fun u => cw_ cy u ad (s_0 t r))) 8 233 (va_A [(h, .inr (2, [.null, .null, .null, .null, .null, .int (zz_i 0), .int (zz_i 0), .int (zz_i 0), .int (zz_i 0), .int (zz_i 0)]))] sz) := by
  refine Met.ofW (cc := cX2_init) (maxL := 5) (ret := none) (by decide) rfl ?_
  intro p e s m args below meth c s₁ B hml hv
  obtain ⟨rfl, rfl, hP, hK, hD0, hE⟩ := hv
  have hx := B.exec
  have hb := B.bytes
  have hr := B.returns
  have hts := atoms_spec (ws := wsX2_init) B.pre
  have hown : s.vm.findClass RX2 = some m.cls := findClass_of_methodNamed B.named
  have hin : meth.name = "<init>" := (name_of_methodNamed B.named B.method).1
  have hD := hD0.self (sz := s.heap.size)
  obtain ⟨A, hAe⟩ : ∃ A, A = va_A ([(h, .inr (2, [.null, .null, .null, .null, .null, .int (zz_i 0), .int (zz_i 0), .int (zz_i 0), .int (zz_i 0), .int (zz_i 0)]))]) s.heap.size := ⟨_, rfl⟩
  rw [← hAe] at hD hE
  have hA : ∀ q : Nat, s.heap.size ≤ q → A q := fun q h => by rw [hAe]; exact Or.inr h
  have hS : va_S A s.heap s.heap [] := va_S.rf
  have hP : va_P D zz_cl ([(h, .inr (2, [.null, .null, .null, .null, .null, .int (zz_i 0), .int (zz_i 0), .int (zz_i 0), .int (zz_i 0), .int (zz_i 0)]))]) s.heap := hP
  have hl := lv_entry ([.ref (h), .int (zz_i (t)), .int (zz_i (r))]) (n := 5) (Nat.le_of_ble_eq_true rfl)
  rw [lg_entry_eq]
  generalize (lg_sl ([.ref (h), .int (zz_i (t)), .int (zz_i (r))]) ++ List.replicate (5 - (lg_sl ([.ref (h), .int (zz_i (t)), .int (zz_i (r))])).length) Slot.unset).toArray = ls at hl ⊢
  have hl : lv_has ls 5 [(0, .ref (h)), (1, .int (zz_i (t))), (2, .int (zz_i (r)))] := hl
  have ht2 := cl_t t
  have hr2 := cl_r r
  have hc2 := ch_b ht2
  have hm1 : (if t < 2 then 2 else t) = t ∨ (if t < 2 then 2 else t) = 2 := by split <;> omega
  have hm2 : (if r < 0 then 0 else r) = r ∨ (if r < 0 then 0 else r) = 0 := by split <;> omega
  have hiX1 : ∀ w ∈ wsX10, w ∈ wsX2_init := by decide +kernel
  have hiX2 : ∀ w ∈ wsX20, w ∈ wsX2_init := by decide +kernel
  have hf14 := hts (.fieldLink RX2 14 "SorterSteps" "items" "LSorterSteps$ItemRow;") (by decide +kernel)
  have hf18 := hts (.fieldLink RX2 18 "SorterSteps" "left" "LSorterSteps$ItemRow;") (by decide +kernel)
  have hf21 := hts (.fieldLink RX2 21 "SorterSteps" "doubted" "LSorterSteps$ItemRow;") (by decide +kernel)
  have hf24 := hts (.fieldLink RX2 24 "SorterSteps" "trayLength" "I") (by decide +kernel)
  have hf39 := hts (.fieldLink RX2 39 "SorterSteps" "onTrays" "[LSorterSteps$Item;") (by decide +kernel)
  have hf43 := hts (.fieldLink RX2 43 "SorterSteps" "fullChutes" "[Z") (by decide +kernel)
  have hf47 := hts (.fieldLink RX2 47 "SorterSteps" "allowedRounds" "I") (by decide +kernel)
  refine lv_aload_n hx hb dX2_init_0 rfl (lv_at hl 0 rfl) ?_
  refine W.objInit hx hb hown (hts (.methodLink RX2 1 objectInit) (by decide +kernel)) (hts (.instanceMethod objectInit) (by decide +kernel)) (hts (.code objectInit ⟨#[0xb1]⟩ 1 none) (by decide +kernel)) rfl (by rw [hml]; exact hl.1) rfl dX2_init_1 (Nat.le_of_ble_eq_true rfl) (Nat.le_of_ble_eq_true rfl) ?_
  refine W.eq (g2 := F0 m 4 ls []) rfl ?_
  refine lv_aload_n hx hb dX2_init_4 rfl (lv_at hl 0 rfl) ?_
  refine va_new (ci := 1) (fs := [.null, .int (zz_i 0)]) (C := RX1) (T := TX1) (N := 2) hx hb hts hiX1 tyX1 tyX1_ok hown (hts (.classLink RX2 7 RX1) (by decide +kernel)) (hts (.instantiable RX1 2) (by decide +kernel)) (hts (.initialized RX1) (by decide +kernel)) hK hP hD hS hA rfl (fun j hj => by rcases (show j = 0 ∨ j = 1 by omega) with rfl | rfl <;> rfl) (Nat.le_of_ble_eq_true rfl) (Nat.le_of_ble_eq_true rfl) dX2_init_5 (fun q1 H hP hD hS => ?_)
  have hP : va_P D zz_cl ([(h, .inr (2, [.null, .null, .null, .null, .null, .int (zz_i 0), .int (zz_i 0), .int (zz_i 0), .int (zz_i 0), .int (zz_i 0)])), (q1, .inr (1, [.null, .int (zz_i 0)]))]) H := hP
  have hD : va_D A ([(h, .inr (2, [.null, .null, .null, .null, .null, .int (zz_i 0), .int (zz_i 0), .int (zz_i 0), .int (zz_i 0), .int (zz_i 0)])), (q1, .inr (1, [.null, .int (zz_i 0)]))]) := hD
  refine W.eq (g2 := F0 m 8 ls [.ref (q1), .ref (h)]) rfl ?_
  refine lv_dup hx hb dX2_init_8 rfl ?_
  refine lv_bipush (v := zz_i (60)) hx hb dX2_init_9 (by decide) ?_
  have hP := fr_Pc (a := [(h, .inr (2, [.null, .null, .null, .null, .null, .int (zz_i 0), .int (zz_i 0), .int (zz_i 0), .int (zz_i 0), .int (zz_i 0)]))]) (b := [(q1, .inr (1, [.null, .int (zz_i 0)]))]) hP
  have hD := fr_Dc (a := [(h, .inr (2, [.null, .null, .null, .null, .null, .int (zz_i 0), .int (zz_i 0), .int (zz_i 0), .int (zz_i 0), .int (zz_i 0)]))]) (b := [(q1, .inr (1, [.null, .int (zz_i 0)]))]) hD
  refine zf_i (As := [.int (zz_i (60))]) (rest := [.ref (q1), .ref (h)]) (S := Nat) (wr := [(h, .inr (2, [.null, .null, .null, .null, .null, .int (zz_i 0), .int (zz_i 0), .int (zz_i 0), .int (zz_i 0), .int (zz_i 0)]))]) (pc := 11) ⟨hx, hb, hml, hown, hts⟩ (c_X1_init l D cy (q1) _ (60) (by omega)) (cwI 1 hts gX2_init_X1_init rfl rfl rfl (hts (.initialized RX1) (by decide +kernel)) (hts (.methodLink RX2 11 yX1_init) (by decide +kernel)) (hts (.instanceMethod yX1_init) (by decide +kernel)) rfl (by decide +kernel) ⟨(Nat.le_of_ble_eq_true rfl), (Nat.le_of_ble_eq_true rfl)⟩) hK hP hD hS hA hE rfl hl.1 rfl (Nat.le_of_ble_eq_true rfl) dX2_init_11 ⟨(Nat.le_of_ble_eq_true rfl), (Nat.le_of_ble_eq_true rfl)⟩ (fun u2 H locs _ hP hD hS => ?_)
  refine W.eq (g2 := F0 m 14 ls [.ref (q1), .ref (h)]) rfl ?_
  have hP : va_P D zz_cl ([(q1, .inr (1, [.ref (u2), .int (zz_i 0)])), (u2, .inl (cy 2, 60, .inr (.inr (.inr (.inr (fun _ => none)))))), (h, .inr (2, [.null, .null, .null, .null, .null, .int (zz_i 0), .int (zz_i 0), .int (zz_i 0), .int (zz_i 0), .int (zz_i 0)]))]) H := hP
  have hD : va_D A ([(q1, .inr (1, [.ref (u2), .int (zz_i 0)])), (u2, .inl (cy 2, 60, .inr (.inr (.inr (.inr (fun _ => none)))))), (h, .inr (2, [.null, .null, .null, .null, .null, .int (zz_i 0), .int (zz_i 0), .int (zz_i 0), .int (zz_i 0), .int (zz_i 0)]))]) := hD
  refine va_putF (D := D) (ci := 2) (v := .ref (q1)) (ty := .object "SorterSteps$ItemRow") (C := RX2) (T := TX2) (N := 10) hx hb hts hiX2 tyX2 tyX2_ok nmX2 hown hK hP hD hS 2 rfl rfl 2 (by decide) hf14 (fun _ h9 => h9) rfl hin rfl (by decide +kernel) rfl rfl (Nat.le_of_ble_eq_true rfl) dX2_init_14 (fun H locs hP hD hS => ?_)
  have hP : va_P D zz_cl ([(q1, .inr (1, [.ref (u2), .int (zz_i 0)])), (u2, .inl (cy 2, 60, .inr (.inr (.inr (.inr (fun _ => none)))))), (h, .inr (2, [.null, .null, .ref (q1), .null, .null, .int (zz_i 0), .int (zz_i 0), .int (zz_i 0), .int (zz_i 0), .int (zz_i 0)]))]) H := hP
  have hD : va_D A ([(q1, .inr (1, [.ref (u2), .int (zz_i 0)])), (u2, .inl (cy 2, 60, .inr (.inr (.inr (.inr (fun _ => none)))))), (h, .inr (2, [.null, .null, .ref (q1), .null, .null, .int (zz_i 0), .int (zz_i 0), .int (zz_i 0), .int (zz_i 0), .int (zz_i 0)]))]) := hD
  refine lv_aload_n hx hb dX2_init_17 rfl (lv_at hl 0 rfl) ?_
  refine va_new (ci := 1) (fs := [.null, .int (zz_i 0)]) (C := RX1) (T := TX1) (N := 2) hx hb hts hiX1 tyX1 tyX1_ok hown (hts (.classLink RX2 7 RX1) (by decide +kernel)) (hts (.instantiable RX1 2) (by decide +kernel)) (hts (.initialized RX1) (by decide +kernel)) hK hP hD hS hA rfl (fun j hj => by rcases (show j = 0 ∨ j = 1 by omega) with rfl | rfl <;> rfl) (Nat.le_of_ble_eq_true rfl) (Nat.le_of_ble_eq_true rfl) dX2_init_18 (fun q3 H hP hD hS => ?_)
  have hP : va_P D zz_cl ([(q1, .inr (1, [.ref (u2), .int (zz_i 0)])), (u2, .inl (cy 2, 60, .inr (.inr (.inr (.inr (fun _ => none)))))), (h, .inr (2, [.null, .null, .ref (q1), .null, .null, .int (zz_i 0), .int (zz_i 0), .int (zz_i 0), .int (zz_i 0), .int (zz_i 0)])), (q3, .inr (1, [.null, .int (zz_i 0)]))]) H := hP
  have hD : va_D A ([(q1, .inr (1, [.ref (u2), .int (zz_i 0)])), (u2, .inl (cy 2, 60, .inr (.inr (.inr (.inr (fun _ => none)))))), (h, .inr (2, [.null, .null, .ref (q1), .null, .null, .int (zz_i 0), .int (zz_i 0), .int (zz_i 0), .int (zz_i 0), .int (zz_i 0)])), (q3, .inr (1, [.null, .int (zz_i 0)]))]) := hD
  refine W.eq (g2 := F0 m 21 ls [.ref (q3), .ref (h)]) rfl ?_
  refine lv_dup hx hb dX2_init_21 rfl ?_
  refine lv_bipush (v := zz_i (60)) hx hb dX2_init_22 (by decide) ?_
  have hP := fr_Pc (a := [(q1, .inr (1, [.ref (u2), .int (zz_i 0)])), (u2, .inl (cy 2, 60, .inr (.inr (.inr (.inr (fun _ => none)))))), (h, .inr (2, [.null, .null, .ref (q1), .null, .null, .int (zz_i 0), .int (zz_i 0), .int (zz_i 0), .int (zz_i 0), .int (zz_i 0)]))]) (b := [(q3, .inr (1, [.null, .int (zz_i 0)]))]) hP
  have hD := fr_Dc (a := [(q1, .inr (1, [.ref (u2), .int (zz_i 0)])), (u2, .inl (cy 2, 60, .inr (.inr (.inr (.inr (fun _ => none)))))), (h, .inr (2, [.null, .null, .ref (q1), .null, .null, .int (zz_i 0), .int (zz_i 0), .int (zz_i 0), .int (zz_i 0), .int (zz_i 0)]))]) (b := [(q3, .inr (1, [.null, .int (zz_i 0)]))]) hD
  refine zf_i (As := [.int (zz_i (60))]) (rest := [.ref (q3), .ref (h)]) (S := Nat) (wr := [(q1, .inr (1, [.ref (u2), .int (zz_i 0)])), (u2, .inl (cy 2, 60, .inr (.inr (.inr (.inr (fun _ => none)))))), (h, .inr (2, [.null, .null, .ref (q1), .null, .null, .int (zz_i 0), .int (zz_i 0), .int (zz_i 0), .int (zz_i 0), .int (zz_i 0)]))]) (pc := 24) ⟨hx, hb, hml, hown, hts⟩ (c_X1_init l D cy (q3) _ (60) (by omega)) (cwI 1 hts gX2_init_X1_init rfl rfl rfl (hts (.initialized RX1) (by decide +kernel)) (hts (.methodLink RX2 11 yX1_init) (by decide +kernel)) (hts (.instanceMethod yX1_init) (by decide +kernel)) rfl (by decide +kernel) ⟨(Nat.le_of_ble_eq_true rfl), (Nat.le_of_ble_eq_true rfl)⟩) hK hP hD hS hA hE rfl hl.1 rfl (Nat.le_of_ble_eq_true rfl) dX2_init_24 ⟨(Nat.le_of_ble_eq_true rfl), (Nat.le_of_ble_eq_true rfl)⟩ (fun u4 H locs _ hP hD hS => ?_)
  refine W.eq (g2 := F0 m 27 ls [.ref (q3), .ref (h)]) rfl ?_
  have hP : va_P D zz_cl ([(q3, .inr (1, [.ref (u4), .int (zz_i 0)])), (u4, .inl (cy 2, 60, .inr (.inr (.inr (.inr (fun _ => none)))))), (q1, .inr (1, [.ref (u2), .int (zz_i 0)])), (u2, .inl (cy 2, 60, .inr (.inr (.inr (.inr (fun _ => none)))))), (h, .inr (2, [.null, .null, .ref (q1), .null, .null, .int (zz_i 0), .int (zz_i 0), .int (zz_i 0), .int (zz_i 0), .int (zz_i 0)]))]) H := hP
  have hD : va_D A ([(q3, .inr (1, [.ref (u4), .int (zz_i 0)])), (u4, .inl (cy 2, 60, .inr (.inr (.inr (.inr (fun _ => none)))))), (q1, .inr (1, [.ref (u2), .int (zz_i 0)])), (u2, .inl (cy 2, 60, .inr (.inr (.inr (.inr (fun _ => none)))))), (h, .inr (2, [.null, .null, .ref (q1), .null, .null, .int (zz_i 0), .int (zz_i 0), .int (zz_i 0), .int (zz_i 0), .int (zz_i 0)]))]) := hD
  refine va_putF (D := D) (ci := 2) (v := .ref (q3)) (ty := .object "SorterSteps$ItemRow") (C := RX2) (T := TX2) (N := 10) hx hb hts hiX2 tyX2 tyX2_ok nmX2 hown hK hP hD hS 4 rfl rfl 3 (by decide) hf18 (fun _ h9 => h9) rfl hin rfl (by decide +kernel) rfl rfl (Nat.le_of_ble_eq_true rfl) dX2_init_27 (fun H locs hP hD hS => ?_)
  have hP : va_P D zz_cl ([(q3, .inr (1, [.ref (u4), .int (zz_i 0)])), (u4, .inl (cy 2, 60, .inr (.inr (.inr (.inr (fun _ => none)))))), (q1, .inr (1, [.ref (u2), .int (zz_i 0)])), (u2, .inl (cy 2, 60, .inr (.inr (.inr (.inr (fun _ => none)))))), (h, .inr (2, [.null, .null, .ref (q1), .ref (q3), .null, .int (zz_i 0), .int (zz_i 0), .int (zz_i 0), .int (zz_i 0), .int (zz_i 0)]))]) H := hP
  have hD : va_D A ([(q3, .inr (1, [.ref (u4), .int (zz_i 0)])), (u4, .inl (cy 2, 60, .inr (.inr (.inr (.inr (fun _ => none)))))), (q1, .inr (1, [.ref (u2), .int (zz_i 0)])), (u2, .inl (cy 2, 60, .inr (.inr (.inr (.inr (fun _ => none)))))), (h, .inr (2, [.null, .null, .ref (q1), .ref (q3), .null, .int (zz_i 0), .int (zz_i 0), .int (zz_i 0), .int (zz_i 0), .int (zz_i 0)]))]) := hD
  refine lv_aload_n hx hb dX2_init_30 rfl (lv_at hl 0 rfl) ?_
  refine va_new (ci := 1) (fs := [.null, .int (zz_i 0)]) (C := RX1) (T := TX1) (N := 2) hx hb hts hiX1 tyX1 tyX1_ok hown (hts (.classLink RX2 7 RX1) (by decide +kernel)) (hts (.instantiable RX1 2) (by decide +kernel)) (hts (.initialized RX1) (by decide +kernel)) hK hP hD hS hA rfl (fun j hj => by rcases (show j = 0 ∨ j = 1 by omega) with rfl | rfl <;> rfl) (Nat.le_of_ble_eq_true rfl) (Nat.le_of_ble_eq_true rfl) dX2_init_31 (fun q5 H hP hD hS => ?_)
  have hP : va_P D zz_cl ([(q3, .inr (1, [.ref (u4), .int (zz_i 0)])), (u4, .inl (cy 2, 60, .inr (.inr (.inr (.inr (fun _ => none)))))), (q1, .inr (1, [.ref (u2), .int (zz_i 0)])), (u2, .inl (cy 2, 60, .inr (.inr (.inr (.inr (fun _ => none)))))), (h, .inr (2, [.null, .null, .ref (q1), .ref (q3), .null, .int (zz_i 0), .int (zz_i 0), .int (zz_i 0), .int (zz_i 0), .int (zz_i 0)])), (q5, .inr (1, [.null, .int (zz_i 0)]))]) H := hP
  have hD : va_D A ([(q3, .inr (1, [.ref (u4), .int (zz_i 0)])), (u4, .inl (cy 2, 60, .inr (.inr (.inr (.inr (fun _ => none)))))), (q1, .inr (1, [.ref (u2), .int (zz_i 0)])), (u2, .inl (cy 2, 60, .inr (.inr (.inr (.inr (fun _ => none)))))), (h, .inr (2, [.null, .null, .ref (q1), .ref (q3), .null, .int (zz_i 0), .int (zz_i 0), .int (zz_i 0), .int (zz_i 0), .int (zz_i 0)])), (q5, .inr (1, [.null, .int (zz_i 0)]))]) := hD
  refine W.eq (g2 := F0 m 34 ls [.ref (q5), .ref (h)]) rfl ?_
  refine lv_dup hx hb dX2_init_34 rfl ?_
  refine lv_bipush (v := zz_i (40)) hx hb dX2_init_35 (by decide) ?_
  have hP := fr_Pc (a := [(q3, .inr (1, [.ref (u4), .int (zz_i 0)])), (u4, .inl (cy 2, 60, .inr (.inr (.inr (.inr (fun _ => none)))))), (q1, .inr (1, [.ref (u2), .int (zz_i 0)])), (u2, .inl (cy 2, 60, .inr (.inr (.inr (.inr (fun _ => none)))))), (h, .inr (2, [.null, .null, .ref (q1), .ref (q3), .null, .int (zz_i 0), .int (zz_i 0), .int (zz_i 0), .int (zz_i 0), .int (zz_i 0)]))]) (b := [(q5, .inr (1, [.null, .int (zz_i 0)]))]) hP
  have hD := fr_Dc (a := [(q3, .inr (1, [.ref (u4), .int (zz_i 0)])), (u4, .inl (cy 2, 60, .inr (.inr (.inr (.inr (fun _ => none)))))), (q1, .inr (1, [.ref (u2), .int (zz_i 0)])), (u2, .inl (cy 2, 60, .inr (.inr (.inr (.inr (fun _ => none)))))), (h, .inr (2, [.null, .null, .ref (q1), .ref (q3), .null, .int (zz_i 0), .int (zz_i 0), .int (zz_i 0), .int (zz_i 0), .int (zz_i 0)]))]) (b := [(q5, .inr (1, [.null, .int (zz_i 0)]))]) hD
  refine zf_i (As := [.int (zz_i (40))]) (rest := [.ref (q5), .ref (h)]) (S := Nat) (wr := [(q3, .inr (1, [.ref (u4), .int (zz_i 0)])), (u4, .inl (cy 2, 60, .inr (.inr (.inr (.inr (fun _ => none)))))), (q1, .inr (1, [.ref (u2), .int (zz_i 0)])), (u2, .inl (cy 2, 60, .inr (.inr (.inr (.inr (fun _ => none)))))), (h, .inr (2, [.null, .null, .ref (q1), .ref (q3), .null, .int (zz_i 0), .int (zz_i 0), .int (zz_i 0), .int (zz_i 0), .int (zz_i 0)]))]) (pc := 37) ⟨hx, hb, hml, hown, hts⟩ (c_X1_init l D cy (q5) _ (40) (by omega)) (cwI 1 hts gX2_init_X1_init rfl rfl rfl (hts (.initialized RX1) (by decide +kernel)) (hts (.methodLink RX2 11 yX1_init) (by decide +kernel)) (hts (.instanceMethod yX1_init) (by decide +kernel)) rfl (by decide +kernel) ⟨(Nat.le_of_ble_eq_true rfl), (Nat.le_of_ble_eq_true rfl)⟩) hK hP hD hS hA hE rfl hl.1 rfl (Nat.le_of_ble_eq_true rfl) dX2_init_37 ⟨(Nat.le_of_ble_eq_true rfl), (Nat.le_of_ble_eq_true rfl)⟩ (fun u6 H locs _ hP hD hS => ?_)
  refine W.eq (g2 := F0 m 40 ls [.ref (q5), .ref (h)]) rfl ?_
  have hP : va_P D zz_cl ([(q5, .inr (1, [.ref (u6), .int (zz_i 0)])), (u6, .inl (cy 2, 40, .inr (.inr (.inr (.inr (fun _ => none)))))), (q3, .inr (1, [.ref (u4), .int (zz_i 0)])), (u4, .inl (cy 2, 60, .inr (.inr (.inr (.inr (fun _ => none)))))), (q1, .inr (1, [.ref (u2), .int (zz_i 0)])), (u2, .inl (cy 2, 60, .inr (.inr (.inr (.inr (fun _ => none)))))), (h, .inr (2, [.null, .null, .ref (q1), .ref (q3), .null, .int (zz_i 0), .int (zz_i 0), .int (zz_i 0), .int (zz_i 0), .int (zz_i 0)]))]) H := hP
  have hD : va_D A ([(q5, .inr (1, [.ref (u6), .int (zz_i 0)])), (u6, .inl (cy 2, 40, .inr (.inr (.inr (.inr (fun _ => none)))))), (q3, .inr (1, [.ref (u4), .int (zz_i 0)])), (u4, .inl (cy 2, 60, .inr (.inr (.inr (.inr (fun _ => none)))))), (q1, .inr (1, [.ref (u2), .int (zz_i 0)])), (u2, .inl (cy 2, 60, .inr (.inr (.inr (.inr (fun _ => none)))))), (h, .inr (2, [.null, .null, .ref (q1), .ref (q3), .null, .int (zz_i 0), .int (zz_i 0), .int (zz_i 0), .int (zz_i 0), .int (zz_i 0)]))]) := hD
  refine va_putF (D := D) (ci := 2) (v := .ref (q5)) (ty := .object "SorterSteps$ItemRow") (C := RX2) (T := TX2) (N := 10) hx hb hts hiX2 tyX2 tyX2_ok nmX2 hown hK hP hD hS 6 rfl rfl 4 (by decide) hf21 (fun _ h9 => h9) rfl hin rfl (by decide +kernel) rfl rfl (Nat.le_of_ble_eq_true rfl) dX2_init_40 (fun H locs hP hD hS => ?_)
  have hP : va_P D zz_cl ([(q5, .inr (1, [.ref (u6), .int (zz_i 0)])), (u6, .inl (cy 2, 40, .inr (.inr (.inr (.inr (fun _ => none)))))), (q3, .inr (1, [.ref (u4), .int (zz_i 0)])), (u4, .inl (cy 2, 60, .inr (.inr (.inr (.inr (fun _ => none)))))), (q1, .inr (1, [.ref (u2), .int (zz_i 0)])), (u2, .inl (cy 2, 60, .inr (.inr (.inr (.inr (fun _ => none)))))), (h, .inr (2, [.null, .null, .ref (q1), .ref (q3), .ref (q5), .int (zz_i 0), .int (zz_i 0), .int (zz_i 0), .int (zz_i 0), .int (zz_i 0)]))]) H := hP
  have hD : va_D A ([(q5, .inr (1, [.ref (u6), .int (zz_i 0)])), (u6, .inl (cy 2, 40, .inr (.inr (.inr (.inr (fun _ => none)))))), (q3, .inr (1, [.ref (u4), .int (zz_i 0)])), (u4, .inl (cy 2, 60, .inr (.inr (.inr (.inr (fun _ => none)))))), (q1, .inr (1, [.ref (u2), .int (zz_i 0)])), (u2, .inl (cy 2, 60, .inr (.inr (.inr (.inr (fun _ => none)))))), (h, .inr (2, [.null, .null, .ref (q1), .ref (q3), .ref (q5), .int (zz_i 0), .int (zz_i 0), .int (zz_i 0), .int (zz_i 0), .int (zz_i 0)]))]) := hD
  refine lv_aload_n hx hb dX2_init_43 rfl (lv_at hl 0 rfl) ?_
  refine lv_bipush (v := zz_i (60)) hx hb dX2_init_44 (by decide) ?_
  refine va_put (D := D) (ci := 2) (v := .int (zz_i (60))) (ty := .int) (C := RX2) (T := TX2) (N := 10) hx hb hts hiX2 tyX2 tyX2_ok nmX2 hown hK hP hD hS 6 rfl rfl 6 (by decide) hf24 (fun _ h9 => h9) rfl (by decide +kernel) rfl rfl (Nat.le_of_ble_eq_true rfl) dX2_init_46 (fun H locs hP hD hS => ?_)
  have hP : va_P D zz_cl ([(q5, .inr (1, [.ref (u6), .int (zz_i 0)])), (u6, .inl (cy 2, 40, .inr (.inr (.inr (.inr (fun _ => none)))))), (q3, .inr (1, [.ref (u4), .int (zz_i 0)])), (u4, .inl (cy 2, 60, .inr (.inr (.inr (.inr (fun _ => none)))))), (q1, .inr (1, [.ref (u2), .int (zz_i 0)])), (u2, .inl (cy 2, 60, .inr (.inr (.inr (.inr (fun _ => none)))))), (h, .inr (2, [.null, .null, .ref (q1), .ref (q3), .ref (q5), .int (zz_i 0), .int (zz_i (60)), .int (zz_i 0), .int (zz_i 0), .int (zz_i 0)]))]) H := hP
  have hD : va_D A ([(q5, .inr (1, [.ref (u6), .int (zz_i 0)])), (u6, .inl (cy 2, 40, .inr (.inr (.inr (.inr (fun _ => none)))))), (q3, .inr (1, [.ref (u4), .int (zz_i 0)])), (u4, .inl (cy 2, 60, .inr (.inr (.inr (.inr (fun _ => none)))))), (q1, .inr (1, [.ref (u2), .int (zz_i 0)])), (u2, .inl (cy 2, 60, .inr (.inr (.inr (.inr (fun _ => none)))))), (h, .inr (2, [.null, .null, .ref (q1), .ref (q3), .ref (q5), .int (zz_i 0), .int (zz_i (60)), .int (zz_i 0), .int (zz_i 0), .int (zz_i 0)]))]) := hD
  refine lv_iload_n hx hb dX2_init_49 rfl (lv_at hl 1 rfl) ?_
  refine lv_iconst (v := zz_i (2)) hx hb dX2_init_50 rfl ?_
  refine zz_mmax hx hb (hml.trans hl.1.symm) hown (hts (.methodLink RX2 28 Lib.Math.max.name) (by decide +kernel)) (hts (.static Lib.Math.max.name) (by decide +kernel)) (hts (.initialized "java/lang/Math") (by decide +kernel)) (hts (.code Lib.Math.max.name Lib.Math.max.code 2 (some .int)) (by decide +kernel)) (Nat.le_of_ble_eq_true rfl) (Nat.le_of_ble_eq_true rfl) (Nat.le_of_ble_eq_true rfl) (Nat.le_of_ble_eq_true rfl) (by omega) (by omega) dX2_init_51 ?_
  refine W.eq (g2 := F0 m 54 ls [.int (zz_i (if t < 2 then 2 else t))]) rfl ?_
  refine lv_bipush (v := zz_i (40)) hx hb dX2_init_54 (by decide) ?_
  refine zz_mmin hx hb (hml.trans hl.1.symm) hown (hts (.methodLink RX2 34 Lib.Math.min.name) (by decide +kernel)) (hts (.static Lib.Math.min.name) (by decide +kernel)) (hts (.initialized "java/lang/Math") (by decide +kernel)) (hts (.code Lib.Math.min.name Lib.Math.min.code 2 (some .int)) (by decide +kernel)) (Nat.le_of_ble_eq_true rfl) (Nat.le_of_ble_eq_true rfl) (Nat.le_of_ble_eq_true rfl) (Nat.le_of_ble_eq_true rfl) (by omega) (by omega) dX2_init_56 ?_
  refine W.eq (g2 := F0 m 59 ls [.int (zz_i (cl_ 2 40 t))]) rfl ?_
  refine lv_istore_n (lv' := [(3, .int (zz_i (cl_ 2 40 t))), (0, .ref (h)), (1, .int (zz_i (t))), (2, .int (zz_i (r)))]) hx hb dX2_init_59 rfl hl (by decide) rfl (fun ls hl => ?_)
  refine lv_iload_n hx hb dX2_init_60 rfl (lv_at hl 0 rfl) ?_
  refine lv_iconst (v := zz_i (1)) hx hb dX2_init_61 rfl ?_
  refine zz_isub hx hb dX2_init_62 ?_
  refine lv_iconst (v := zz_i (2)) hx hb dX2_init_63 rfl ?_
  refine zz_idiv hx hb dX2_init_64 (by omega) (by omega) ?_
  refine lv_bipush (v := zz_i (6)) hx hb dX2_init_65 (by decide) ?_
  refine zz_mmin hx hb (hml.trans hl.1.symm) hown (hts (.methodLink RX2 34 Lib.Math.min.name) (by decide +kernel)) (hts (.static Lib.Math.min.name) (by decide +kernel)) (hts (.initialized "java/lang/Math") (by decide +kernel)) (hts (.code Lib.Math.min.name Lib.Math.min.code 2 (some .int)) (by decide +kernel)) (Nat.le_of_ble_eq_true rfl) (Nat.le_of_ble_eq_true rfl) (Nat.le_of_ble_eq_true rfl) (Nat.le_of_ble_eq_true rfl) (by omega) (by omega) dX2_init_67 ?_
  refine W.eq (g2 := F0 m 70 ls [.int (zz_i (ch_ (cl_ 2 40 t)))]) rfl ?_
  refine lv_istore (lv' := [(4, .int (zz_i (ch_ (cl_ 2 40 t)))), (3, .int (zz_i (cl_ 2 40 t))), (0, .ref (h)), (1, .int (zz_i (t))), (2, .int (zz_i (r)))]) hx hb dX2_init_70 hl (by decide) rfl (fun ls hl => ?_)
  refine lv_aload_n hx hb dX2_init_72 rfl (lv_at hl 2 rfl) ?_
  refine lv_iload_n hx hb dX2_init_73 rfl (lv_at hl 1 rfl) ?_
  refine va_newq (n := zz_i (cl_ 2 40 t)) (N' := (cl_ 2 40 t).toNat) hx hb hown (hts (.classLink RX2 37 RX0) (by decide +kernel)) hE.2.2.2.2.2.2 hK hP hD hS hA (fun h9 => by have := (zz_lt (by omega) (by omega)).mp (show zz_i (cl_ 2 40 t) < zz_i 0 from h9); omega) (zz_nat (by omega)) (by omega) (Nat.le_of_ble_eq_true rfl) (show 186 + (cl_ 2 40 t).toNat ≤ 233 by omega) dX2_init_74 (fun q7 cA H hK5 hP hD hS => ?_)
  obtain rfl := ka_o hK5
  have hP : va_P D zz_cl ([(q5, .inr (1, [.ref (u6), .int (zz_i 0)])), (u6, .inl (cy 2, 40, .inr (.inr (.inr (.inr (fun _ => none)))))), (q3, .inr (1, [.ref (u4), .int (zz_i 0)])), (u4, .inl (cy 2, 60, .inr (.inr (.inr (.inr (fun _ => none)))))), (q1, .inr (1, [.ref (u2), .int (zz_i 0)])), (u2, .inl (cy 2, 60, .inr (.inr (.inr (.inr (fun _ => none)))))), (h, .inr (2, [.null, .null, .ref (q1), .ref (q3), .ref (q5), .int (zz_i 0), .int (zz_i (60)), .int (zz_i 0), .int (zz_i 0), .int (zz_i 0)])), (q7, .inl (cy 2, (cl_ 2 40 t).toNat, .inr (.inr (.inr (.inr (fun _ => none))))))]) H := hP
  have hD : va_D A ([(q5, .inr (1, [.ref (u6), .int (zz_i 0)])), (u6, .inl (cy 2, 40, .inr (.inr (.inr (.inr (fun _ => none)))))), (q3, .inr (1, [.ref (u4), .int (zz_i 0)])), (u4, .inl (cy 2, 60, .inr (.inr (.inr (.inr (fun _ => none)))))), (q1, .inr (1, [.ref (u2), .int (zz_i 0)])), (u2, .inl (cy 2, 60, .inr (.inr (.inr (.inr (fun _ => none)))))), (h, .inr (2, [.null, .null, .ref (q1), .ref (q3), .ref (q5), .int (zz_i 0), .int (zz_i (60)), .int (zz_i 0), .int (zz_i 0), .int (zz_i 0)])), (q7, .inl (cy 2, (cl_ 2 40 t).toNat, .inr (.inr (.inr (.inr (fun _ => none))))))]) := hD
  refine W.widen (k := 7) (n := 226) (by omega) (by omega) ?_
  refine W.eq (g2 := F0 m 77 ls [.ref (q7), .ref (h)]) rfl ?_
  refine va_putF (D := D) (ci := 2) (v := .ref (q7)) (ty := .array (.object "SorterSteps$Item")) (C := RX2) (T := TX2) (N := 10) hx hb hts hiX2 tyX2 tyX2_ok nmX2 hown hK hP hD hS 6 rfl rfl 0 (by decide) hf39 (fun _ h9 => h9) rfl hin rfl (by decide +kernel) rfl rfl (Nat.le_of_ble_eq_true rfl) dX2_init_77 (fun H locs hP hD hS => ?_)
  have hP : va_P D zz_cl ([(q5, .inr (1, [.ref (u6), .int (zz_i 0)])), (u6, .inl (cy 2, 40, .inr (.inr (.inr (.inr (fun _ => none)))))), (q3, .inr (1, [.ref (u4), .int (zz_i 0)])), (u4, .inl (cy 2, 60, .inr (.inr (.inr (.inr (fun _ => none)))))), (q1, .inr (1, [.ref (u2), .int (zz_i 0)])), (u2, .inl (cy 2, 60, .inr (.inr (.inr (.inr (fun _ => none)))))), (h, .inr (2, [.ref (q7), .null, .ref (q1), .ref (q3), .ref (q5), .int (zz_i 0), .int (zz_i (60)), .int (zz_i 0), .int (zz_i 0), .int (zz_i 0)])), (q7, .inl (cy 2, (cl_ 2 40 t).toNat, .inr (.inr (.inr (.inr (fun _ => none))))))]) H := hP
  have hD : va_D A ([(q5, .inr (1, [.ref (u6), .int (zz_i 0)])), (u6, .inl (cy 2, 40, .inr (.inr (.inr (.inr (fun _ => none)))))), (q3, .inr (1, [.ref (u4), .int (zz_i 0)])), (u4, .inl (cy 2, 60, .inr (.inr (.inr (.inr (fun _ => none)))))), (q1, .inr (1, [.ref (u2), .int (zz_i 0)])), (u2, .inl (cy 2, 60, .inr (.inr (.inr (.inr (fun _ => none)))))), (h, .inr (2, [.ref (q7), .null, .ref (q1), .ref (q3), .ref (q5), .int (zz_i 0), .int (zz_i (60)), .int (zz_i 0), .int (zz_i 0), .int (zz_i 0)])), (q7, .inl (cy 2, (cl_ 2 40 t).toNat, .inr (.inr (.inr (.inr (fun _ => none))))))]) := hD
  refine lv_aload_n hx hb dX2_init_80 rfl (lv_at hl 2 rfl) ?_
  refine lv_iload hx hb dX2_init_81 (lv_at hl 0 rfl) ?_
  refine lv_iconst (v := zz_i (1)) hx hb dX2_init_83 rfl ?_
  refine zz_iadd hx hb dX2_init_84 ?_
  refine va_newa (atype := .boolean) (N' := ((ch_ (cl_ 2 40 t)) + 1).toNat) (a0 := (((ch_ (cl_ 2 40 t)) + 1).toNat, .inl (fun _ => zz_i 0))) (ty := .boolean) (n := zz_i ((ch_ (cl_ 2 40 t)) + 1)) hx hb (hts (.arrayClass .boolean) (by decide +kernel)) rfl hK hP hD hS hA (fun _ => rfl) (fun h9 => by have := (zz_lt (by omega) (by omega)).mp (show zz_i ((ch_ (cl_ 2 40 t)) + 1) < zz_i 0 from h9); omega) (zz_nat (by omega)) (show ((ch_ (cl_ 2 40 t)) + 1).toNat * 1 ≤ 536870912 by omega) (Nat.le_of_ble_eq_true rfl) (show 226 + ((ch_ (cl_ 2 40 t)) + 1).toNat ≤ 233 by omega) dX2_init_85 (fun q8 cA H hK5 hP hD hS => ?_)
  obtain rfl := ka_z hK5
  have hP : va_P D zz_cl ([(q5, .inr (1, [.ref (u6), .int (zz_i 0)])), (u6, .inl (cy 2, 40, .inr (.inr (.inr (.inr (fun _ => none)))))), (q3, .inr (1, [.ref (u4), .int (zz_i 0)])), (u4, .inl (cy 2, 60, .inr (.inr (.inr (.inr (fun _ => none)))))), (q1, .inr (1, [.ref (u2), .int (zz_i 0)])), (u2, .inl (cy 2, 60, .inr (.inr (.inr (.inr (fun _ => none)))))), (h, .inr (2, [.ref (q7), .null, .ref (q1), .ref (q3), .ref (q5), .int (zz_i 0), .int (zz_i (60)), .int (zz_i 0), .int (zz_i 0), .int (zz_i 0)])), (q7, .inl (cy 2, (cl_ 2 40 t).toNat, .inr (.inr (.inr (.inr (fun _ => none)))))), (q8, .inl (cy 1, ((ch_ (cl_ 2 40 t)) + 1).toNat, .inl (fun _ => zz_i 0)))]) H := hP
  have hD : va_D A ([(q5, .inr (1, [.ref (u6), .int (zz_i 0)])), (u6, .inl (cy 2, 40, .inr (.inr (.inr (.inr (fun _ => none)))))), (q3, .inr (1, [.ref (u4), .int (zz_i 0)])), (u4, .inl (cy 2, 60, .inr (.inr (.inr (.inr (fun _ => none)))))), (q1, .inr (1, [.ref (u2), .int (zz_i 0)])), (u2, .inl (cy 2, 60, .inr (.inr (.inr (.inr (fun _ => none)))))), (h, .inr (2, [.ref (q7), .null, .ref (q1), .ref (q3), .ref (q5), .int (zz_i 0), .int (zz_i (60)), .int (zz_i 0), .int (zz_i 0), .int (zz_i 0)])), (q7, .inl (cy 2, (cl_ 2 40 t).toNat, .inr (.inr (.inr (.inr (fun _ => none)))))), (q8, .inl (cy 1, ((ch_ (cl_ 2 40 t)) + 1).toNat, .inl (fun _ => zz_i 0)))]) := hD
  refine W.widen (k := 8) (n := 233) (by omega) (by omega) ?_
  refine W.eq (g2 := F0 m 87 ls [.ref (q8), .ref (h)]) rfl ?_
  refine va_putF (D := D) (ci := 2) (v := .ref (q8)) (ty := .array (.boolean)) (C := RX2) (T := TX2) (N := 10) hx hb hts hiX2 tyX2 tyX2_ok nmX2 hown hK hP hD hS 6 rfl rfl 1 (by decide) hf43 (fun _ h9 => h9) rfl hin rfl (by decide +kernel) rfl rfl (Nat.le_of_ble_eq_true rfl) dX2_init_87 (fun H locs hP hD hS => ?_)
  have hP : va_P D zz_cl ([(q5, .inr (1, [.ref (u6), .int (zz_i 0)])), (u6, .inl (cy 2, 40, .inr (.inr (.inr (.inr (fun _ => none)))))), (q3, .inr (1, [.ref (u4), .int (zz_i 0)])), (u4, .inl (cy 2, 60, .inr (.inr (.inr (.inr (fun _ => none)))))), (q1, .inr (1, [.ref (u2), .int (zz_i 0)])), (u2, .inl (cy 2, 60, .inr (.inr (.inr (.inr (fun _ => none)))))), (h, .inr (2, [.ref (q7), .ref (q8), .ref (q1), .ref (q3), .ref (q5), .int (zz_i 0), .int (zz_i (60)), .int (zz_i 0), .int (zz_i 0), .int (zz_i 0)])), (q7, .inl (cy 2, (cl_ 2 40 t).toNat, .inr (.inr (.inr (.inr (fun _ => none)))))), (q8, .inl (cy 1, ((ch_ (cl_ 2 40 t)) + 1).toNat, .inl (fun _ => zz_i 0)))]) H := hP
  have hD : va_D A ([(q5, .inr (1, [.ref (u6), .int (zz_i 0)])), (u6, .inl (cy 2, 40, .inr (.inr (.inr (.inr (fun _ => none)))))), (q3, .inr (1, [.ref (u4), .int (zz_i 0)])), (u4, .inl (cy 2, 60, .inr (.inr (.inr (.inr (fun _ => none)))))), (q1, .inr (1, [.ref (u2), .int (zz_i 0)])), (u2, .inl (cy 2, 60, .inr (.inr (.inr (.inr (fun _ => none)))))), (h, .inr (2, [.ref (q7), .ref (q8), .ref (q1), .ref (q3), .ref (q5), .int (zz_i 0), .int (zz_i (60)), .int (zz_i 0), .int (zz_i 0), .int (zz_i 0)])), (q7, .inl (cy 2, (cl_ 2 40 t).toNat, .inr (.inr (.inr (.inr (fun _ => none)))))), (q8, .inl (cy 1, ((ch_ (cl_ 2 40 t)) + 1).toNat, .inl (fun _ => zz_i 0)))]) := hD
  refine lv_aload_n hx hb dX2_init_90 rfl (lv_at hl 2 rfl) ?_
  refine lv_iload_n hx hb dX2_init_91 rfl (lv_at hl 4 rfl) ?_
  refine lv_iconst (v := zz_i (0)) hx hb dX2_init_92 rfl ?_
  refine zz_mmax hx hb (hml.trans hl.1.symm) hown (hts (.methodLink RX2 28 Lib.Math.max.name) (by decide +kernel)) (hts (.static Lib.Math.max.name) (by decide +kernel)) (hts (.initialized "java/lang/Math") (by decide +kernel)) (hts (.code Lib.Math.max.name Lib.Math.max.code 2 (some .int)) (by decide +kernel)) (Nat.le_of_ble_eq_true rfl) (Nat.le_of_ble_eq_true rfl) (Nat.le_of_ble_eq_true rfl) (Nat.le_of_ble_eq_true rfl) (by omega) (by omega) dX2_init_93 ?_
  refine W.eq (g2 := F0 m 96 ls [.int (zz_i (if r < 0 then 0 else r)), .ref (h)]) rfl ?_
  refine lv_bipush (v := zz_i (9)) hx hb dX2_init_96 (by decide) ?_
  refine zz_mmin hx hb (hml.trans hl.1.symm) hown (hts (.methodLink RX2 34 Lib.Math.min.name) (by decide +kernel)) (hts (.static Lib.Math.min.name) (by decide +kernel)) (hts (.initialized "java/lang/Math") (by decide +kernel)) (hts (.code Lib.Math.min.name Lib.Math.min.code 2 (some .int)) (by decide +kernel)) (Nat.le_of_ble_eq_true rfl) (Nat.le_of_ble_eq_true rfl) (Nat.le_of_ble_eq_true rfl) (Nat.le_of_ble_eq_true rfl) (by omega) (by omega) dX2_init_98 ?_
  refine W.eq (g2 := F0 m 101 ls [.int (zz_i (cl_ 0 9 r)), .ref (h)]) rfl ?_
  refine va_putF (D := D) (ci := 2) (v := .int (zz_i (cl_ 0 9 r))) (ty := .int) (C := RX2) (T := TX2) (N := 10) hx hb hts hiX2 tyX2 tyX2_ok nmX2 hown hK hP hD hS 6 rfl rfl 5 (by decide) hf47 (fun _ h9 => h9) rfl hin rfl (by decide +kernel) rfl rfl (Nat.le_of_ble_eq_true rfl) dX2_init_101 (fun H locs hP hD hS => ?_)
  have hP : va_P D zz_cl ([(q5, .inr (1, [.ref (u6), .int (zz_i 0)])), (u6, .inl (cy 2, 40, .inr (.inr (.inr (.inr (fun _ => none)))))), (q3, .inr (1, [.ref (u4), .int (zz_i 0)])), (u4, .inl (cy 2, 60, .inr (.inr (.inr (.inr (fun _ => none)))))), (q1, .inr (1, [.ref (u2), .int (zz_i 0)])), (u2, .inl (cy 2, 60, .inr (.inr (.inr (.inr (fun _ => none)))))), (h, .inr (2, [.ref (q7), .ref (q8), .ref (q1), .ref (q3), .ref (q5), .int (zz_i (cl_ 0 9 r)), .int (zz_i (60)), .int (zz_i 0), .int (zz_i 0), .int (zz_i 0)])), (q7, .inl (cy 2, (cl_ 2 40 t).toNat, .inr (.inr (.inr (.inr (fun _ => none)))))), (q8, .inl (cy 1, ((ch_ (cl_ 2 40 t)) + 1).toNat, .inl (fun _ => zz_i 0)))]) H := hP
  have hD : va_D A ([(q5, .inr (1, [.ref (u6), .int (zz_i 0)])), (u6, .inl (cy 2, 40, .inr (.inr (.inr (.inr (fun _ => none)))))), (q3, .inr (1, [.ref (u4), .int (zz_i 0)])), (u4, .inl (cy 2, 60, .inr (.inr (.inr (.inr (fun _ => none)))))), (q1, .inr (1, [.ref (u2), .int (zz_i 0)])), (u2, .inl (cy 2, 60, .inr (.inr (.inr (.inr (fun _ => none)))))), (h, .inr (2, [.ref (q7), .ref (q8), .ref (q1), .ref (q3), .ref (q5), .int (zz_i (cl_ 0 9 r)), .int (zz_i (60)), .int (zz_i 0), .int (zz_i 0), .int (zz_i 0)])), (q7, .inl (cy 2, (cl_ 2 40 t).toNat, .inr (.inr (.inr (.inr (fun _ => none)))))), (q8, .inl (cy 1, ((ch_ (cl_ 2 40 t)) + 1).toNat, .inl (fun _ => zz_i 0)))]) := hD
  have hP9 := hP.sub (ws' := cw_ cy (fun k => match k with | 0 => h | 1 => q7 | 2 => q8 | 3 => q1 | 4 => q3 | 5 => q5 | 6 => u2 | 7 => u4 | _ => u6) ad (s_0 t r)) [6, 7, 8, 4, 2, 0, 5, 3, 1] (by rw [show s_0 t r = s_1 (cl_ 2 40 t) (cl_ 0 9 r) from rfl, cw_st]; rfl)
  have hD9 := hD.sub (ws' := cw_ cy (fun k => match k with | 0 => h | 1 => q7 | 2 => q8 | 3 => q1 | 4 => q3 | 5 => q5 | 6 => u2 | 7 => u4 | _ => u6) ad (s_0 t r)) [6, 7, 8, 4, 2, 0, 5, 3, 1] (by decide) (by rw [show s_0 t r = s_1 (cl_ 2 40 t) (cl_ 0 9 r) from rfl, cw_st]; rfl)
  subst hAe
  refine W.widen (k := 8) (n := 233) (by omega) (by omega) ?_
  exact W.vret hx hb hr (fun t ht hW => ⟨rfl, ⟨(fun k => match k with | 0 => h | 1 => q7 | 2 => q8 | 3 => q1 | 4 => q3 | 5 => q5 | 6 => u2 | 7 => u4 | _ => u6), rfl, by rw [ht]; exact hP9, va_K.moved hW.alike hK, hD9⟩, hS.F ht⟩) hS.2.2 dX2_init_104
set_option maxHeartbeats 4000000 in
set_option maxRecDepth 100000 in
theorem c_X3_init (l : Launch) (D : va_G) (cy : Nat → Nat) (h sz : Nat) (t r : Int) (h1 : -2147483648 ≤ t ∧ t < 2147483648) (h2 : -2147483648 ≤ r ∧ r < 2147483648) : Met l yX3_init wsX3_init ({ frames := 1, cells := 14, slots := 754, locals := 60 }) (ct_P D cy [.ref (h), .int (zz_i (t)), .int (zz_i (r))] [(h, .inr (3, [.int (zz_i 0), .int (zz_i 0), .int (zz_i 0), .int (zz_i 0), .int (zz_i 0), .null, .null, .int (zz_i 0), .null, .null, .null, .null, .null, .null, .int (zz_i 0), .null, .null, .null, .null, .int (zz_i 0), .int (zz_i 0), .null, .null]))] sz) (ct_Q D cy [(h, .inr (3, [.int (zz_i 0), .int (zz_i 0), .int (zz_i 0), .int (zz_i 0), .int (zz_i 0), .null, .null, .int (zz_i 0), .null, .null, .null, .null, .null, .null, .int (zz_i 0), .null, .null, .null, .null, .int (zz_i 0), .int (zz_i 0), .null, .null]))] sz none (fun u : Nat → Nat => u 0 = h) (fun u => rk_ cy u 0 (s_0 t r))) 14 754 (va_A [(h, .inr (3, [.int (zz_i 0), .int (zz_i 0), .int (zz_i 0), .int (zz_i 0), .int (zz_i 0), .null, .null, .int (zz_i 0), .null, .null, .null, .null, .null, .null, .int (zz_i 0), .null, .null, .null, .null, .int (zz_i 0), .int (zz_i 0), .null, .null]))] sz) := by
  refine Met.ofW (cc := cX3_init) (maxL := 3) (ret := none) (by decide) rfl ?_
  intro p e s m args below meth c s₁ B hml hv
  obtain ⟨rfl, rfl, hP, hK, hD0, hE⟩ := hv
  have hx := B.exec
  have hb := B.bytes
  have hr := B.returns
  have hts := atoms_spec (ws := wsX3_init) B.pre
  have hown : s.vm.findClass RX3 = some m.cls := findClass_of_methodNamed B.named
  have hin : meth.name = "<init>" := (name_of_methodNamed B.named B.method).1
  have hD := hD0.self (sz := s.heap.size)
  obtain ⟨A, hAe⟩ : ∃ A, A = va_A ([(h, .inr (3, [.int (zz_i 0), .int (zz_i 0), .int (zz_i 0), .int (zz_i 0), .int (zz_i 0), .null, .null, .int (zz_i 0), .null, .null, .null, .null, .null, .null, .int (zz_i 0), .null, .null, .null, .null, .int (zz_i 0), .int (zz_i 0), .null, .null]))]) s.heap.size := ⟨_, rfl⟩
  rw [← hAe] at hD hE
  have hA : ∀ q : Nat, s.heap.size ≤ q → A q := fun q h => by rw [hAe]; exact Or.inr h
  have hS : va_S A s.heap s.heap [] := va_S.rf
  have hP : va_P D zz_cl ([(h, .inr (3, [.int (zz_i 0), .int (zz_i 0), .int (zz_i 0), .int (zz_i 0), .int (zz_i 0), .null, .null, .int (zz_i 0), .null, .null, .null, .null, .null, .null, .int (zz_i 0), .null, .null, .null, .null, .int (zz_i 0), .int (zz_i 0), .null, .null]))]) s.heap := hP
  have hl := lv_entry ([.ref (h), .int (zz_i (t)), .int (zz_i (r))]) (n := 3) (Nat.le_of_ble_eq_true rfl)
  rw [lg_entry_eq]
  generalize (lg_sl ([.ref (h), .int (zz_i (t)), .int (zz_i (r))]) ++ List.replicate (3 - (lg_sl ([.ref (h), .int (zz_i (t)), .int (zz_i (r))])).length) Slot.unset).toArray = ls at hl ⊢
  have hl : lv_has ls 3 [(0, .ref (h)), (1, .int (zz_i (t))), (2, .int (zz_i (r)))] := hl
  have ht2 := cl_b (lo := 2) (hi := 40) (x := t) (by omega)
  have hr2 := cl_b (lo := 0) (hi := 9) (x := r) (by omega)
  have hiX3 : ∀ w ∈ wsX30, w ∈ wsX3_init := by decide +kernel
  have hf7 := hts (.fieldLink RX3 7 "SorterStepsModel" "longest" "I") (by decide +kernel)
  have hf13 := hts (.fieldLink RX3 13 "SorterStepsModel" "on" "[I") (by decide +kernel)
  have hf17 := hts (.fieldLink RX3 17 "SorterStepsModel" "full" "[Z") (by decide +kernel)
  have hf21 := hts (.fieldLink RX3 21 "SorterStepsModel" "length" "[I") (by decide +kernel)
  have hf24 := hts (.fieldLink RX3 24 "SorterStepsModel" "state" "[I") (by decide +kernel)
  have hf27 := hts (.fieldLink RX3 27 "SorterStepsModel" "way" "[I") (by decide +kernel)
  have hf30 := hts (.fieldLink RX3 30 "SorterStepsModel" "rounds" "[I") (by decide +kernel)
  have hf33 := hts (.fieldLink RX3 33 "SorterStepsModel" "retries" "[I") (by decide +kernel)
  have hf36 := hts (.fieldLink RX3 36 "SorterStepsModel" "later" "[I") (by decide +kernel)
  have hf39 := hts (.fieldLink RX3 39 "SorterStepsModel" "leftItem" "[I") (by decide +kernel)
  have hf42 := hts (.fieldLink RX3 42 "SorterStepsModel" "leftChute" "[I") (by decide +kernel)
  have hf45 := hts (.fieldLink RX3 45 "SorterStepsModel" "leftStep" "[I") (by decide +kernel)
  have hf48 := hts (.fieldLink RX3 48 "SorterStepsModel" "leftRounds" "[I") (by decide +kernel)
  have hf51 := hts (.fieldLink RX3 51 "SorterStepsModel" "doubted" "[I") (by decide +kernel)
  have hf54 := hts (.fieldLink RX3 54 "SorterStepsModel" "isFound" "[Z") (by decide +kernel)
  have hf57 := hts (.fieldLink RX3 57 "SorterStepsModel" "trays" "I") (by decide +kernel)
  have hf60 := hts (.fieldLink RX3 60 "SorterStepsModel" "most" "I") (by decide +kernel)
  refine lv_aload_n hx hb dX3_init_0 rfl (lv_at hl 0 rfl) ?_
  refine W.objInit hx hb hown (hts (.methodLink RX3 1 objectInit) (by decide +kernel)) (hts (.instanceMethod objectInit) (by decide +kernel)) (hts (.code objectInit ⟨#[0xb1]⟩ 1 none) (by decide +kernel)) rfl (by rw [hml]; exact hl.1) rfl dX3_init_1 (Nat.le_of_ble_eq_true rfl) (Nat.le_of_ble_eq_true rfl) ?_
  refine W.eq (g2 := F0 m 4 ls []) rfl ?_
  refine lv_aload_n hx hb dX3_init_4 rfl (lv_at hl 0 rfl) ?_
  refine lv_bipush (v := zz_i (60)) hx hb dX3_init_5 (by decide) ?_
  refine va_put (D := D) (ci := 3) (v := .int (zz_i (60))) (ty := .int) (C := RX3) (T := TX3) (N := 23) hx hb hts hiX3 tyX3 tyX3_ok nmX3 hown hK hP hD hS 0 rfl rfl 4 (by decide) hf7 (fun _ h9 => h9) rfl (by decide +kernel) rfl rfl (Nat.le_of_ble_eq_true rfl) dX3_init_7 (fun H locs hP hD hS => ?_)
  have hP : va_P D zz_cl ([(h, .inr (3, [.int (zz_i 0), .int (zz_i 0), .int (zz_i 0), .int (zz_i 0), .int (zz_i (60)), .null, .null, .int (zz_i 0), .null, .null, .null, .null, .null, .null, .int (zz_i 0), .null, .null, .null, .null, .int (zz_i 0), .int (zz_i 0), .null, .null]))]) H := hP
  have hD : va_D A ([(h, .inr (3, [.int (zz_i 0), .int (zz_i 0), .int (zz_i 0), .int (zz_i 0), .int (zz_i (60)), .null, .null, .int (zz_i 0), .null, .null, .null, .null, .null, .null, .int (zz_i 0), .null, .null, .null, .null, .int (zz_i 0), .int (zz_i 0), .null, .null]))]) := hD
  refine lv_aload_n hx hb dX3_init_10 rfl (lv_at hl 0 rfl) ?_
  refine lv_bipush (v := zz_i (40)) hx hb dX3_init_11 (by decide) ?_
  refine va_newa (atype := .int) (N' := 40) (a0 := (40, .inl (fun _ => zz_i 0))) (ty := .int) (n := zz_i (40)) hx hb (hts (.arrayClass .int) (by decide +kernel)) rfl hK hP hD hS hA (fun _ => rfl) (by decide) rfl (show 40 * 4 ≤ 536870912 by omega) (Nat.le_of_ble_eq_true rfl) (Nat.le_of_ble_eq_true rfl) dX3_init_13 (fun q1 cA H hK5 hP hD hS => ?_)
  obtain rfl := ka_i hK5
  have hP : va_P D zz_cl ([(h, .inr (3, [.int (zz_i 0), .int (zz_i 0), .int (zz_i 0), .int (zz_i 0), .int (zz_i (60)), .null, .null, .int (zz_i 0), .null, .null, .null, .null, .null, .null, .int (zz_i 0), .null, .null, .null, .null, .int (zz_i 0), .int (zz_i 0), .null, .null])), (q1, .inl (cy 0, 40, .inl (fun _ => zz_i 0)))]) H := hP
  have hD : va_D A ([(h, .inr (3, [.int (zz_i 0), .int (zz_i 0), .int (zz_i 0), .int (zz_i 0), .int (zz_i (60)), .null, .null, .int (zz_i 0), .null, .null, .null, .null, .null, .null, .int (zz_i 0), .null, .null, .null, .null, .int (zz_i 0), .int (zz_i 0), .null, .null])), (q1, .inl (cy 0, 40, .inl (fun _ => zz_i 0)))]) := hD
  refine W.eq (g2 := F0 m 15 ls [.ref (q1), .ref (h)]) rfl ?_
  refine va_putF (D := D) (ci := 3) (v := .ref (q1)) (ty := .array (.int)) (C := RX3) (T := TX3) (N := 23) hx hb hts hiX3 tyX3 tyX3_ok nmX3 hown hK hP hD hS 0 rfl rfl 5 (by decide) hf13 (fun _ h9 => h9) rfl hin rfl (by decide +kernel) rfl rfl (Nat.le_of_ble_eq_true rfl) dX3_init_15 (fun H locs hP hD hS => ?_)
  have hP : va_P D zz_cl ([(h, .inr (3, [.int (zz_i 0), .int (zz_i 0), .int (zz_i 0), .int (zz_i 0), .int (zz_i (60)), .ref (q1), .null, .int (zz_i 0), .null, .null, .null, .null, .null, .null, .int (zz_i 0), .null, .null, .null, .null, .int (zz_i 0), .int (zz_i 0), .null, .null])), (q1, .inl (cy 0, 40, .inl (fun _ => zz_i 0)))]) H := hP
  have hD : va_D A ([(h, .inr (3, [.int (zz_i 0), .int (zz_i 0), .int (zz_i 0), .int (zz_i 0), .int (zz_i (60)), .ref (q1), .null, .int (zz_i 0), .null, .null, .null, .null, .null, .null, .int (zz_i 0), .null, .null, .null, .null, .int (zz_i 0), .int (zz_i 0), .null, .null])), (q1, .inl (cy 0, 40, .inl (fun _ => zz_i 0)))]) := hD
  refine lv_aload_n hx hb dX3_init_18 rfl (lv_at hl 0 rfl) ?_
  refine lv_bipush (v := zz_i (7)) hx hb dX3_init_19 (by decide) ?_
  refine va_newa (atype := .boolean) (N' := 7) (a0 := (7, .inl (fun _ => zz_i 0))) (ty := .boolean) (n := zz_i (7)) hx hb (hts (.arrayClass .boolean) (by decide +kernel)) rfl hK hP hD hS hA (fun _ => rfl) (by decide) rfl (show 7 * 1 ≤ 536870912 by omega) (Nat.le_of_ble_eq_true rfl) (Nat.le_of_ble_eq_true rfl) dX3_init_21 (fun q2 cA H hK5 hP hD hS => ?_)
  obtain rfl := ka_z hK5
  have hP : va_P D zz_cl ([(h, .inr (3, [.int (zz_i 0), .int (zz_i 0), .int (zz_i 0), .int (zz_i 0), .int (zz_i (60)), .ref (q1), .null, .int (zz_i 0), .null, .null, .null, .null, .null, .null, .int (zz_i 0), .null, .null, .null, .null, .int (zz_i 0), .int (zz_i 0), .null, .null])), (q1, .inl (cy 0, 40, .inl (fun _ => zz_i 0))), (q2, .inl (cy 1, 7, .inl (fun _ => zz_i 0)))]) H := hP
  have hD : va_D A ([(h, .inr (3, [.int (zz_i 0), .int (zz_i 0), .int (zz_i 0), .int (zz_i 0), .int (zz_i (60)), .ref (q1), .null, .int (zz_i 0), .null, .null, .null, .null, .null, .null, .int (zz_i 0), .null, .null, .null, .null, .int (zz_i 0), .int (zz_i 0), .null, .null])), (q1, .inl (cy 0, 40, .inl (fun _ => zz_i 0))), (q2, .inl (cy 1, 7, .inl (fun _ => zz_i 0)))]) := hD
  refine W.eq (g2 := F0 m 23 ls [.ref (q2), .ref (h)]) rfl ?_
  refine va_putF (D := D) (ci := 3) (v := .ref (q2)) (ty := .array (.boolean)) (C := RX3) (T := TX3) (N := 23) hx hb hts hiX3 tyX3 tyX3_ok nmX3 hown hK hP hD hS 0 rfl rfl 6 (by decide) hf17 (fun _ h9 => h9) rfl hin rfl (by decide +kernel) rfl rfl (Nat.le_of_ble_eq_true rfl) dX3_init_23 (fun H locs hP hD hS => ?_)
  have hP : va_P D zz_cl ([(h, .inr (3, [.int (zz_i 0), .int (zz_i 0), .int (zz_i 0), .int (zz_i 0), .int (zz_i (60)), .ref (q1), .ref (q2), .int (zz_i 0), .null, .null, .null, .null, .null, .null, .int (zz_i 0), .null, .null, .null, .null, .int (zz_i 0), .int (zz_i 0), .null, .null])), (q1, .inl (cy 0, 40, .inl (fun _ => zz_i 0))), (q2, .inl (cy 1, 7, .inl (fun _ => zz_i 0)))]) H := hP
  have hD : va_D A ([(h, .inr (3, [.int (zz_i 0), .int (zz_i 0), .int (zz_i 0), .int (zz_i 0), .int (zz_i (60)), .ref (q1), .ref (q2), .int (zz_i 0), .null, .null, .null, .null, .null, .null, .int (zz_i 0), .null, .null, .null, .null, .int (zz_i 0), .int (zz_i 0), .null, .null])), (q1, .inl (cy 0, 40, .inl (fun _ => zz_i 0))), (q2, .inl (cy 1, 7, .inl (fun _ => zz_i 0)))]) := hD
  refine lv_aload_n hx hb dX3_init_26 rfl (lv_at hl 0 rfl) ?_
  refine lv_bipush (v := zz_i (61)) hx hb dX3_init_27 (by decide) ?_
  refine va_newa (atype := .int) (N' := 61) (a0 := (61, .inl (fun _ => zz_i 0))) (ty := .int) (n := zz_i (61)) hx hb (hts (.arrayClass .int) (by decide +kernel)) rfl hK hP hD hS hA (fun _ => rfl) (by decide) rfl (show 61 * 4 ≤ 536870912 by omega) (Nat.le_of_ble_eq_true rfl) (Nat.le_of_ble_eq_true rfl) dX3_init_29 (fun q3 cA H hK5 hP hD hS => ?_)
  obtain rfl := ka_i hK5
  have hP : va_P D zz_cl ([(h, .inr (3, [.int (zz_i 0), .int (zz_i 0), .int (zz_i 0), .int (zz_i 0), .int (zz_i (60)), .ref (q1), .ref (q2), .int (zz_i 0), .null, .null, .null, .null, .null, .null, .int (zz_i 0), .null, .null, .null, .null, .int (zz_i 0), .int (zz_i 0), .null, .null])), (q1, .inl (cy 0, 40, .inl (fun _ => zz_i 0))), (q2, .inl (cy 1, 7, .inl (fun _ => zz_i 0))), (q3, .inl (cy 0, 61, .inl (fun _ => zz_i 0)))]) H := hP
  have hD : va_D A ([(h, .inr (3, [.int (zz_i 0), .int (zz_i 0), .int (zz_i 0), .int (zz_i 0), .int (zz_i (60)), .ref (q1), .ref (q2), .int (zz_i 0), .null, .null, .null, .null, .null, .null, .int (zz_i 0), .null, .null, .null, .null, .int (zz_i 0), .int (zz_i 0), .null, .null])), (q1, .inl (cy 0, 40, .inl (fun _ => zz_i 0))), (q2, .inl (cy 1, 7, .inl (fun _ => zz_i 0))), (q3, .inl (cy 0, 61, .inl (fun _ => zz_i 0)))]) := hD
  refine W.eq (g2 := F0 m 31 ls [.ref (q3), .ref (h)]) rfl ?_
  refine va_putF (D := D) (ci := 3) (v := .ref (q3)) (ty := .array (.int)) (C := RX3) (T := TX3) (N := 23) hx hb hts hiX3 tyX3 tyX3_ok nmX3 hown hK hP hD hS 0 rfl rfl 8 (by decide) hf21 (fun _ h9 => h9) rfl hin rfl (by decide +kernel) rfl rfl (Nat.le_of_ble_eq_true rfl) dX3_init_31 (fun H locs hP hD hS => ?_)
  have hP : va_P D zz_cl ([(h, .inr (3, [.int (zz_i 0), .int (zz_i 0), .int (zz_i 0), .int (zz_i 0), .int (zz_i (60)), .ref (q1), .ref (q2), .int (zz_i 0), .ref (q3), .null, .null, .null, .null, .null, .int (zz_i 0), .null, .null, .null, .null, .int (zz_i 0), .int (zz_i 0), .null, .null])), (q1, .inl (cy 0, 40, .inl (fun _ => zz_i 0))), (q2, .inl (cy 1, 7, .inl (fun _ => zz_i 0))), (q3, .inl (cy 0, 61, .inl (fun _ => zz_i 0)))]) H := hP
  have hD : va_D A ([(h, .inr (3, [.int (zz_i 0), .int (zz_i 0), .int (zz_i 0), .int (zz_i 0), .int (zz_i (60)), .ref (q1), .ref (q2), .int (zz_i 0), .ref (q3), .null, .null, .null, .null, .null, .int (zz_i 0), .null, .null, .null, .null, .int (zz_i 0), .int (zz_i 0), .null, .null])), (q1, .inl (cy 0, 40, .inl (fun _ => zz_i 0))), (q2, .inl (cy 1, 7, .inl (fun _ => zz_i 0))), (q3, .inl (cy 0, 61, .inl (fun _ => zz_i 0)))]) := hD
  refine lv_aload_n hx hb dX3_init_34 rfl (lv_at hl 0 rfl) ?_
  refine lv_bipush (v := zz_i (61)) hx hb dX3_init_35 (by decide) ?_
  refine va_newa (atype := .int) (N' := 61) (a0 := (61, .inl (fun _ => zz_i 0))) (ty := .int) (n := zz_i (61)) hx hb (hts (.arrayClass .int) (by decide +kernel)) rfl hK hP hD hS hA (fun _ => rfl) (by decide) rfl (show 61 * 4 ≤ 536870912 by omega) (Nat.le_of_ble_eq_true rfl) (Nat.le_of_ble_eq_true rfl) dX3_init_37 (fun q4 cA H hK5 hP hD hS => ?_)
  obtain rfl := ka_i hK5
  have hP : va_P D zz_cl ([(h, .inr (3, [.int (zz_i 0), .int (zz_i 0), .int (zz_i 0), .int (zz_i 0), .int (zz_i (60)), .ref (q1), .ref (q2), .int (zz_i 0), .ref (q3), .null, .null, .null, .null, .null, .int (zz_i 0), .null, .null, .null, .null, .int (zz_i 0), .int (zz_i 0), .null, .null])), (q1, .inl (cy 0, 40, .inl (fun _ => zz_i 0))), (q2, .inl (cy 1, 7, .inl (fun _ => zz_i 0))), (q3, .inl (cy 0, 61, .inl (fun _ => zz_i 0))), (q4, .inl (cy 0, 61, .inl (fun _ => zz_i 0)))]) H := hP
  have hD : va_D A ([(h, .inr (3, [.int (zz_i 0), .int (zz_i 0), .int (zz_i 0), .int (zz_i 0), .int (zz_i (60)), .ref (q1), .ref (q2), .int (zz_i 0), .ref (q3), .null, .null, .null, .null, .null, .int (zz_i 0), .null, .null, .null, .null, .int (zz_i 0), .int (zz_i 0), .null, .null])), (q1, .inl (cy 0, 40, .inl (fun _ => zz_i 0))), (q2, .inl (cy 1, 7, .inl (fun _ => zz_i 0))), (q3, .inl (cy 0, 61, .inl (fun _ => zz_i 0))), (q4, .inl (cy 0, 61, .inl (fun _ => zz_i 0)))]) := hD
  refine W.eq (g2 := F0 m 39 ls [.ref (q4), .ref (h)]) rfl ?_
  refine va_putF (D := D) (ci := 3) (v := .ref (q4)) (ty := .array (.int)) (C := RX3) (T := TX3) (N := 23) hx hb hts hiX3 tyX3 tyX3_ok nmX3 hown hK hP hD hS 0 rfl rfl 9 (by decide) hf24 (fun _ h9 => h9) rfl hin rfl (by decide +kernel) rfl rfl (Nat.le_of_ble_eq_true rfl) dX3_init_39 (fun H locs hP hD hS => ?_)
  have hP : va_P D zz_cl ([(h, .inr (3, [.int (zz_i 0), .int (zz_i 0), .int (zz_i 0), .int (zz_i 0), .int (zz_i (60)), .ref (q1), .ref (q2), .int (zz_i 0), .ref (q3), .ref (q4), .null, .null, .null, .null, .int (zz_i 0), .null, .null, .null, .null, .int (zz_i 0), .int (zz_i 0), .null, .null])), (q1, .inl (cy 0, 40, .inl (fun _ => zz_i 0))), (q2, .inl (cy 1, 7, .inl (fun _ => zz_i 0))), (q3, .inl (cy 0, 61, .inl (fun _ => zz_i 0))), (q4, .inl (cy 0, 61, .inl (fun _ => zz_i 0)))]) H := hP
  have hD : va_D A ([(h, .inr (3, [.int (zz_i 0), .int (zz_i 0), .int (zz_i 0), .int (zz_i 0), .int (zz_i (60)), .ref (q1), .ref (q2), .int (zz_i 0), .ref (q3), .ref (q4), .null, .null, .null, .null, .int (zz_i 0), .null, .null, .null, .null, .int (zz_i 0), .int (zz_i 0), .null, .null])), (q1, .inl (cy 0, 40, .inl (fun _ => zz_i 0))), (q2, .inl (cy 1, 7, .inl (fun _ => zz_i 0))), (q3, .inl (cy 0, 61, .inl (fun _ => zz_i 0))), (q4, .inl (cy 0, 61, .inl (fun _ => zz_i 0)))]) := hD
  refine lv_aload_n hx hb dX3_init_42 rfl (lv_at hl 0 rfl) ?_
  refine lv_bipush (v := zz_i (61)) hx hb dX3_init_43 (by decide) ?_
  refine va_newa (atype := .int) (N' := 61) (a0 := (61, .inl (fun _ => zz_i 0))) (ty := .int) (n := zz_i (61)) hx hb (hts (.arrayClass .int) (by decide +kernel)) rfl hK hP hD hS hA (fun _ => rfl) (by decide) rfl (show 61 * 4 ≤ 536870912 by omega) (Nat.le_of_ble_eq_true rfl) (Nat.le_of_ble_eq_true rfl) dX3_init_45 (fun q5 cA H hK5 hP hD hS => ?_)
  obtain rfl := ka_i hK5
  have hP : va_P D zz_cl ([(h, .inr (3, [.int (zz_i 0), .int (zz_i 0), .int (zz_i 0), .int (zz_i 0), .int (zz_i (60)), .ref (q1), .ref (q2), .int (zz_i 0), .ref (q3), .ref (q4), .null, .null, .null, .null, .int (zz_i 0), .null, .null, .null, .null, .int (zz_i 0), .int (zz_i 0), .null, .null])), (q1, .inl (cy 0, 40, .inl (fun _ => zz_i 0))), (q2, .inl (cy 1, 7, .inl (fun _ => zz_i 0))), (q3, .inl (cy 0, 61, .inl (fun _ => zz_i 0))), (q4, .inl (cy 0, 61, .inl (fun _ => zz_i 0))), (q5, .inl (cy 0, 61, .inl (fun _ => zz_i 0)))]) H := hP
  have hD : va_D A ([(h, .inr (3, [.int (zz_i 0), .int (zz_i 0), .int (zz_i 0), .int (zz_i 0), .int (zz_i (60)), .ref (q1), .ref (q2), .int (zz_i 0), .ref (q3), .ref (q4), .null, .null, .null, .null, .int (zz_i 0), .null, .null, .null, .null, .int (zz_i 0), .int (zz_i 0), .null, .null])), (q1, .inl (cy 0, 40, .inl (fun _ => zz_i 0))), (q2, .inl (cy 1, 7, .inl (fun _ => zz_i 0))), (q3, .inl (cy 0, 61, .inl (fun _ => zz_i 0))), (q4, .inl (cy 0, 61, .inl (fun _ => zz_i 0))), (q5, .inl (cy 0, 61, .inl (fun _ => zz_i 0)))]) := hD
  refine W.eq (g2 := F0 m 47 ls [.ref (q5), .ref (h)]) rfl ?_
  refine va_putF (D := D) (ci := 3) (v := .ref (q5)) (ty := .array (.int)) (C := RX3) (T := TX3) (N := 23) hx hb hts hiX3 tyX3 tyX3_ok nmX3 hown hK hP hD hS 0 rfl rfl 10 (by decide) hf27 (fun _ h9 => h9) rfl hin rfl (by decide +kernel) rfl rfl (Nat.le_of_ble_eq_true rfl) dX3_init_47 (fun H locs hP hD hS => ?_)
  have hP : va_P D zz_cl ([(h, .inr (3, [.int (zz_i 0), .int (zz_i 0), .int (zz_i 0), .int (zz_i 0), .int (zz_i (60)), .ref (q1), .ref (q2), .int (zz_i 0), .ref (q3), .ref (q4), .ref (q5), .null, .null, .null, .int (zz_i 0), .null, .null, .null, .null, .int (zz_i 0), .int (zz_i 0), .null, .null])), (q1, .inl (cy 0, 40, .inl (fun _ => zz_i 0))), (q2, .inl (cy 1, 7, .inl (fun _ => zz_i 0))), (q3, .inl (cy 0, 61, .inl (fun _ => zz_i 0))), (q4, .inl (cy 0, 61, .inl (fun _ => zz_i 0))), (q5, .inl (cy 0, 61, .inl (fun _ => zz_i 0)))]) H := hP
  have hD : va_D A ([(h, .inr (3, [.int (zz_i 0), .int (zz_i 0), .int (zz_i 0), .int (zz_i 0), .int (zz_i (60)), .ref (q1), .ref (q2), .int (zz_i 0), .ref (q3), .ref (q4), .ref (q5), .null, .null, .null, .int (zz_i 0), .null, .null, .null, .null, .int (zz_i 0), .int (zz_i 0), .null, .null])), (q1, .inl (cy 0, 40, .inl (fun _ => zz_i 0))), (q2, .inl (cy 1, 7, .inl (fun _ => zz_i 0))), (q3, .inl (cy 0, 61, .inl (fun _ => zz_i 0))), (q4, .inl (cy 0, 61, .inl (fun _ => zz_i 0))), (q5, .inl (cy 0, 61, .inl (fun _ => zz_i 0)))]) := hD
  refine lv_aload_n hx hb dX3_init_50 rfl (lv_at hl 0 rfl) ?_
  refine lv_bipush (v := zz_i (61)) hx hb dX3_init_51 (by decide) ?_
  refine va_newa (atype := .int) (N' := 61) (a0 := (61, .inl (fun _ => zz_i 0))) (ty := .int) (n := zz_i (61)) hx hb (hts (.arrayClass .int) (by decide +kernel)) rfl hK hP hD hS hA (fun _ => rfl) (by decide) rfl (show 61 * 4 ≤ 536870912 by omega) (Nat.le_of_ble_eq_true rfl) (Nat.le_of_ble_eq_true rfl) dX3_init_53 (fun q6 cA H hK5 hP hD hS => ?_)
  obtain rfl := ka_i hK5
  have hP : va_P D zz_cl ([(h, .inr (3, [.int (zz_i 0), .int (zz_i 0), .int (zz_i 0), .int (zz_i 0), .int (zz_i (60)), .ref (q1), .ref (q2), .int (zz_i 0), .ref (q3), .ref (q4), .ref (q5), .null, .null, .null, .int (zz_i 0), .null, .null, .null, .null, .int (zz_i 0), .int (zz_i 0), .null, .null])), (q1, .inl (cy 0, 40, .inl (fun _ => zz_i 0))), (q2, .inl (cy 1, 7, .inl (fun _ => zz_i 0))), (q3, .inl (cy 0, 61, .inl (fun _ => zz_i 0))), (q4, .inl (cy 0, 61, .inl (fun _ => zz_i 0))), (q5, .inl (cy 0, 61, .inl (fun _ => zz_i 0))), (q6, .inl (cy 0, 61, .inl (fun _ => zz_i 0)))]) H := hP
  have hD : va_D A ([(h, .inr (3, [.int (zz_i 0), .int (zz_i 0), .int (zz_i 0), .int (zz_i 0), .int (zz_i (60)), .ref (q1), .ref (q2), .int (zz_i 0), .ref (q3), .ref (q4), .ref (q5), .null, .null, .null, .int (zz_i 0), .null, .null, .null, .null, .int (zz_i 0), .int (zz_i 0), .null, .null])), (q1, .inl (cy 0, 40, .inl (fun _ => zz_i 0))), (q2, .inl (cy 1, 7, .inl (fun _ => zz_i 0))), (q3, .inl (cy 0, 61, .inl (fun _ => zz_i 0))), (q4, .inl (cy 0, 61, .inl (fun _ => zz_i 0))), (q5, .inl (cy 0, 61, .inl (fun _ => zz_i 0))), (q6, .inl (cy 0, 61, .inl (fun _ => zz_i 0)))]) := hD
  refine W.eq (g2 := F0 m 55 ls [.ref (q6), .ref (h)]) rfl ?_
  refine va_putF (D := D) (ci := 3) (v := .ref (q6)) (ty := .array (.int)) (C := RX3) (T := TX3) (N := 23) hx hb hts hiX3 tyX3 tyX3_ok nmX3 hown hK hP hD hS 0 rfl rfl 11 (by decide) hf30 (fun _ h9 => h9) rfl hin rfl (by decide +kernel) rfl rfl (Nat.le_of_ble_eq_true rfl) dX3_init_55 (fun H locs hP hD hS => ?_)
  have hP : va_P D zz_cl ([(h, .inr (3, [.int (zz_i 0), .int (zz_i 0), .int (zz_i 0), .int (zz_i 0), .int (zz_i (60)), .ref (q1), .ref (q2), .int (zz_i 0), .ref (q3), .ref (q4), .ref (q5), .ref (q6), .null, .null, .int (zz_i 0), .null, .null, .null, .null, .int (zz_i 0), .int (zz_i 0), .null, .null])), (q1, .inl (cy 0, 40, .inl (fun _ => zz_i 0))), (q2, .inl (cy 1, 7, .inl (fun _ => zz_i 0))), (q3, .inl (cy 0, 61, .inl (fun _ => zz_i 0))), (q4, .inl (cy 0, 61, .inl (fun _ => zz_i 0))), (q5, .inl (cy 0, 61, .inl (fun _ => zz_i 0))), (q6, .inl (cy 0, 61, .inl (fun _ => zz_i 0)))]) H := hP
  have hD : va_D A ([(h, .inr (3, [.int (zz_i 0), .int (zz_i 0), .int (zz_i 0), .int (zz_i 0), .int (zz_i (60)), .ref (q1), .ref (q2), .int (zz_i 0), .ref (q3), .ref (q4), .ref (q5), .ref (q6), .null, .null, .int (zz_i 0), .null, .null, .null, .null, .int (zz_i 0), .int (zz_i 0), .null, .null])), (q1, .inl (cy 0, 40, .inl (fun _ => zz_i 0))), (q2, .inl (cy 1, 7, .inl (fun _ => zz_i 0))), (q3, .inl (cy 0, 61, .inl (fun _ => zz_i 0))), (q4, .inl (cy 0, 61, .inl (fun _ => zz_i 0))), (q5, .inl (cy 0, 61, .inl (fun _ => zz_i 0))), (q6, .inl (cy 0, 61, .inl (fun _ => zz_i 0)))]) := hD
  refine lv_aload_n hx hb dX3_init_58 rfl (lv_at hl 0 rfl) ?_
  refine lv_bipush (v := zz_i (61)) hx hb dX3_init_59 (by decide) ?_
  refine va_newa (atype := .int) (N' := 61) (a0 := (61, .inl (fun _ => zz_i 0))) (ty := .int) (n := zz_i (61)) hx hb (hts (.arrayClass .int) (by decide +kernel)) rfl hK hP hD hS hA (fun _ => rfl) (by decide) rfl (show 61 * 4 ≤ 536870912 by omega) (Nat.le_of_ble_eq_true rfl) (Nat.le_of_ble_eq_true rfl) dX3_init_61 (fun q7 cA H hK5 hP hD hS => ?_)
  obtain rfl := ka_i hK5
  have hP : va_P D zz_cl ([(h, .inr (3, [.int (zz_i 0), .int (zz_i 0), .int (zz_i 0), .int (zz_i 0), .int (zz_i (60)), .ref (q1), .ref (q2), .int (zz_i 0), .ref (q3), .ref (q4), .ref (q5), .ref (q6), .null, .null, .int (zz_i 0), .null, .null, .null, .null, .int (zz_i 0), .int (zz_i 0), .null, .null])), (q1, .inl (cy 0, 40, .inl (fun _ => zz_i 0))), (q2, .inl (cy 1, 7, .inl (fun _ => zz_i 0))), (q3, .inl (cy 0, 61, .inl (fun _ => zz_i 0))), (q4, .inl (cy 0, 61, .inl (fun _ => zz_i 0))), (q5, .inl (cy 0, 61, .inl (fun _ => zz_i 0))), (q6, .inl (cy 0, 61, .inl (fun _ => zz_i 0))), (q7, .inl (cy 0, 61, .inl (fun _ => zz_i 0)))]) H := hP
  have hD : va_D A ([(h, .inr (3, [.int (zz_i 0), .int (zz_i 0), .int (zz_i 0), .int (zz_i 0), .int (zz_i (60)), .ref (q1), .ref (q2), .int (zz_i 0), .ref (q3), .ref (q4), .ref (q5), .ref (q6), .null, .null, .int (zz_i 0), .null, .null, .null, .null, .int (zz_i 0), .int (zz_i 0), .null, .null])), (q1, .inl (cy 0, 40, .inl (fun _ => zz_i 0))), (q2, .inl (cy 1, 7, .inl (fun _ => zz_i 0))), (q3, .inl (cy 0, 61, .inl (fun _ => zz_i 0))), (q4, .inl (cy 0, 61, .inl (fun _ => zz_i 0))), (q5, .inl (cy 0, 61, .inl (fun _ => zz_i 0))), (q6, .inl (cy 0, 61, .inl (fun _ => zz_i 0))), (q7, .inl (cy 0, 61, .inl (fun _ => zz_i 0)))]) := hD
  refine W.eq (g2 := F0 m 63 ls [.ref (q7), .ref (h)]) rfl ?_
  refine va_putF (D := D) (ci := 3) (v := .ref (q7)) (ty := .array (.int)) (C := RX3) (T := TX3) (N := 23) hx hb hts hiX3 tyX3 tyX3_ok nmX3 hown hK hP hD hS 0 rfl rfl 12 (by decide) hf33 (fun _ h9 => h9) rfl hin rfl (by decide +kernel) rfl rfl (Nat.le_of_ble_eq_true rfl) dX3_init_63 (fun H locs hP hD hS => ?_)
  have hP : va_P D zz_cl ([(h, .inr (3, [.int (zz_i 0), .int (zz_i 0), .int (zz_i 0), .int (zz_i 0), .int (zz_i (60)), .ref (q1), .ref (q2), .int (zz_i 0), .ref (q3), .ref (q4), .ref (q5), .ref (q6), .ref (q7), .null, .int (zz_i 0), .null, .null, .null, .null, .int (zz_i 0), .int (zz_i 0), .null, .null])), (q1, .inl (cy 0, 40, .inl (fun _ => zz_i 0))), (q2, .inl (cy 1, 7, .inl (fun _ => zz_i 0))), (q3, .inl (cy 0, 61, .inl (fun _ => zz_i 0))), (q4, .inl (cy 0, 61, .inl (fun _ => zz_i 0))), (q5, .inl (cy 0, 61, .inl (fun _ => zz_i 0))), (q6, .inl (cy 0, 61, .inl (fun _ => zz_i 0))), (q7, .inl (cy 0, 61, .inl (fun _ => zz_i 0)))]) H := hP
  have hD : va_D A ([(h, .inr (3, [.int (zz_i 0), .int (zz_i 0), .int (zz_i 0), .int (zz_i 0), .int (zz_i (60)), .ref (q1), .ref (q2), .int (zz_i 0), .ref (q3), .ref (q4), .ref (q5), .ref (q6), .ref (q7), .null, .int (zz_i 0), .null, .null, .null, .null, .int (zz_i 0), .int (zz_i 0), .null, .null])), (q1, .inl (cy 0, 40, .inl (fun _ => zz_i 0))), (q2, .inl (cy 1, 7, .inl (fun _ => zz_i 0))), (q3, .inl (cy 0, 61, .inl (fun _ => zz_i 0))), (q4, .inl (cy 0, 61, .inl (fun _ => zz_i 0))), (q5, .inl (cy 0, 61, .inl (fun _ => zz_i 0))), (q6, .inl (cy 0, 61, .inl (fun _ => zz_i 0))), (q7, .inl (cy 0, 61, .inl (fun _ => zz_i 0)))]) := hD
  refine lv_aload_n hx hb dX3_init_66 rfl (lv_at hl 0 rfl) ?_
  refine lv_bipush (v := zz_i (61)) hx hb dX3_init_67 (by decide) ?_
  refine va_newa (atype := .int) (N' := 61) (a0 := (61, .inl (fun _ => zz_i 0))) (ty := .int) (n := zz_i (61)) hx hb (hts (.arrayClass .int) (by decide +kernel)) rfl hK hP hD hS hA (fun _ => rfl) (by decide) rfl (show 61 * 4 ≤ 536870912 by omega) (Nat.le_of_ble_eq_true rfl) (Nat.le_of_ble_eq_true rfl) dX3_init_69 (fun q8 cA H hK5 hP hD hS => ?_)
  obtain rfl := ka_i hK5
  have hP : va_P D zz_cl ([(h, .inr (3, [.int (zz_i 0), .int (zz_i 0), .int (zz_i 0), .int (zz_i 0), .int (zz_i (60)), .ref (q1), .ref (q2), .int (zz_i 0), .ref (q3), .ref (q4), .ref (q5), .ref (q6), .ref (q7), .null, .int (zz_i 0), .null, .null, .null, .null, .int (zz_i 0), .int (zz_i 0), .null, .null])), (q1, .inl (cy 0, 40, .inl (fun _ => zz_i 0))), (q2, .inl (cy 1, 7, .inl (fun _ => zz_i 0))), (q3, .inl (cy 0, 61, .inl (fun _ => zz_i 0))), (q4, .inl (cy 0, 61, .inl (fun _ => zz_i 0))), (q5, .inl (cy 0, 61, .inl (fun _ => zz_i 0))), (q6, .inl (cy 0, 61, .inl (fun _ => zz_i 0))), (q7, .inl (cy 0, 61, .inl (fun _ => zz_i 0))), (q8, .inl (cy 0, 61, .inl (fun _ => zz_i 0)))]) H := hP
  have hD : va_D A ([(h, .inr (3, [.int (zz_i 0), .int (zz_i 0), .int (zz_i 0), .int (zz_i 0), .int (zz_i (60)), .ref (q1), .ref (q2), .int (zz_i 0), .ref (q3), .ref (q4), .ref (q5), .ref (q6), .ref (q7), .null, .int (zz_i 0), .null, .null, .null, .null, .int (zz_i 0), .int (zz_i 0), .null, .null])), (q1, .inl (cy 0, 40, .inl (fun _ => zz_i 0))), (q2, .inl (cy 1, 7, .inl (fun _ => zz_i 0))), (q3, .inl (cy 0, 61, .inl (fun _ => zz_i 0))), (q4, .inl (cy 0, 61, .inl (fun _ => zz_i 0))), (q5, .inl (cy 0, 61, .inl (fun _ => zz_i 0))), (q6, .inl (cy 0, 61, .inl (fun _ => zz_i 0))), (q7, .inl (cy 0, 61, .inl (fun _ => zz_i 0))), (q8, .inl (cy 0, 61, .inl (fun _ => zz_i 0)))]) := hD
  refine W.eq (g2 := F0 m 71 ls [.ref (q8), .ref (h)]) rfl ?_
  refine va_putF (D := D) (ci := 3) (v := .ref (q8)) (ty := .array (.int)) (C := RX3) (T := TX3) (N := 23) hx hb hts hiX3 tyX3 tyX3_ok nmX3 hown hK hP hD hS 0 rfl rfl 13 (by decide) hf36 (fun _ h9 => h9) rfl hin rfl (by decide +kernel) rfl rfl (Nat.le_of_ble_eq_true rfl) dX3_init_71 (fun H locs hP hD hS => ?_)
  have hP : va_P D zz_cl ([(h, .inr (3, [.int (zz_i 0), .int (zz_i 0), .int (zz_i 0), .int (zz_i 0), .int (zz_i (60)), .ref (q1), .ref (q2), .int (zz_i 0), .ref (q3), .ref (q4), .ref (q5), .ref (q6), .ref (q7), .ref (q8), .int (zz_i 0), .null, .null, .null, .null, .int (zz_i 0), .int (zz_i 0), .null, .null])), (q1, .inl (cy 0, 40, .inl (fun _ => zz_i 0))), (q2, .inl (cy 1, 7, .inl (fun _ => zz_i 0))), (q3, .inl (cy 0, 61, .inl (fun _ => zz_i 0))), (q4, .inl (cy 0, 61, .inl (fun _ => zz_i 0))), (q5, .inl (cy 0, 61, .inl (fun _ => zz_i 0))), (q6, .inl (cy 0, 61, .inl (fun _ => zz_i 0))), (q7, .inl (cy 0, 61, .inl (fun _ => zz_i 0))), (q8, .inl (cy 0, 61, .inl (fun _ => zz_i 0)))]) H := hP
  have hD : va_D A ([(h, .inr (3, [.int (zz_i 0), .int (zz_i 0), .int (zz_i 0), .int (zz_i 0), .int (zz_i (60)), .ref (q1), .ref (q2), .int (zz_i 0), .ref (q3), .ref (q4), .ref (q5), .ref (q6), .ref (q7), .ref (q8), .int (zz_i 0), .null, .null, .null, .null, .int (zz_i 0), .int (zz_i 0), .null, .null])), (q1, .inl (cy 0, 40, .inl (fun _ => zz_i 0))), (q2, .inl (cy 1, 7, .inl (fun _ => zz_i 0))), (q3, .inl (cy 0, 61, .inl (fun _ => zz_i 0))), (q4, .inl (cy 0, 61, .inl (fun _ => zz_i 0))), (q5, .inl (cy 0, 61, .inl (fun _ => zz_i 0))), (q6, .inl (cy 0, 61, .inl (fun _ => zz_i 0))), (q7, .inl (cy 0, 61, .inl (fun _ => zz_i 0))), (q8, .inl (cy 0, 61, .inl (fun _ => zz_i 0)))]) := hD
  refine lv_aload_n hx hb dX3_init_74 rfl (lv_at hl 0 rfl) ?_
  refine lv_bipush (v := zz_i (60)) hx hb dX3_init_75 (by decide) ?_
  refine va_newa (atype := .int) (N' := 60) (a0 := (60, .inl (fun _ => zz_i 0))) (ty := .int) (n := zz_i (60)) hx hb (hts (.arrayClass .int) (by decide +kernel)) rfl hK hP hD hS hA (fun _ => rfl) (by decide) rfl (show 60 * 4 ≤ 536870912 by omega) (Nat.le_of_ble_eq_true rfl) (Nat.le_of_ble_eq_true rfl) dX3_init_77 (fun q9 cA H hK5 hP hD hS => ?_)
  obtain rfl := ka_i hK5
  have hP : va_P D zz_cl ([(h, .inr (3, [.int (zz_i 0), .int (zz_i 0), .int (zz_i 0), .int (zz_i 0), .int (zz_i (60)), .ref (q1), .ref (q2), .int (zz_i 0), .ref (q3), .ref (q4), .ref (q5), .ref (q6), .ref (q7), .ref (q8), .int (zz_i 0), .null, .null, .null, .null, .int (zz_i 0), .int (zz_i 0), .null, .null])), (q1, .inl (cy 0, 40, .inl (fun _ => zz_i 0))), (q2, .inl (cy 1, 7, .inl (fun _ => zz_i 0))), (q3, .inl (cy 0, 61, .inl (fun _ => zz_i 0))), (q4, .inl (cy 0, 61, .inl (fun _ => zz_i 0))), (q5, .inl (cy 0, 61, .inl (fun _ => zz_i 0))), (q6, .inl (cy 0, 61, .inl (fun _ => zz_i 0))), (q7, .inl (cy 0, 61, .inl (fun _ => zz_i 0))), (q8, .inl (cy 0, 61, .inl (fun _ => zz_i 0))), (q9, .inl (cy 0, 60, .inl (fun _ => zz_i 0)))]) H := hP
  have hD : va_D A ([(h, .inr (3, [.int (zz_i 0), .int (zz_i 0), .int (zz_i 0), .int (zz_i 0), .int (zz_i (60)), .ref (q1), .ref (q2), .int (zz_i 0), .ref (q3), .ref (q4), .ref (q5), .ref (q6), .ref (q7), .ref (q8), .int (zz_i 0), .null, .null, .null, .null, .int (zz_i 0), .int (zz_i 0), .null, .null])), (q1, .inl (cy 0, 40, .inl (fun _ => zz_i 0))), (q2, .inl (cy 1, 7, .inl (fun _ => zz_i 0))), (q3, .inl (cy 0, 61, .inl (fun _ => zz_i 0))), (q4, .inl (cy 0, 61, .inl (fun _ => zz_i 0))), (q5, .inl (cy 0, 61, .inl (fun _ => zz_i 0))), (q6, .inl (cy 0, 61, .inl (fun _ => zz_i 0))), (q7, .inl (cy 0, 61, .inl (fun _ => zz_i 0))), (q8, .inl (cy 0, 61, .inl (fun _ => zz_i 0))), (q9, .inl (cy 0, 60, .inl (fun _ => zz_i 0)))]) := hD
  refine W.eq (g2 := F0 m 79 ls [.ref (q9), .ref (h)]) rfl ?_
  refine va_putF (D := D) (ci := 3) (v := .ref (q9)) (ty := .array (.int)) (C := RX3) (T := TX3) (N := 23) hx hb hts hiX3 tyX3 tyX3_ok nmX3 hown hK hP hD hS 0 rfl rfl 15 (by decide) hf39 (fun _ h9 => h9) rfl hin rfl (by decide +kernel) rfl rfl (Nat.le_of_ble_eq_true rfl) dX3_init_79 (fun H locs hP hD hS => ?_)
  have hP : va_P D zz_cl ([(h, .inr (3, [.int (zz_i 0), .int (zz_i 0), .int (zz_i 0), .int (zz_i 0), .int (zz_i (60)), .ref (q1), .ref (q2), .int (zz_i 0), .ref (q3), .ref (q4), .ref (q5), .ref (q6), .ref (q7), .ref (q8), .int (zz_i 0), .ref (q9), .null, .null, .null, .int (zz_i 0), .int (zz_i 0), .null, .null])), (q1, .inl (cy 0, 40, .inl (fun _ => zz_i 0))), (q2, .inl (cy 1, 7, .inl (fun _ => zz_i 0))), (q3, .inl (cy 0, 61, .inl (fun _ => zz_i 0))), (q4, .inl (cy 0, 61, .inl (fun _ => zz_i 0))), (q5, .inl (cy 0, 61, .inl (fun _ => zz_i 0))), (q6, .inl (cy 0, 61, .inl (fun _ => zz_i 0))), (q7, .inl (cy 0, 61, .inl (fun _ => zz_i 0))), (q8, .inl (cy 0, 61, .inl (fun _ => zz_i 0))), (q9, .inl (cy 0, 60, .inl (fun _ => zz_i 0)))]) H := hP
  have hD : va_D A ([(h, .inr (3, [.int (zz_i 0), .int (zz_i 0), .int (zz_i 0), .int (zz_i 0), .int (zz_i (60)), .ref (q1), .ref (q2), .int (zz_i 0), .ref (q3), .ref (q4), .ref (q5), .ref (q6), .ref (q7), .ref (q8), .int (zz_i 0), .ref (q9), .null, .null, .null, .int (zz_i 0), .int (zz_i 0), .null, .null])), (q1, .inl (cy 0, 40, .inl (fun _ => zz_i 0))), (q2, .inl (cy 1, 7, .inl (fun _ => zz_i 0))), (q3, .inl (cy 0, 61, .inl (fun _ => zz_i 0))), (q4, .inl (cy 0, 61, .inl (fun _ => zz_i 0))), (q5, .inl (cy 0, 61, .inl (fun _ => zz_i 0))), (q6, .inl (cy 0, 61, .inl (fun _ => zz_i 0))), (q7, .inl (cy 0, 61, .inl (fun _ => zz_i 0))), (q8, .inl (cy 0, 61, .inl (fun _ => zz_i 0))), (q9, .inl (cy 0, 60, .inl (fun _ => zz_i 0)))]) := hD
  refine lv_aload_n hx hb dX3_init_82 rfl (lv_at hl 0 rfl) ?_
  refine lv_bipush (v := zz_i (60)) hx hb dX3_init_83 (by decide) ?_
  refine va_newa (atype := .int) (N' := 60) (a0 := (60, .inl (fun _ => zz_i 0))) (ty := .int) (n := zz_i (60)) hx hb (hts (.arrayClass .int) (by decide +kernel)) rfl hK hP hD hS hA (fun _ => rfl) (by decide) rfl (show 60 * 4 ≤ 536870912 by omega) (Nat.le_of_ble_eq_true rfl) (Nat.le_of_ble_eq_true rfl) dX3_init_85 (fun q10 cA H hK5 hP hD hS => ?_)
  obtain rfl := ka_i hK5
  have hP : va_P D zz_cl ([(h, .inr (3, [.int (zz_i 0), .int (zz_i 0), .int (zz_i 0), .int (zz_i 0), .int (zz_i (60)), .ref (q1), .ref (q2), .int (zz_i 0), .ref (q3), .ref (q4), .ref (q5), .ref (q6), .ref (q7), .ref (q8), .int (zz_i 0), .ref (q9), .null, .null, .null, .int (zz_i 0), .int (zz_i 0), .null, .null])), (q1, .inl (cy 0, 40, .inl (fun _ => zz_i 0))), (q2, .inl (cy 1, 7, .inl (fun _ => zz_i 0))), (q3, .inl (cy 0, 61, .inl (fun _ => zz_i 0))), (q4, .inl (cy 0, 61, .inl (fun _ => zz_i 0))), (q5, .inl (cy 0, 61, .inl (fun _ => zz_i 0))), (q6, .inl (cy 0, 61, .inl (fun _ => zz_i 0))), (q7, .inl (cy 0, 61, .inl (fun _ => zz_i 0))), (q8, .inl (cy 0, 61, .inl (fun _ => zz_i 0))), (q9, .inl (cy 0, 60, .inl (fun _ => zz_i 0))), (q10, .inl (cy 0, 60, .inl (fun _ => zz_i 0)))]) H := hP
  have hD : va_D A ([(h, .inr (3, [.int (zz_i 0), .int (zz_i 0), .int (zz_i 0), .int (zz_i 0), .int (zz_i (60)), .ref (q1), .ref (q2), .int (zz_i 0), .ref (q3), .ref (q4), .ref (q5), .ref (q6), .ref (q7), .ref (q8), .int (zz_i 0), .ref (q9), .null, .null, .null, .int (zz_i 0), .int (zz_i 0), .null, .null])), (q1, .inl (cy 0, 40, .inl (fun _ => zz_i 0))), (q2, .inl (cy 1, 7, .inl (fun _ => zz_i 0))), (q3, .inl (cy 0, 61, .inl (fun _ => zz_i 0))), (q4, .inl (cy 0, 61, .inl (fun _ => zz_i 0))), (q5, .inl (cy 0, 61, .inl (fun _ => zz_i 0))), (q6, .inl (cy 0, 61, .inl (fun _ => zz_i 0))), (q7, .inl (cy 0, 61, .inl (fun _ => zz_i 0))), (q8, .inl (cy 0, 61, .inl (fun _ => zz_i 0))), (q9, .inl (cy 0, 60, .inl (fun _ => zz_i 0))), (q10, .inl (cy 0, 60, .inl (fun _ => zz_i 0)))]) := hD
  refine W.eq (g2 := F0 m 87 ls [.ref (q10), .ref (h)]) rfl ?_
  refine va_putF (D := D) (ci := 3) (v := .ref (q10)) (ty := .array (.int)) (C := RX3) (T := TX3) (N := 23) hx hb hts hiX3 tyX3 tyX3_ok nmX3 hown hK hP hD hS 0 rfl rfl 16 (by decide) hf42 (fun _ h9 => h9) rfl hin rfl (by decide +kernel) rfl rfl (Nat.le_of_ble_eq_true rfl) dX3_init_87 (fun H locs hP hD hS => ?_)
  have hP : va_P D zz_cl ([(h, .inr (3, [.int (zz_i 0), .int (zz_i 0), .int (zz_i 0), .int (zz_i 0), .int (zz_i (60)), .ref (q1), .ref (q2), .int (zz_i 0), .ref (q3), .ref (q4), .ref (q5), .ref (q6), .ref (q7), .ref (q8), .int (zz_i 0), .ref (q9), .ref (q10), .null, .null, .int (zz_i 0), .int (zz_i 0), .null, .null])), (q1, .inl (cy 0, 40, .inl (fun _ => zz_i 0))), (q2, .inl (cy 1, 7, .inl (fun _ => zz_i 0))), (q3, .inl (cy 0, 61, .inl (fun _ => zz_i 0))), (q4, .inl (cy 0, 61, .inl (fun _ => zz_i 0))), (q5, .inl (cy 0, 61, .inl (fun _ => zz_i 0))), (q6, .inl (cy 0, 61, .inl (fun _ => zz_i 0))), (q7, .inl (cy 0, 61, .inl (fun _ => zz_i 0))), (q8, .inl (cy 0, 61, .inl (fun _ => zz_i 0))), (q9, .inl (cy 0, 60, .inl (fun _ => zz_i 0))), (q10, .inl (cy 0, 60, .inl (fun _ => zz_i 0)))]) H := hP
  have hD : va_D A ([(h, .inr (3, [.int (zz_i 0), .int (zz_i 0), .int (zz_i 0), .int (zz_i 0), .int (zz_i (60)), .ref (q1), .ref (q2), .int (zz_i 0), .ref (q3), .ref (q4), .ref (q5), .ref (q6), .ref (q7), .ref (q8), .int (zz_i 0), .ref (q9), .ref (q10), .null, .null, .int (zz_i 0), .int (zz_i 0), .null, .null])), (q1, .inl (cy 0, 40, .inl (fun _ => zz_i 0))), (q2, .inl (cy 1, 7, .inl (fun _ => zz_i 0))), (q3, .inl (cy 0, 61, .inl (fun _ => zz_i 0))), (q4, .inl (cy 0, 61, .inl (fun _ => zz_i 0))), (q5, .inl (cy 0, 61, .inl (fun _ => zz_i 0))), (q6, .inl (cy 0, 61, .inl (fun _ => zz_i 0))), (q7, .inl (cy 0, 61, .inl (fun _ => zz_i 0))), (q8, .inl (cy 0, 61, .inl (fun _ => zz_i 0))), (q9, .inl (cy 0, 60, .inl (fun _ => zz_i 0))), (q10, .inl (cy 0, 60, .inl (fun _ => zz_i 0)))]) := hD
  refine lv_aload_n hx hb dX3_init_90 rfl (lv_at hl 0 rfl) ?_
  refine lv_bipush (v := zz_i (60)) hx hb dX3_init_91 (by decide) ?_
  refine va_newa (atype := .int) (N' := 60) (a0 := (60, .inl (fun _ => zz_i 0))) (ty := .int) (n := zz_i (60)) hx hb (hts (.arrayClass .int) (by decide +kernel)) rfl hK hP hD hS hA (fun _ => rfl) (by decide) rfl (show 60 * 4 ≤ 536870912 by omega) (Nat.le_of_ble_eq_true rfl) (Nat.le_of_ble_eq_true rfl) dX3_init_93 (fun q11 cA H hK5 hP hD hS => ?_)
  obtain rfl := ka_i hK5
  have hP : va_P D zz_cl ([(h, .inr (3, [.int (zz_i 0), .int (zz_i 0), .int (zz_i 0), .int (zz_i 0), .int (zz_i (60)), .ref (q1), .ref (q2), .int (zz_i 0), .ref (q3), .ref (q4), .ref (q5), .ref (q6), .ref (q7), .ref (q8), .int (zz_i 0), .ref (q9), .ref (q10), .null, .null, .int (zz_i 0), .int (zz_i 0), .null, .null])), (q1, .inl (cy 0, 40, .inl (fun _ => zz_i 0))), (q2, .inl (cy 1, 7, .inl (fun _ => zz_i 0))), (q3, .inl (cy 0, 61, .inl (fun _ => zz_i 0))), (q4, .inl (cy 0, 61, .inl (fun _ => zz_i 0))), (q5, .inl (cy 0, 61, .inl (fun _ => zz_i 0))), (q6, .inl (cy 0, 61, .inl (fun _ => zz_i 0))), (q7, .inl (cy 0, 61, .inl (fun _ => zz_i 0))), (q8, .inl (cy 0, 61, .inl (fun _ => zz_i 0))), (q9, .inl (cy 0, 60, .inl (fun _ => zz_i 0))), (q10, .inl (cy 0, 60, .inl (fun _ => zz_i 0))), (q11, .inl (cy 0, 60, .inl (fun _ => zz_i 0)))]) H := hP
  have hD : va_D A ([(h, .inr (3, [.int (zz_i 0), .int (zz_i 0), .int (zz_i 0), .int (zz_i 0), .int (zz_i (60)), .ref (q1), .ref (q2), .int (zz_i 0), .ref (q3), .ref (q4), .ref (q5), .ref (q6), .ref (q7), .ref (q8), .int (zz_i 0), .ref (q9), .ref (q10), .null, .null, .int (zz_i 0), .int (zz_i 0), .null, .null])), (q1, .inl (cy 0, 40, .inl (fun _ => zz_i 0))), (q2, .inl (cy 1, 7, .inl (fun _ => zz_i 0))), (q3, .inl (cy 0, 61, .inl (fun _ => zz_i 0))), (q4, .inl (cy 0, 61, .inl (fun _ => zz_i 0))), (q5, .inl (cy 0, 61, .inl (fun _ => zz_i 0))), (q6, .inl (cy 0, 61, .inl (fun _ => zz_i 0))), (q7, .inl (cy 0, 61, .inl (fun _ => zz_i 0))), (q8, .inl (cy 0, 61, .inl (fun _ => zz_i 0))), (q9, .inl (cy 0, 60, .inl (fun _ => zz_i 0))), (q10, .inl (cy 0, 60, .inl (fun _ => zz_i 0))), (q11, .inl (cy 0, 60, .inl (fun _ => zz_i 0)))]) := hD
  refine W.eq (g2 := F0 m 95 ls [.ref (q11), .ref (h)]) rfl ?_
  refine va_putF (D := D) (ci := 3) (v := .ref (q11)) (ty := .array (.int)) (C := RX3) (T := TX3) (N := 23) hx hb hts hiX3 tyX3 tyX3_ok nmX3 hown hK hP hD hS 0 rfl rfl 17 (by decide) hf45 (fun _ h9 => h9) rfl hin rfl (by decide +kernel) rfl rfl (Nat.le_of_ble_eq_true rfl) dX3_init_95 (fun H locs hP hD hS => ?_)
  have hP : va_P D zz_cl ([(h, .inr (3, [.int (zz_i 0), .int (zz_i 0), .int (zz_i 0), .int (zz_i 0), .int (zz_i (60)), .ref (q1), .ref (q2), .int (zz_i 0), .ref (q3), .ref (q4), .ref (q5), .ref (q6), .ref (q7), .ref (q8), .int (zz_i 0), .ref (q9), .ref (q10), .ref (q11), .null, .int (zz_i 0), .int (zz_i 0), .null, .null])), (q1, .inl (cy 0, 40, .inl (fun _ => zz_i 0))), (q2, .inl (cy 1, 7, .inl (fun _ => zz_i 0))), (q3, .inl (cy 0, 61, .inl (fun _ => zz_i 0))), (q4, .inl (cy 0, 61, .inl (fun _ => zz_i 0))), (q5, .inl (cy 0, 61, .inl (fun _ => zz_i 0))), (q6, .inl (cy 0, 61, .inl (fun _ => zz_i 0))), (q7, .inl (cy 0, 61, .inl (fun _ => zz_i 0))), (q8, .inl (cy 0, 61, .inl (fun _ => zz_i 0))), (q9, .inl (cy 0, 60, .inl (fun _ => zz_i 0))), (q10, .inl (cy 0, 60, .inl (fun _ => zz_i 0))), (q11, .inl (cy 0, 60, .inl (fun _ => zz_i 0)))]) H := hP
  have hD : va_D A ([(h, .inr (3, [.int (zz_i 0), .int (zz_i 0), .int (zz_i 0), .int (zz_i 0), .int (zz_i (60)), .ref (q1), .ref (q2), .int (zz_i 0), .ref (q3), .ref (q4), .ref (q5), .ref (q6), .ref (q7), .ref (q8), .int (zz_i 0), .ref (q9), .ref (q10), .ref (q11), .null, .int (zz_i 0), .int (zz_i 0), .null, .null])), (q1, .inl (cy 0, 40, .inl (fun _ => zz_i 0))), (q2, .inl (cy 1, 7, .inl (fun _ => zz_i 0))), (q3, .inl (cy 0, 61, .inl (fun _ => zz_i 0))), (q4, .inl (cy 0, 61, .inl (fun _ => zz_i 0))), (q5, .inl (cy 0, 61, .inl (fun _ => zz_i 0))), (q6, .inl (cy 0, 61, .inl (fun _ => zz_i 0))), (q7, .inl (cy 0, 61, .inl (fun _ => zz_i 0))), (q8, .inl (cy 0, 61, .inl (fun _ => zz_i 0))), (q9, .inl (cy 0, 60, .inl (fun _ => zz_i 0))), (q10, .inl (cy 0, 60, .inl (fun _ => zz_i 0))), (q11, .inl (cy 0, 60, .inl (fun _ => zz_i 0)))]) := hD
  refine lv_aload_n hx hb dX3_init_98 rfl (lv_at hl 0 rfl) ?_
  refine lv_bipush (v := zz_i (60)) hx hb dX3_init_99 (by decide) ?_
  refine va_newa (atype := .int) (N' := 60) (a0 := (60, .inl (fun _ => zz_i 0))) (ty := .int) (n := zz_i (60)) hx hb (hts (.arrayClass .int) (by decide +kernel)) rfl hK hP hD hS hA (fun _ => rfl) (by decide) rfl (show 60 * 4 ≤ 536870912 by omega) (Nat.le_of_ble_eq_true rfl) (Nat.le_of_ble_eq_true rfl) dX3_init_101 (fun q12 cA H hK5 hP hD hS => ?_)
  obtain rfl := ka_i hK5
  have hP : va_P D zz_cl ([(h, .inr (3, [.int (zz_i 0), .int (zz_i 0), .int (zz_i 0), .int (zz_i 0), .int (zz_i (60)), .ref (q1), .ref (q2), .int (zz_i 0), .ref (q3), .ref (q4), .ref (q5), .ref (q6), .ref (q7), .ref (q8), .int (zz_i 0), .ref (q9), .ref (q10), .ref (q11), .null, .int (zz_i 0), .int (zz_i 0), .null, .null])), (q1, .inl (cy 0, 40, .inl (fun _ => zz_i 0))), (q2, .inl (cy 1, 7, .inl (fun _ => zz_i 0))), (q3, .inl (cy 0, 61, .inl (fun _ => zz_i 0))), (q4, .inl (cy 0, 61, .inl (fun _ => zz_i 0))), (q5, .inl (cy 0, 61, .inl (fun _ => zz_i 0))), (q6, .inl (cy 0, 61, .inl (fun _ => zz_i 0))), (q7, .inl (cy 0, 61, .inl (fun _ => zz_i 0))), (q8, .inl (cy 0, 61, .inl (fun _ => zz_i 0))), (q9, .inl (cy 0, 60, .inl (fun _ => zz_i 0))), (q10, .inl (cy 0, 60, .inl (fun _ => zz_i 0))), (q11, .inl (cy 0, 60, .inl (fun _ => zz_i 0))), (q12, .inl (cy 0, 60, .inl (fun _ => zz_i 0)))]) H := hP
  have hD : va_D A ([(h, .inr (3, [.int (zz_i 0), .int (zz_i 0), .int (zz_i 0), .int (zz_i 0), .int (zz_i (60)), .ref (q1), .ref (q2), .int (zz_i 0), .ref (q3), .ref (q4), .ref (q5), .ref (q6), .ref (q7), .ref (q8), .int (zz_i 0), .ref (q9), .ref (q10), .ref (q11), .null, .int (zz_i 0), .int (zz_i 0), .null, .null])), (q1, .inl (cy 0, 40, .inl (fun _ => zz_i 0))), (q2, .inl (cy 1, 7, .inl (fun _ => zz_i 0))), (q3, .inl (cy 0, 61, .inl (fun _ => zz_i 0))), (q4, .inl (cy 0, 61, .inl (fun _ => zz_i 0))), (q5, .inl (cy 0, 61, .inl (fun _ => zz_i 0))), (q6, .inl (cy 0, 61, .inl (fun _ => zz_i 0))), (q7, .inl (cy 0, 61, .inl (fun _ => zz_i 0))), (q8, .inl (cy 0, 61, .inl (fun _ => zz_i 0))), (q9, .inl (cy 0, 60, .inl (fun _ => zz_i 0))), (q10, .inl (cy 0, 60, .inl (fun _ => zz_i 0))), (q11, .inl (cy 0, 60, .inl (fun _ => zz_i 0))), (q12, .inl (cy 0, 60, .inl (fun _ => zz_i 0)))]) := hD
  refine W.eq (g2 := F0 m 103 ls [.ref (q12), .ref (h)]) rfl ?_
  refine va_putF (D := D) (ci := 3) (v := .ref (q12)) (ty := .array (.int)) (C := RX3) (T := TX3) (N := 23) hx hb hts hiX3 tyX3 tyX3_ok nmX3 hown hK hP hD hS 0 rfl rfl 18 (by decide) hf48 (fun _ h9 => h9) rfl hin rfl (by decide +kernel) rfl rfl (Nat.le_of_ble_eq_true rfl) dX3_init_103 (fun H locs hP hD hS => ?_)
  have hP : va_P D zz_cl ([(h, .inr (3, [.int (zz_i 0), .int (zz_i 0), .int (zz_i 0), .int (zz_i 0), .int (zz_i (60)), .ref (q1), .ref (q2), .int (zz_i 0), .ref (q3), .ref (q4), .ref (q5), .ref (q6), .ref (q7), .ref (q8), .int (zz_i 0), .ref (q9), .ref (q10), .ref (q11), .ref (q12), .int (zz_i 0), .int (zz_i 0), .null, .null])), (q1, .inl (cy 0, 40, .inl (fun _ => zz_i 0))), (q2, .inl (cy 1, 7, .inl (fun _ => zz_i 0))), (q3, .inl (cy 0, 61, .inl (fun _ => zz_i 0))), (q4, .inl (cy 0, 61, .inl (fun _ => zz_i 0))), (q5, .inl (cy 0, 61, .inl (fun _ => zz_i 0))), (q6, .inl (cy 0, 61, .inl (fun _ => zz_i 0))), (q7, .inl (cy 0, 61, .inl (fun _ => zz_i 0))), (q8, .inl (cy 0, 61, .inl (fun _ => zz_i 0))), (q9, .inl (cy 0, 60, .inl (fun _ => zz_i 0))), (q10, .inl (cy 0, 60, .inl (fun _ => zz_i 0))), (q11, .inl (cy 0, 60, .inl (fun _ => zz_i 0))), (q12, .inl (cy 0, 60, .inl (fun _ => zz_i 0)))]) H := hP
  have hD : va_D A ([(h, .inr (3, [.int (zz_i 0), .int (zz_i 0), .int (zz_i 0), .int (zz_i 0), .int (zz_i (60)), .ref (q1), .ref (q2), .int (zz_i 0), .ref (q3), .ref (q4), .ref (q5), .ref (q6), .ref (q7), .ref (q8), .int (zz_i 0), .ref (q9), .ref (q10), .ref (q11), .ref (q12), .int (zz_i 0), .int (zz_i 0), .null, .null])), (q1, .inl (cy 0, 40, .inl (fun _ => zz_i 0))), (q2, .inl (cy 1, 7, .inl (fun _ => zz_i 0))), (q3, .inl (cy 0, 61, .inl (fun _ => zz_i 0))), (q4, .inl (cy 0, 61, .inl (fun _ => zz_i 0))), (q5, .inl (cy 0, 61, .inl (fun _ => zz_i 0))), (q6, .inl (cy 0, 61, .inl (fun _ => zz_i 0))), (q7, .inl (cy 0, 61, .inl (fun _ => zz_i 0))), (q8, .inl (cy 0, 61, .inl (fun _ => zz_i 0))), (q9, .inl (cy 0, 60, .inl (fun _ => zz_i 0))), (q10, .inl (cy 0, 60, .inl (fun _ => zz_i 0))), (q11, .inl (cy 0, 60, .inl (fun _ => zz_i 0))), (q12, .inl (cy 0, 60, .inl (fun _ => zz_i 0)))]) := hD
  refine lv_aload_n hx hb dX3_init_106 rfl (lv_at hl 0 rfl) ?_
  refine lv_bipush (v := zz_i (40)) hx hb dX3_init_107 (by decide) ?_
  refine va_newa (atype := .int) (N' := 40) (a0 := (40, .inl (fun _ => zz_i 0))) (ty := .int) (n := zz_i (40)) hx hb (hts (.arrayClass .int) (by decide +kernel)) rfl hK hP hD hS hA (fun _ => rfl) (by decide) rfl (show 40 * 4 ≤ 536870912 by omega) (Nat.le_of_ble_eq_true rfl) (Nat.le_of_ble_eq_true rfl) dX3_init_109 (fun q13 cA H hK5 hP hD hS => ?_)
  obtain rfl := ka_i hK5
  have hP : va_P D zz_cl ([(h, .inr (3, [.int (zz_i 0), .int (zz_i 0), .int (zz_i 0), .int (zz_i 0), .int (zz_i (60)), .ref (q1), .ref (q2), .int (zz_i 0), .ref (q3), .ref (q4), .ref (q5), .ref (q6), .ref (q7), .ref (q8), .int (zz_i 0), .ref (q9), .ref (q10), .ref (q11), .ref (q12), .int (zz_i 0), .int (zz_i 0), .null, .null])), (q1, .inl (cy 0, 40, .inl (fun _ => zz_i 0))), (q2, .inl (cy 1, 7, .inl (fun _ => zz_i 0))), (q3, .inl (cy 0, 61, .inl (fun _ => zz_i 0))), (q4, .inl (cy 0, 61, .inl (fun _ => zz_i 0))), (q5, .inl (cy 0, 61, .inl (fun _ => zz_i 0))), (q6, .inl (cy 0, 61, .inl (fun _ => zz_i 0))), (q7, .inl (cy 0, 61, .inl (fun _ => zz_i 0))), (q8, .inl (cy 0, 61, .inl (fun _ => zz_i 0))), (q9, .inl (cy 0, 60, .inl (fun _ => zz_i 0))), (q10, .inl (cy 0, 60, .inl (fun _ => zz_i 0))), (q11, .inl (cy 0, 60, .inl (fun _ => zz_i 0))), (q12, .inl (cy 0, 60, .inl (fun _ => zz_i 0))), (q13, .inl (cy 0, 40, .inl (fun _ => zz_i 0)))]) H := hP
  have hD : va_D A ([(h, .inr (3, [.int (zz_i 0), .int (zz_i 0), .int (zz_i 0), .int (zz_i 0), .int (zz_i (60)), .ref (q1), .ref (q2), .int (zz_i 0), .ref (q3), .ref (q4), .ref (q5), .ref (q6), .ref (q7), .ref (q8), .int (zz_i 0), .ref (q9), .ref (q10), .ref (q11), .ref (q12), .int (zz_i 0), .int (zz_i 0), .null, .null])), (q1, .inl (cy 0, 40, .inl (fun _ => zz_i 0))), (q2, .inl (cy 1, 7, .inl (fun _ => zz_i 0))), (q3, .inl (cy 0, 61, .inl (fun _ => zz_i 0))), (q4, .inl (cy 0, 61, .inl (fun _ => zz_i 0))), (q5, .inl (cy 0, 61, .inl (fun _ => zz_i 0))), (q6, .inl (cy 0, 61, .inl (fun _ => zz_i 0))), (q7, .inl (cy 0, 61, .inl (fun _ => zz_i 0))), (q8, .inl (cy 0, 61, .inl (fun _ => zz_i 0))), (q9, .inl (cy 0, 60, .inl (fun _ => zz_i 0))), (q10, .inl (cy 0, 60, .inl (fun _ => zz_i 0))), (q11, .inl (cy 0, 60, .inl (fun _ => zz_i 0))), (q12, .inl (cy 0, 60, .inl (fun _ => zz_i 0))), (q13, .inl (cy 0, 40, .inl (fun _ => zz_i 0)))]) := hD
  refine W.eq (g2 := F0 m 111 ls [.ref (q13), .ref (h)]) rfl ?_
  refine va_putF (D := D) (ci := 3) (v := .ref (q13)) (ty := .array (.int)) (C := RX3) (T := TX3) (N := 23) hx hb hts hiX3 tyX3 tyX3_ok nmX3 hown hK hP hD hS 0 rfl rfl 21 (by decide) hf51 (fun _ h9 => h9) rfl hin rfl (by decide +kernel) rfl rfl (Nat.le_of_ble_eq_true rfl) dX3_init_111 (fun H locs hP hD hS => ?_)
  have hP : va_P D zz_cl ([(h, .inr (3, [.int (zz_i 0), .int (zz_i 0), .int (zz_i 0), .int (zz_i 0), .int (zz_i (60)), .ref (q1), .ref (q2), .int (zz_i 0), .ref (q3), .ref (q4), .ref (q5), .ref (q6), .ref (q7), .ref (q8), .int (zz_i 0), .ref (q9), .ref (q10), .ref (q11), .ref (q12), .int (zz_i 0), .int (zz_i 0), .ref (q13), .null])), (q1, .inl (cy 0, 40, .inl (fun _ => zz_i 0))), (q2, .inl (cy 1, 7, .inl (fun _ => zz_i 0))), (q3, .inl (cy 0, 61, .inl (fun _ => zz_i 0))), (q4, .inl (cy 0, 61, .inl (fun _ => zz_i 0))), (q5, .inl (cy 0, 61, .inl (fun _ => zz_i 0))), (q6, .inl (cy 0, 61, .inl (fun _ => zz_i 0))), (q7, .inl (cy 0, 61, .inl (fun _ => zz_i 0))), (q8, .inl (cy 0, 61, .inl (fun _ => zz_i 0))), (q9, .inl (cy 0, 60, .inl (fun _ => zz_i 0))), (q10, .inl (cy 0, 60, .inl (fun _ => zz_i 0))), (q11, .inl (cy 0, 60, .inl (fun _ => zz_i 0))), (q12, .inl (cy 0, 60, .inl (fun _ => zz_i 0))), (q13, .inl (cy 0, 40, .inl (fun _ => zz_i 0)))]) H := hP
  have hD : va_D A ([(h, .inr (3, [.int (zz_i 0), .int (zz_i 0), .int (zz_i 0), .int (zz_i 0), .int (zz_i (60)), .ref (q1), .ref (q2), .int (zz_i 0), .ref (q3), .ref (q4), .ref (q5), .ref (q6), .ref (q7), .ref (q8), .int (zz_i 0), .ref (q9), .ref (q10), .ref (q11), .ref (q12), .int (zz_i 0), .int (zz_i 0), .ref (q13), .null])), (q1, .inl (cy 0, 40, .inl (fun _ => zz_i 0))), (q2, .inl (cy 1, 7, .inl (fun _ => zz_i 0))), (q3, .inl (cy 0, 61, .inl (fun _ => zz_i 0))), (q4, .inl (cy 0, 61, .inl (fun _ => zz_i 0))), (q5, .inl (cy 0, 61, .inl (fun _ => zz_i 0))), (q6, .inl (cy 0, 61, .inl (fun _ => zz_i 0))), (q7, .inl (cy 0, 61, .inl (fun _ => zz_i 0))), (q8, .inl (cy 0, 61, .inl (fun _ => zz_i 0))), (q9, .inl (cy 0, 60, .inl (fun _ => zz_i 0))), (q10, .inl (cy 0, 60, .inl (fun _ => zz_i 0))), (q11, .inl (cy 0, 60, .inl (fun _ => zz_i 0))), (q12, .inl (cy 0, 60, .inl (fun _ => zz_i 0))), (q13, .inl (cy 0, 40, .inl (fun _ => zz_i 0)))]) := hD
  refine lv_aload_n hx hb dX3_init_114 rfl (lv_at hl 0 rfl) ?_
  refine lv_bipush (v := zz_i (61)) hx hb dX3_init_115 (by decide) ?_
  refine va_newa (atype := .boolean) (N' := 61) (a0 := (61, .inl (fun _ => zz_i 0))) (ty := .boolean) (n := zz_i (61)) hx hb (hts (.arrayClass .boolean) (by decide +kernel)) rfl hK hP hD hS hA (fun _ => rfl) (by decide) rfl (show 61 * 1 ≤ 536870912 by omega) (Nat.le_of_ble_eq_true rfl) (Nat.le_of_ble_eq_true rfl) dX3_init_117 (fun q14 cA H hK5 hP hD hS => ?_)
  obtain rfl := ka_z hK5
  have hP : va_P D zz_cl ([(h, .inr (3, [.int (zz_i 0), .int (zz_i 0), .int (zz_i 0), .int (zz_i 0), .int (zz_i (60)), .ref (q1), .ref (q2), .int (zz_i 0), .ref (q3), .ref (q4), .ref (q5), .ref (q6), .ref (q7), .ref (q8), .int (zz_i 0), .ref (q9), .ref (q10), .ref (q11), .ref (q12), .int (zz_i 0), .int (zz_i 0), .ref (q13), .null])), (q1, .inl (cy 0, 40, .inl (fun _ => zz_i 0))), (q2, .inl (cy 1, 7, .inl (fun _ => zz_i 0))), (q3, .inl (cy 0, 61, .inl (fun _ => zz_i 0))), (q4, .inl (cy 0, 61, .inl (fun _ => zz_i 0))), (q5, .inl (cy 0, 61, .inl (fun _ => zz_i 0))), (q6, .inl (cy 0, 61, .inl (fun _ => zz_i 0))), (q7, .inl (cy 0, 61, .inl (fun _ => zz_i 0))), (q8, .inl (cy 0, 61, .inl (fun _ => zz_i 0))), (q9, .inl (cy 0, 60, .inl (fun _ => zz_i 0))), (q10, .inl (cy 0, 60, .inl (fun _ => zz_i 0))), (q11, .inl (cy 0, 60, .inl (fun _ => zz_i 0))), (q12, .inl (cy 0, 60, .inl (fun _ => zz_i 0))), (q13, .inl (cy 0, 40, .inl (fun _ => zz_i 0))), (q14, .inl (cy 1, 61, .inl (fun _ => zz_i 0)))]) H := hP
  have hD : va_D A ([(h, .inr (3, [.int (zz_i 0), .int (zz_i 0), .int (zz_i 0), .int (zz_i 0), .int (zz_i (60)), .ref (q1), .ref (q2), .int (zz_i 0), .ref (q3), .ref (q4), .ref (q5), .ref (q6), .ref (q7), .ref (q8), .int (zz_i 0), .ref (q9), .ref (q10), .ref (q11), .ref (q12), .int (zz_i 0), .int (zz_i 0), .ref (q13), .null])), (q1, .inl (cy 0, 40, .inl (fun _ => zz_i 0))), (q2, .inl (cy 1, 7, .inl (fun _ => zz_i 0))), (q3, .inl (cy 0, 61, .inl (fun _ => zz_i 0))), (q4, .inl (cy 0, 61, .inl (fun _ => zz_i 0))), (q5, .inl (cy 0, 61, .inl (fun _ => zz_i 0))), (q6, .inl (cy 0, 61, .inl (fun _ => zz_i 0))), (q7, .inl (cy 0, 61, .inl (fun _ => zz_i 0))), (q8, .inl (cy 0, 61, .inl (fun _ => zz_i 0))), (q9, .inl (cy 0, 60, .inl (fun _ => zz_i 0))), (q10, .inl (cy 0, 60, .inl (fun _ => zz_i 0))), (q11, .inl (cy 0, 60, .inl (fun _ => zz_i 0))), (q12, .inl (cy 0, 60, .inl (fun _ => zz_i 0))), (q13, .inl (cy 0, 40, .inl (fun _ => zz_i 0))), (q14, .inl (cy 1, 61, .inl (fun _ => zz_i 0)))]) := hD
  refine W.eq (g2 := F0 m 119 ls [.ref (q14), .ref (h)]) rfl ?_
  refine va_putF (D := D) (ci := 3) (v := .ref (q14)) (ty := .array (.boolean)) (C := RX3) (T := TX3) (N := 23) hx hb hts hiX3 tyX3 tyX3_ok nmX3 hown hK hP hD hS 0 rfl rfl 22 (by decide) hf54 (fun _ h9 => h9) rfl hin rfl (by decide +kernel) rfl rfl (Nat.le_of_ble_eq_true rfl) dX3_init_119 (fun H locs hP hD hS => ?_)
  have hP : va_P D zz_cl ([(h, .inr (3, [.int (zz_i 0), .int (zz_i 0), .int (zz_i 0), .int (zz_i 0), .int (zz_i (60)), .ref (q1), .ref (q2), .int (zz_i 0), .ref (q3), .ref (q4), .ref (q5), .ref (q6), .ref (q7), .ref (q8), .int (zz_i 0), .ref (q9), .ref (q10), .ref (q11), .ref (q12), .int (zz_i 0), .int (zz_i 0), .ref (q13), .ref (q14)])), (q1, .inl (cy 0, 40, .inl (fun _ => zz_i 0))), (q2, .inl (cy 1, 7, .inl (fun _ => zz_i 0))), (q3, .inl (cy 0, 61, .inl (fun _ => zz_i 0))), (q4, .inl (cy 0, 61, .inl (fun _ => zz_i 0))), (q5, .inl (cy 0, 61, .inl (fun _ => zz_i 0))), (q6, .inl (cy 0, 61, .inl (fun _ => zz_i 0))), (q7, .inl (cy 0, 61, .inl (fun _ => zz_i 0))), (q8, .inl (cy 0, 61, .inl (fun _ => zz_i 0))), (q9, .inl (cy 0, 60, .inl (fun _ => zz_i 0))), (q10, .inl (cy 0, 60, .inl (fun _ => zz_i 0))), (q11, .inl (cy 0, 60, .inl (fun _ => zz_i 0))), (q12, .inl (cy 0, 60, .inl (fun _ => zz_i 0))), (q13, .inl (cy 0, 40, .inl (fun _ => zz_i 0))), (q14, .inl (cy 1, 61, .inl (fun _ => zz_i 0)))]) H := hP
  have hD : va_D A ([(h, .inr (3, [.int (zz_i 0), .int (zz_i 0), .int (zz_i 0), .int (zz_i 0), .int (zz_i (60)), .ref (q1), .ref (q2), .int (zz_i 0), .ref (q3), .ref (q4), .ref (q5), .ref (q6), .ref (q7), .ref (q8), .int (zz_i 0), .ref (q9), .ref (q10), .ref (q11), .ref (q12), .int (zz_i 0), .int (zz_i 0), .ref (q13), .ref (q14)])), (q1, .inl (cy 0, 40, .inl (fun _ => zz_i 0))), (q2, .inl (cy 1, 7, .inl (fun _ => zz_i 0))), (q3, .inl (cy 0, 61, .inl (fun _ => zz_i 0))), (q4, .inl (cy 0, 61, .inl (fun _ => zz_i 0))), (q5, .inl (cy 0, 61, .inl (fun _ => zz_i 0))), (q6, .inl (cy 0, 61, .inl (fun _ => zz_i 0))), (q7, .inl (cy 0, 61, .inl (fun _ => zz_i 0))), (q8, .inl (cy 0, 61, .inl (fun _ => zz_i 0))), (q9, .inl (cy 0, 60, .inl (fun _ => zz_i 0))), (q10, .inl (cy 0, 60, .inl (fun _ => zz_i 0))), (q11, .inl (cy 0, 60, .inl (fun _ => zz_i 0))), (q12, .inl (cy 0, 60, .inl (fun _ => zz_i 0))), (q13, .inl (cy 0, 40, .inl (fun _ => zz_i 0))), (q14, .inl (cy 1, 61, .inl (fun _ => zz_i 0)))]) := hD
  refine lv_aload_n hx hb dX3_init_122 rfl (lv_at hl 0 rfl) ?_
  refine lv_iload_n hx hb dX3_init_123 rfl (lv_at hl 1 rfl) ?_
  refine lv_iconst (v := zz_i (2)) hx hb dX3_init_124 rfl ?_
  refine zz_icmp_ge (tgt := 132) hx hb dX3_init_125 (by decide) (by omega) (by omega) (fun c15 => ?_) (fun c15 => ?_)
  · refine lv_iload_n hx hb dX3_init_132 rfl (lv_at hl 1 rfl) ?_
    refine lv_bipush (v := zz_i (40)) hx hb dX3_init_133 (by decide) ?_
    refine zz_icmp_le (tgt := 143) hx hb dX3_init_135 (by decide) (by omega) (by omega) (fun c16 => ?_) (fun c16 => ?_)
    · refine lv_iload_n hx hb dX3_init_143 rfl (lv_at hl 1 rfl) ?_
      refine va_putF (D := D) (ci := 3) (v := .int (zz_i (t))) (ty := .int) (C := RX3) (T := TX3) (N := 23) hx hb hts hiX3 tyX3 tyX3_ok nmX3 hown hK hP hD hS 0 rfl rfl 1 (by decide) hf57 (fun _ h9 => h9) rfl hin rfl (by decide +kernel) rfl rfl (Nat.le_of_ble_eq_true rfl) dX3_init_144 (fun H locs hP hD hS => ?_)
      have hP : va_P D zz_cl ([(h, .inr (3, [.int (zz_i 0), .int (zz_i (t)), .int (zz_i 0), .int (zz_i 0), .int (zz_i (60)), .ref (q1), .ref (q2), .int (zz_i 0), .ref (q3), .ref (q4), .ref (q5), .ref (q6), .ref (q7), .ref (q8), .int (zz_i 0), .ref (q9), .ref (q10), .ref (q11), .ref (q12), .int (zz_i 0), .int (zz_i 0), .ref (q13), .ref (q14)])), (q1, .inl (cy 0, 40, .inl (fun _ => zz_i 0))), (q2, .inl (cy 1, 7, .inl (fun _ => zz_i 0))), (q3, .inl (cy 0, 61, .inl (fun _ => zz_i 0))), (q4, .inl (cy 0, 61, .inl (fun _ => zz_i 0))), (q5, .inl (cy 0, 61, .inl (fun _ => zz_i 0))), (q6, .inl (cy 0, 61, .inl (fun _ => zz_i 0))), (q7, .inl (cy 0, 61, .inl (fun _ => zz_i 0))), (q8, .inl (cy 0, 61, .inl (fun _ => zz_i 0))), (q9, .inl (cy 0, 60, .inl (fun _ => zz_i 0))), (q10, .inl (cy 0, 60, .inl (fun _ => zz_i 0))), (q11, .inl (cy 0, 60, .inl (fun _ => zz_i 0))), (q12, .inl (cy 0, 60, .inl (fun _ => zz_i 0))), (q13, .inl (cy 0, 40, .inl (fun _ => zz_i 0))), (q14, .inl (cy 1, 61, .inl (fun _ => zz_i 0)))]) H := hP
      have hD : va_D A ([(h, .inr (3, [.int (zz_i 0), .int (zz_i (t)), .int (zz_i 0), .int (zz_i 0), .int (zz_i (60)), .ref (q1), .ref (q2), .int (zz_i 0), .ref (q3), .ref (q4), .ref (q5), .ref (q6), .ref (q7), .ref (q8), .int (zz_i 0), .ref (q9), .ref (q10), .ref (q11), .ref (q12), .int (zz_i 0), .int (zz_i 0), .ref (q13), .ref (q14)])), (q1, .inl (cy 0, 40, .inl (fun _ => zz_i 0))), (q2, .inl (cy 1, 7, .inl (fun _ => zz_i 0))), (q3, .inl (cy 0, 61, .inl (fun _ => zz_i 0))), (q4, .inl (cy 0, 61, .inl (fun _ => zz_i 0))), (q5, .inl (cy 0, 61, .inl (fun _ => zz_i 0))), (q6, .inl (cy 0, 61, .inl (fun _ => zz_i 0))), (q7, .inl (cy 0, 61, .inl (fun _ => zz_i 0))), (q8, .inl (cy 0, 61, .inl (fun _ => zz_i 0))), (q9, .inl (cy 0, 60, .inl (fun _ => zz_i 0))), (q10, .inl (cy 0, 60, .inl (fun _ => zz_i 0))), (q11, .inl (cy 0, 60, .inl (fun _ => zz_i 0))), (q12, .inl (cy 0, 60, .inl (fun _ => zz_i 0))), (q13, .inl (cy 0, 40, .inl (fun _ => zz_i 0))), (q14, .inl (cy 1, 61, .inl (fun _ => zz_i 0)))]) := hD
      refine lv_aload_n hx hb dX3_init_147 rfl (lv_at hl 0 rfl) ?_
      refine lv_iload_n hx hb dX3_init_148 rfl (lv_at hl 2 rfl) ?_
      refine zz_if_ge (tgt := 156) hx hb dX3_init_149 (by decide) (by omega) (fun c17 => ?_) (fun c17 => ?_)
      · refine lv_iload_n hx hb dX3_init_156 rfl (lv_at hl 2 rfl) ?_
        refine lv_bipush (v := zz_i (9)) hx hb dX3_init_157 (by decide) ?_
        refine zz_icmp_le (tgt := 167) hx hb dX3_init_159 (by decide) (by omega) (by omega) (fun c18 => ?_) (fun c18 => ?_)
        · refine lv_iload_n hx hb dX3_init_167 rfl (lv_at hl 2 rfl) ?_
          refine va_putF (D := D) (ci := 3) (v := .int (zz_i (r))) (ty := .int) (C := RX3) (T := TX3) (N := 23) hx hb hts hiX3 tyX3 tyX3_ok nmX3 hown hK hP hD hS 0 rfl rfl 2 (by decide) hf60 (fun _ h9 => h9) rfl hin rfl (by decide +kernel) rfl rfl (Nat.le_of_ble_eq_true rfl) dX3_init_168 (fun H locs hP hD hS => ?_)
          have hP : va_P D zz_cl ([(h, .inr (3, [.int (zz_i 0), .int (zz_i (t)), .int (zz_i (r)), .int (zz_i 0), .int (zz_i (60)), .ref (q1), .ref (q2), .int (zz_i 0), .ref (q3), .ref (q4), .ref (q5), .ref (q6), .ref (q7), .ref (q8), .int (zz_i 0), .ref (q9), .ref (q10), .ref (q11), .ref (q12), .int (zz_i 0), .int (zz_i 0), .ref (q13), .ref (q14)])), (q1, .inl (cy 0, 40, .inl (fun _ => zz_i 0))), (q2, .inl (cy 1, 7, .inl (fun _ => zz_i 0))), (q3, .inl (cy 0, 61, .inl (fun _ => zz_i 0))), (q4, .inl (cy 0, 61, .inl (fun _ => zz_i 0))), (q5, .inl (cy 0, 61, .inl (fun _ => zz_i 0))), (q6, .inl (cy 0, 61, .inl (fun _ => zz_i 0))), (q7, .inl (cy 0, 61, .inl (fun _ => zz_i 0))), (q8, .inl (cy 0, 61, .inl (fun _ => zz_i 0))), (q9, .inl (cy 0, 60, .inl (fun _ => zz_i 0))), (q10, .inl (cy 0, 60, .inl (fun _ => zz_i 0))), (q11, .inl (cy 0, 60, .inl (fun _ => zz_i 0))), (q12, .inl (cy 0, 60, .inl (fun _ => zz_i 0))), (q13, .inl (cy 0, 40, .inl (fun _ => zz_i 0))), (q14, .inl (cy 1, 61, .inl (fun _ => zz_i 0)))]) H := hP
          have hD : va_D A ([(h, .inr (3, [.int (zz_i 0), .int (zz_i (t)), .int (zz_i (r)), .int (zz_i 0), .int (zz_i (60)), .ref (q1), .ref (q2), .int (zz_i 0), .ref (q3), .ref (q4), .ref (q5), .ref (q6), .ref (q7), .ref (q8), .int (zz_i 0), .ref (q9), .ref (q10), .ref (q11), .ref (q12), .int (zz_i 0), .int (zz_i 0), .ref (q13), .ref (q14)])), (q1, .inl (cy 0, 40, .inl (fun _ => zz_i 0))), (q2, .inl (cy 1, 7, .inl (fun _ => zz_i 0))), (q3, .inl (cy 0, 61, .inl (fun _ => zz_i 0))), (q4, .inl (cy 0, 61, .inl (fun _ => zz_i 0))), (q5, .inl (cy 0, 61, .inl (fun _ => zz_i 0))), (q6, .inl (cy 0, 61, .inl (fun _ => zz_i 0))), (q7, .inl (cy 0, 61, .inl (fun _ => zz_i 0))), (q8, .inl (cy 0, 61, .inl (fun _ => zz_i 0))), (q9, .inl (cy 0, 60, .inl (fun _ => zz_i 0))), (q10, .inl (cy 0, 60, .inl (fun _ => zz_i 0))), (q11, .inl (cy 0, 60, .inl (fun _ => zz_i 0))), (q12, .inl (cy 0, 60, .inl (fun _ => zz_i 0))), (q13, .inl (cy 0, 40, .inl (fun _ => zz_i 0))), (q14, .inl (cy 1, 61, .inl (fun _ => zz_i 0)))]) := hD
          have q1 : cl_ 2 40 t = t := by omega
          have q2 : cl_ 0 9 r = r := by omega
          have hP9 := hP.sub (ws' := rk_ cy (fun k => match k with | 0 => h | 1 => q1 | 2 => q2 | 3 => q3 | 4 => q4 | 5 => q5 | 6 => q6 | 7 => q7 | 8 => q8 | 9 => q9 | 10 => q10 | 11 => q11 | 12 => q12 | 13 => q13 | _ => q14) 0 (s_0 t r)) [0, 1, 2, 3, 4, 5, 6, 7, 8, 9, 10, 11, 12, 13, 14] (by rw [show s_0 t r = s_1 (cl_ 2 40 t) (cl_ 0 9 r) from rfl, q1, q2, rk_st]; rfl)
          have hD9 := hD.sub (ws' := rk_ cy (fun k => match k with | 0 => h | 1 => q1 | 2 => q2 | 3 => q3 | 4 => q4 | 5 => q5 | 6 => q6 | 7 => q7 | 8 => q8 | 9 => q9 | 10 => q10 | 11 => q11 | 12 => q12 | 13 => q13 | _ => q14) 0 (s_0 t r)) [0, 1, 2, 3, 4, 5, 6, 7, 8, 9, 10, 11, 12, 13, 14] (by decide) (by rw [show s_0 t r = s_1 (cl_ 2 40 t) (cl_ 0 9 r) from rfl, q1, q2, rk_st]; rfl)
          subst hAe
          refine W.widen (k := 14) (n := 754) (by omega) (by omega) ?_
          exact W.vret hx hb hr (fun t ht hW => ⟨rfl, ⟨(fun k => match k with | 0 => h | 1 => q1 | 2 => q2 | 3 => q3 | 4 => q4 | 5 => q5 | 6 => q6 | 7 => q7 | 8 => q8 | 9 => q9 | 10 => q10 | 11 => q11 | 12 => q12 | 13 => q13 | _ => q14), rfl, by rw [ht]; exact hP9, va_K.moved hW.alike hK, hD9⟩, hS.F ht⟩) hS.2.2 dX3_init_171
        · refine lv_bipush (v := zz_i (9)) hx hb dX3_init_162 (by decide) ?_
          refine lv_goto (tgt := 168) hx hb dX3_init_164 (by decide) ?_
          refine va_putF (D := D) (ci := 3) (v := .int (zz_i (9))) (ty := .int) (C := RX3) (T := TX3) (N := 23) hx hb hts hiX3 tyX3 tyX3_ok nmX3 hown hK hP hD hS 0 rfl rfl 2 (by decide) hf60 (fun _ h9 => h9) rfl hin rfl (by decide +kernel) rfl rfl (Nat.le_of_ble_eq_true rfl) dX3_init_168 (fun H locs hP hD hS => ?_)
          have hP : va_P D zz_cl ([(h, .inr (3, [.int (zz_i 0), .int (zz_i (t)), .int (zz_i (9)), .int (zz_i 0), .int (zz_i (60)), .ref (q1), .ref (q2), .int (zz_i 0), .ref (q3), .ref (q4), .ref (q5), .ref (q6), .ref (q7), .ref (q8), .int (zz_i 0), .ref (q9), .ref (q10), .ref (q11), .ref (q12), .int (zz_i 0), .int (zz_i 0), .ref (q13), .ref (q14)])), (q1, .inl (cy 0, 40, .inl (fun _ => zz_i 0))), (q2, .inl (cy 1, 7, .inl (fun _ => zz_i 0))), (q3, .inl (cy 0, 61, .inl (fun _ => zz_i 0))), (q4, .inl (cy 0, 61, .inl (fun _ => zz_i 0))), (q5, .inl (cy 0, 61, .inl (fun _ => zz_i 0))), (q6, .inl (cy 0, 61, .inl (fun _ => zz_i 0))), (q7, .inl (cy 0, 61, .inl (fun _ => zz_i 0))), (q8, .inl (cy 0, 61, .inl (fun _ => zz_i 0))), (q9, .inl (cy 0, 60, .inl (fun _ => zz_i 0))), (q10, .inl (cy 0, 60, .inl (fun _ => zz_i 0))), (q11, .inl (cy 0, 60, .inl (fun _ => zz_i 0))), (q12, .inl (cy 0, 60, .inl (fun _ => zz_i 0))), (q13, .inl (cy 0, 40, .inl (fun _ => zz_i 0))), (q14, .inl (cy 1, 61, .inl (fun _ => zz_i 0)))]) H := hP
          have hD : va_D A ([(h, .inr (3, [.int (zz_i 0), .int (zz_i (t)), .int (zz_i (9)), .int (zz_i 0), .int (zz_i (60)), .ref (q1), .ref (q2), .int (zz_i 0), .ref (q3), .ref (q4), .ref (q5), .ref (q6), .ref (q7), .ref (q8), .int (zz_i 0), .ref (q9), .ref (q10), .ref (q11), .ref (q12), .int (zz_i 0), .int (zz_i 0), .ref (q13), .ref (q14)])), (q1, .inl (cy 0, 40, .inl (fun _ => zz_i 0))), (q2, .inl (cy 1, 7, .inl (fun _ => zz_i 0))), (q3, .inl (cy 0, 61, .inl (fun _ => zz_i 0))), (q4, .inl (cy 0, 61, .inl (fun _ => zz_i 0))), (q5, .inl (cy 0, 61, .inl (fun _ => zz_i 0))), (q6, .inl (cy 0, 61, .inl (fun _ => zz_i 0))), (q7, .inl (cy 0, 61, .inl (fun _ => zz_i 0))), (q8, .inl (cy 0, 61, .inl (fun _ => zz_i 0))), (q9, .inl (cy 0, 60, .inl (fun _ => zz_i 0))), (q10, .inl (cy 0, 60, .inl (fun _ => zz_i 0))), (q11, .inl (cy 0, 60, .inl (fun _ => zz_i 0))), (q12, .inl (cy 0, 60, .inl (fun _ => zz_i 0))), (q13, .inl (cy 0, 40, .inl (fun _ => zz_i 0))), (q14, .inl (cy 1, 61, .inl (fun _ => zz_i 0)))]) := hD
          have q1 : cl_ 2 40 t = t := by omega
          have q2 : cl_ 0 9 r = (9 : Int) := by omega
          have hP9 := hP.sub (ws' := rk_ cy (fun k => match k with | 0 => h | 1 => q1 | 2 => q2 | 3 => q3 | 4 => q4 | 5 => q5 | 6 => q6 | 7 => q7 | 8 => q8 | 9 => q9 | 10 => q10 | 11 => q11 | 12 => q12 | 13 => q13 | _ => q14) 0 (s_0 t r)) [0, 1, 2, 3, 4, 5, 6, 7, 8, 9, 10, 11, 12, 13, 14] (by rw [show s_0 t r = s_1 (cl_ 2 40 t) (cl_ 0 9 r) from rfl, q1, q2, rk_st]; rfl)
          have hD9 := hD.sub (ws' := rk_ cy (fun k => match k with | 0 => h | 1 => q1 | 2 => q2 | 3 => q3 | 4 => q4 | 5 => q5 | 6 => q6 | 7 => q7 | 8 => q8 | 9 => q9 | 10 => q10 | 11 => q11 | 12 => q12 | 13 => q13 | _ => q14) 0 (s_0 t r)) [0, 1, 2, 3, 4, 5, 6, 7, 8, 9, 10, 11, 12, 13, 14] (by decide) (by rw [show s_0 t r = s_1 (cl_ 2 40 t) (cl_ 0 9 r) from rfl, q1, q2, rk_st]; rfl)
          subst hAe
          refine W.widen (k := 14) (n := 754) (by omega) (by omega) ?_
          exact W.vret hx hb hr (fun t ht hW => ⟨rfl, ⟨(fun k => match k with | 0 => h | 1 => q1 | 2 => q2 | 3 => q3 | 4 => q4 | 5 => q5 | 6 => q6 | 7 => q7 | 8 => q8 | 9 => q9 | 10 => q10 | 11 => q11 | 12 => q12 | 13 => q13 | _ => q14), rfl, by rw [ht]; exact hP9, va_K.moved hW.alike hK, hD9⟩, hS.F ht⟩) hS.2.2 dX3_init_171
      · refine lv_iconst (v := zz_i (0)) hx hb dX3_init_152 rfl ?_
        refine lv_goto (tgt := 168) hx hb dX3_init_153 (by decide) ?_
        refine va_putF (D := D) (ci := 3) (v := .int (zz_i (0))) (ty := .int) (C := RX3) (T := TX3) (N := 23) hx hb hts hiX3 tyX3 tyX3_ok nmX3 hown hK hP hD hS 0 rfl rfl 2 (by decide) hf60 (fun _ h9 => h9) rfl hin rfl (by decide +kernel) rfl rfl (Nat.le_of_ble_eq_true rfl) dX3_init_168 (fun H locs hP hD hS => ?_)
        have hP : va_P D zz_cl ([(h, .inr (3, [.int (zz_i 0), .int (zz_i (t)), .int (zz_i (0)), .int (zz_i 0), .int (zz_i (60)), .ref (q1), .ref (q2), .int (zz_i 0), .ref (q3), .ref (q4), .ref (q5), .ref (q6), .ref (q7), .ref (q8), .int (zz_i 0), .ref (q9), .ref (q10), .ref (q11), .ref (q12), .int (zz_i 0), .int (zz_i 0), .ref (q13), .ref (q14)])), (q1, .inl (cy 0, 40, .inl (fun _ => zz_i 0))), (q2, .inl (cy 1, 7, .inl (fun _ => zz_i 0))), (q3, .inl (cy 0, 61, .inl (fun _ => zz_i 0))), (q4, .inl (cy 0, 61, .inl (fun _ => zz_i 0))), (q5, .inl (cy 0, 61, .inl (fun _ => zz_i 0))), (q6, .inl (cy 0, 61, .inl (fun _ => zz_i 0))), (q7, .inl (cy 0, 61, .inl (fun _ => zz_i 0))), (q8, .inl (cy 0, 61, .inl (fun _ => zz_i 0))), (q9, .inl (cy 0, 60, .inl (fun _ => zz_i 0))), (q10, .inl (cy 0, 60, .inl (fun _ => zz_i 0))), (q11, .inl (cy 0, 60, .inl (fun _ => zz_i 0))), (q12, .inl (cy 0, 60, .inl (fun _ => zz_i 0))), (q13, .inl (cy 0, 40, .inl (fun _ => zz_i 0))), (q14, .inl (cy 1, 61, .inl (fun _ => zz_i 0)))]) H := hP
        have hD : va_D A ([(h, .inr (3, [.int (zz_i 0), .int (zz_i (t)), .int (zz_i (0)), .int (zz_i 0), .int (zz_i (60)), .ref (q1), .ref (q2), .int (zz_i 0), .ref (q3), .ref (q4), .ref (q5), .ref (q6), .ref (q7), .ref (q8), .int (zz_i 0), .ref (q9), .ref (q10), .ref (q11), .ref (q12), .int (zz_i 0), .int (zz_i 0), .ref (q13), .ref (q14)])), (q1, .inl (cy 0, 40, .inl (fun _ => zz_i 0))), (q2, .inl (cy 1, 7, .inl (fun _ => zz_i 0))), (q3, .inl (cy 0, 61, .inl (fun _ => zz_i 0))), (q4, .inl (cy 0, 61, .inl (fun _ => zz_i 0))), (q5, .inl (cy 0, 61, .inl (fun _ => zz_i 0))), (q6, .inl (cy 0, 61, .inl (fun _ => zz_i 0))), (q7, .inl (cy 0, 61, .inl (fun _ => zz_i 0))), (q8, .inl (cy 0, 61, .inl (fun _ => zz_i 0))), (q9, .inl (cy 0, 60, .inl (fun _ => zz_i 0))), (q10, .inl (cy 0, 60, .inl (fun _ => zz_i 0))), (q11, .inl (cy 0, 60, .inl (fun _ => zz_i 0))), (q12, .inl (cy 0, 60, .inl (fun _ => zz_i 0))), (q13, .inl (cy 0, 40, .inl (fun _ => zz_i 0))), (q14, .inl (cy 1, 61, .inl (fun _ => zz_i 0)))]) := hD
        have q1 : cl_ 2 40 t = t := by omega
        have q2 : cl_ 0 9 r = (0 : Int) := by omega
        have hP9 := hP.sub (ws' := rk_ cy (fun k => match k with | 0 => h | 1 => q1 | 2 => q2 | 3 => q3 | 4 => q4 | 5 => q5 | 6 => q6 | 7 => q7 | 8 => q8 | 9 => q9 | 10 => q10 | 11 => q11 | 12 => q12 | 13 => q13 | _ => q14) 0 (s_0 t r)) [0, 1, 2, 3, 4, 5, 6, 7, 8, 9, 10, 11, 12, 13, 14] (by rw [show s_0 t r = s_1 (cl_ 2 40 t) (cl_ 0 9 r) from rfl, q1, q2, rk_st]; rfl)
        have hD9 := hD.sub (ws' := rk_ cy (fun k => match k with | 0 => h | 1 => q1 | 2 => q2 | 3 => q3 | 4 => q4 | 5 => q5 | 6 => q6 | 7 => q7 | 8 => q8 | 9 => q9 | 10 => q10 | 11 => q11 | 12 => q12 | 13 => q13 | _ => q14) 0 (s_0 t r)) [0, 1, 2, 3, 4, 5, 6, 7, 8, 9, 10, 11, 12, 13, 14] (by decide) (by rw [show s_0 t r = s_1 (cl_ 2 40 t) (cl_ 0 9 r) from rfl, q1, q2, rk_st]; rfl)
        subst hAe
        refine W.widen (k := 14) (n := 754) (by omega) (by omega) ?_
        exact W.vret hx hb hr (fun t ht hW => ⟨rfl, ⟨(fun k => match k with | 0 => h | 1 => q1 | 2 => q2 | 3 => q3 | 4 => q4 | 5 => q5 | 6 => q6 | 7 => q7 | 8 => q8 | 9 => q9 | 10 => q10 | 11 => q11 | 12 => q12 | 13 => q13 | _ => q14), rfl, by rw [ht]; exact hP9, va_K.moved hW.alike hK, hD9⟩, hS.F ht⟩) hS.2.2 dX3_init_171
    · refine lv_bipush (v := zz_i (40)) hx hb dX3_init_138 (by decide) ?_
      refine lv_goto (tgt := 144) hx hb dX3_init_140 (by decide) ?_
      refine va_putF (D := D) (ci := 3) (v := .int (zz_i (40))) (ty := .int) (C := RX3) (T := TX3) (N := 23) hx hb hts hiX3 tyX3 tyX3_ok nmX3 hown hK hP hD hS 0 rfl rfl 1 (by decide) hf57 (fun _ h9 => h9) rfl hin rfl (by decide +kernel) rfl rfl (Nat.le_of_ble_eq_true rfl) dX3_init_144 (fun H locs hP hD hS => ?_)
      have hP : va_P D zz_cl ([(h, .inr (3, [.int (zz_i 0), .int (zz_i (40)), .int (zz_i 0), .int (zz_i 0), .int (zz_i (60)), .ref (q1), .ref (q2), .int (zz_i 0), .ref (q3), .ref (q4), .ref (q5), .ref (q6), .ref (q7), .ref (q8), .int (zz_i 0), .ref (q9), .ref (q10), .ref (q11), .ref (q12), .int (zz_i 0), .int (zz_i 0), .ref (q13), .ref (q14)])), (q1, .inl (cy 0, 40, .inl (fun _ => zz_i 0))), (q2, .inl (cy 1, 7, .inl (fun _ => zz_i 0))), (q3, .inl (cy 0, 61, .inl (fun _ => zz_i 0))), (q4, .inl (cy 0, 61, .inl (fun _ => zz_i 0))), (q5, .inl (cy 0, 61, .inl (fun _ => zz_i 0))), (q6, .inl (cy 0, 61, .inl (fun _ => zz_i 0))), (q7, .inl (cy 0, 61, .inl (fun _ => zz_i 0))), (q8, .inl (cy 0, 61, .inl (fun _ => zz_i 0))), (q9, .inl (cy 0, 60, .inl (fun _ => zz_i 0))), (q10, .inl (cy 0, 60, .inl (fun _ => zz_i 0))), (q11, .inl (cy 0, 60, .inl (fun _ => zz_i 0))), (q12, .inl (cy 0, 60, .inl (fun _ => zz_i 0))), (q13, .inl (cy 0, 40, .inl (fun _ => zz_i 0))), (q14, .inl (cy 1, 61, .inl (fun _ => zz_i 0)))]) H := hP
      have hD : va_D A ([(h, .inr (3, [.int (zz_i 0), .int (zz_i (40)), .int (zz_i 0), .int (zz_i 0), .int (zz_i (60)), .ref (q1), .ref (q2), .int (zz_i 0), .ref (q3), .ref (q4), .ref (q5), .ref (q6), .ref (q7), .ref (q8), .int (zz_i 0), .ref (q9), .ref (q10), .ref (q11), .ref (q12), .int (zz_i 0), .int (zz_i 0), .ref (q13), .ref (q14)])), (q1, .inl (cy 0, 40, .inl (fun _ => zz_i 0))), (q2, .inl (cy 1, 7, .inl (fun _ => zz_i 0))), (q3, .inl (cy 0, 61, .inl (fun _ => zz_i 0))), (q4, .inl (cy 0, 61, .inl (fun _ => zz_i 0))), (q5, .inl (cy 0, 61, .inl (fun _ => zz_i 0))), (q6, .inl (cy 0, 61, .inl (fun _ => zz_i 0))), (q7, .inl (cy 0, 61, .inl (fun _ => zz_i 0))), (q8, .inl (cy 0, 61, .inl (fun _ => zz_i 0))), (q9, .inl (cy 0, 60, .inl (fun _ => zz_i 0))), (q10, .inl (cy 0, 60, .inl (fun _ => zz_i 0))), (q11, .inl (cy 0, 60, .inl (fun _ => zz_i 0))), (q12, .inl (cy 0, 60, .inl (fun _ => zz_i 0))), (q13, .inl (cy 0, 40, .inl (fun _ => zz_i 0))), (q14, .inl (cy 1, 61, .inl (fun _ => zz_i 0)))]) := hD
      refine lv_aload_n hx hb dX3_init_147 rfl (lv_at hl 0 rfl) ?_
      refine lv_iload_n hx hb dX3_init_148 rfl (lv_at hl 2 rfl) ?_
      refine zz_if_ge (tgt := 156) hx hb dX3_init_149 (by decide) (by omega) (fun c19 => ?_) (fun c19 => ?_)
      · refine lv_iload_n hx hb dX3_init_156 rfl (lv_at hl 2 rfl) ?_
        refine lv_bipush (v := zz_i (9)) hx hb dX3_init_157 (by decide) ?_
        refine zz_icmp_le (tgt := 167) hx hb dX3_init_159 (by decide) (by omega) (by omega) (fun c20 => ?_) (fun c20 => ?_)
        · refine lv_iload_n hx hb dX3_init_167 rfl (lv_at hl 2 rfl) ?_
          refine va_putF (D := D) (ci := 3) (v := .int (zz_i (r))) (ty := .int) (C := RX3) (T := TX3) (N := 23) hx hb hts hiX3 tyX3 tyX3_ok nmX3 hown hK hP hD hS 0 rfl rfl 2 (by decide) hf60 (fun _ h9 => h9) rfl hin rfl (by decide +kernel) rfl rfl (Nat.le_of_ble_eq_true rfl) dX3_init_168 (fun H locs hP hD hS => ?_)
          have hP : va_P D zz_cl ([(h, .inr (3, [.int (zz_i 0), .int (zz_i (40)), .int (zz_i (r)), .int (zz_i 0), .int (zz_i (60)), .ref (q1), .ref (q2), .int (zz_i 0), .ref (q3), .ref (q4), .ref (q5), .ref (q6), .ref (q7), .ref (q8), .int (zz_i 0), .ref (q9), .ref (q10), .ref (q11), .ref (q12), .int (zz_i 0), .int (zz_i 0), .ref (q13), .ref (q14)])), (q1, .inl (cy 0, 40, .inl (fun _ => zz_i 0))), (q2, .inl (cy 1, 7, .inl (fun _ => zz_i 0))), (q3, .inl (cy 0, 61, .inl (fun _ => zz_i 0))), (q4, .inl (cy 0, 61, .inl (fun _ => zz_i 0))), (q5, .inl (cy 0, 61, .inl (fun _ => zz_i 0))), (q6, .inl (cy 0, 61, .inl (fun _ => zz_i 0))), (q7, .inl (cy 0, 61, .inl (fun _ => zz_i 0))), (q8, .inl (cy 0, 61, .inl (fun _ => zz_i 0))), (q9, .inl (cy 0, 60, .inl (fun _ => zz_i 0))), (q10, .inl (cy 0, 60, .inl (fun _ => zz_i 0))), (q11, .inl (cy 0, 60, .inl (fun _ => zz_i 0))), (q12, .inl (cy 0, 60, .inl (fun _ => zz_i 0))), (q13, .inl (cy 0, 40, .inl (fun _ => zz_i 0))), (q14, .inl (cy 1, 61, .inl (fun _ => zz_i 0)))]) H := hP
          have hD : va_D A ([(h, .inr (3, [.int (zz_i 0), .int (zz_i (40)), .int (zz_i (r)), .int (zz_i 0), .int (zz_i (60)), .ref (q1), .ref (q2), .int (zz_i 0), .ref (q3), .ref (q4), .ref (q5), .ref (q6), .ref (q7), .ref (q8), .int (zz_i 0), .ref (q9), .ref (q10), .ref (q11), .ref (q12), .int (zz_i 0), .int (zz_i 0), .ref (q13), .ref (q14)])), (q1, .inl (cy 0, 40, .inl (fun _ => zz_i 0))), (q2, .inl (cy 1, 7, .inl (fun _ => zz_i 0))), (q3, .inl (cy 0, 61, .inl (fun _ => zz_i 0))), (q4, .inl (cy 0, 61, .inl (fun _ => zz_i 0))), (q5, .inl (cy 0, 61, .inl (fun _ => zz_i 0))), (q6, .inl (cy 0, 61, .inl (fun _ => zz_i 0))), (q7, .inl (cy 0, 61, .inl (fun _ => zz_i 0))), (q8, .inl (cy 0, 61, .inl (fun _ => zz_i 0))), (q9, .inl (cy 0, 60, .inl (fun _ => zz_i 0))), (q10, .inl (cy 0, 60, .inl (fun _ => zz_i 0))), (q11, .inl (cy 0, 60, .inl (fun _ => zz_i 0))), (q12, .inl (cy 0, 60, .inl (fun _ => zz_i 0))), (q13, .inl (cy 0, 40, .inl (fun _ => zz_i 0))), (q14, .inl (cy 1, 61, .inl (fun _ => zz_i 0)))]) := hD
          have q1 : cl_ 2 40 t = (40 : Int) := by omega
          have q2 : cl_ 0 9 r = r := by omega
          have hP9 := hP.sub (ws' := rk_ cy (fun k => match k with | 0 => h | 1 => q1 | 2 => q2 | 3 => q3 | 4 => q4 | 5 => q5 | 6 => q6 | 7 => q7 | 8 => q8 | 9 => q9 | 10 => q10 | 11 => q11 | 12 => q12 | 13 => q13 | _ => q14) 0 (s_0 t r)) [0, 1, 2, 3, 4, 5, 6, 7, 8, 9, 10, 11, 12, 13, 14] (by rw [show s_0 t r = s_1 (cl_ 2 40 t) (cl_ 0 9 r) from rfl, q1, q2, rk_st]; rfl)
          have hD9 := hD.sub (ws' := rk_ cy (fun k => match k with | 0 => h | 1 => q1 | 2 => q2 | 3 => q3 | 4 => q4 | 5 => q5 | 6 => q6 | 7 => q7 | 8 => q8 | 9 => q9 | 10 => q10 | 11 => q11 | 12 => q12 | 13 => q13 | _ => q14) 0 (s_0 t r)) [0, 1, 2, 3, 4, 5, 6, 7, 8, 9, 10, 11, 12, 13, 14] (by decide) (by rw [show s_0 t r = s_1 (cl_ 2 40 t) (cl_ 0 9 r) from rfl, q1, q2, rk_st]; rfl)
          subst hAe
          refine W.widen (k := 14) (n := 754) (by omega) (by omega) ?_
          exact W.vret hx hb hr (fun t ht hW => ⟨rfl, ⟨(fun k => match k with | 0 => h | 1 => q1 | 2 => q2 | 3 => q3 | 4 => q4 | 5 => q5 | 6 => q6 | 7 => q7 | 8 => q8 | 9 => q9 | 10 => q10 | 11 => q11 | 12 => q12 | 13 => q13 | _ => q14), rfl, by rw [ht]; exact hP9, va_K.moved hW.alike hK, hD9⟩, hS.F ht⟩) hS.2.2 dX3_init_171
        · refine lv_bipush (v := zz_i (9)) hx hb dX3_init_162 (by decide) ?_
          refine lv_goto (tgt := 168) hx hb dX3_init_164 (by decide) ?_
          refine va_putF (D := D) (ci := 3) (v := .int (zz_i (9))) (ty := .int) (C := RX3) (T := TX3) (N := 23) hx hb hts hiX3 tyX3 tyX3_ok nmX3 hown hK hP hD hS 0 rfl rfl 2 (by decide) hf60 (fun _ h9 => h9) rfl hin rfl (by decide +kernel) rfl rfl (Nat.le_of_ble_eq_true rfl) dX3_init_168 (fun H locs hP hD hS => ?_)
          have hP : va_P D zz_cl ([(h, .inr (3, [.int (zz_i 0), .int (zz_i (40)), .int (zz_i (9)), .int (zz_i 0), .int (zz_i (60)), .ref (q1), .ref (q2), .int (zz_i 0), .ref (q3), .ref (q4), .ref (q5), .ref (q6), .ref (q7), .ref (q8), .int (zz_i 0), .ref (q9), .ref (q10), .ref (q11), .ref (q12), .int (zz_i 0), .int (zz_i 0), .ref (q13), .ref (q14)])), (q1, .inl (cy 0, 40, .inl (fun _ => zz_i 0))), (q2, .inl (cy 1, 7, .inl (fun _ => zz_i 0))), (q3, .inl (cy 0, 61, .inl (fun _ => zz_i 0))), (q4, .inl (cy 0, 61, .inl (fun _ => zz_i 0))), (q5, .inl (cy 0, 61, .inl (fun _ => zz_i 0))), (q6, .inl (cy 0, 61, .inl (fun _ => zz_i 0))), (q7, .inl (cy 0, 61, .inl (fun _ => zz_i 0))), (q8, .inl (cy 0, 61, .inl (fun _ => zz_i 0))), (q9, .inl (cy 0, 60, .inl (fun _ => zz_i 0))), (q10, .inl (cy 0, 60, .inl (fun _ => zz_i 0))), (q11, .inl (cy 0, 60, .inl (fun _ => zz_i 0))), (q12, .inl (cy 0, 60, .inl (fun _ => zz_i 0))), (q13, .inl (cy 0, 40, .inl (fun _ => zz_i 0))), (q14, .inl (cy 1, 61, .inl (fun _ => zz_i 0)))]) H := hP
          have hD : va_D A ([(h, .inr (3, [.int (zz_i 0), .int (zz_i (40)), .int (zz_i (9)), .int (zz_i 0), .int (zz_i (60)), .ref (q1), .ref (q2), .int (zz_i 0), .ref (q3), .ref (q4), .ref (q5), .ref (q6), .ref (q7), .ref (q8), .int (zz_i 0), .ref (q9), .ref (q10), .ref (q11), .ref (q12), .int (zz_i 0), .int (zz_i 0), .ref (q13), .ref (q14)])), (q1, .inl (cy 0, 40, .inl (fun _ => zz_i 0))), (q2, .inl (cy 1, 7, .inl (fun _ => zz_i 0))), (q3, .inl (cy 0, 61, .inl (fun _ => zz_i 0))), (q4, .inl (cy 0, 61, .inl (fun _ => zz_i 0))), (q5, .inl (cy 0, 61, .inl (fun _ => zz_i 0))), (q6, .inl (cy 0, 61, .inl (fun _ => zz_i 0))), (q7, .inl (cy 0, 61, .inl (fun _ => zz_i 0))), (q8, .inl (cy 0, 61, .inl (fun _ => zz_i 0))), (q9, .inl (cy 0, 60, .inl (fun _ => zz_i 0))), (q10, .inl (cy 0, 60, .inl (fun _ => zz_i 0))), (q11, .inl (cy 0, 60, .inl (fun _ => zz_i 0))), (q12, .inl (cy 0, 60, .inl (fun _ => zz_i 0))), (q13, .inl (cy 0, 40, .inl (fun _ => zz_i 0))), (q14, .inl (cy 1, 61, .inl (fun _ => zz_i 0)))]) := hD
          have q1 : cl_ 2 40 t = (40 : Int) := by omega
          have q2 : cl_ 0 9 r = (9 : Int) := by omega
          have hP9 := hP.sub (ws' := rk_ cy (fun k => match k with | 0 => h | 1 => q1 | 2 => q2 | 3 => q3 | 4 => q4 | 5 => q5 | 6 => q6 | 7 => q7 | 8 => q8 | 9 => q9 | 10 => q10 | 11 => q11 | 12 => q12 | 13 => q13 | _ => q14) 0 (s_0 t r)) [0, 1, 2, 3, 4, 5, 6, 7, 8, 9, 10, 11, 12, 13, 14] (by rw [show s_0 t r = s_1 (cl_ 2 40 t) (cl_ 0 9 r) from rfl, q1, q2, rk_st]; rfl)
          have hD9 := hD.sub (ws' := rk_ cy (fun k => match k with | 0 => h | 1 => q1 | 2 => q2 | 3 => q3 | 4 => q4 | 5 => q5 | 6 => q6 | 7 => q7 | 8 => q8 | 9 => q9 | 10 => q10 | 11 => q11 | 12 => q12 | 13 => q13 | _ => q14) 0 (s_0 t r)) [0, 1, 2, 3, 4, 5, 6, 7, 8, 9, 10, 11, 12, 13, 14] (by decide) (by rw [show s_0 t r = s_1 (cl_ 2 40 t) (cl_ 0 9 r) from rfl, q1, q2, rk_st]; rfl)
          subst hAe
          refine W.widen (k := 14) (n := 754) (by omega) (by omega) ?_
          exact W.vret hx hb hr (fun t ht hW => ⟨rfl, ⟨(fun k => match k with | 0 => h | 1 => q1 | 2 => q2 | 3 => q3 | 4 => q4 | 5 => q5 | 6 => q6 | 7 => q7 | 8 => q8 | 9 => q9 | 10 => q10 | 11 => q11 | 12 => q12 | 13 => q13 | _ => q14), rfl, by rw [ht]; exact hP9, va_K.moved hW.alike hK, hD9⟩, hS.F ht⟩) hS.2.2 dX3_init_171
      · refine lv_iconst (v := zz_i (0)) hx hb dX3_init_152 rfl ?_
        refine lv_goto (tgt := 168) hx hb dX3_init_153 (by decide) ?_
        refine va_putF (D := D) (ci := 3) (v := .int (zz_i (0))) (ty := .int) (C := RX3) (T := TX3) (N := 23) hx hb hts hiX3 tyX3 tyX3_ok nmX3 hown hK hP hD hS 0 rfl rfl 2 (by decide) hf60 (fun _ h9 => h9) rfl hin rfl (by decide +kernel) rfl rfl (Nat.le_of_ble_eq_true rfl) dX3_init_168 (fun H locs hP hD hS => ?_)
        have hP : va_P D zz_cl ([(h, .inr (3, [.int (zz_i 0), .int (zz_i (40)), .int (zz_i (0)), .int (zz_i 0), .int (zz_i (60)), .ref (q1), .ref (q2), .int (zz_i 0), .ref (q3), .ref (q4), .ref (q5), .ref (q6), .ref (q7), .ref (q8), .int (zz_i 0), .ref (q9), .ref (q10), .ref (q11), .ref (q12), .int (zz_i 0), .int (zz_i 0), .ref (q13), .ref (q14)])), (q1, .inl (cy 0, 40, .inl (fun _ => zz_i 0))), (q2, .inl (cy 1, 7, .inl (fun _ => zz_i 0))), (q3, .inl (cy 0, 61, .inl (fun _ => zz_i 0))), (q4, .inl (cy 0, 61, .inl (fun _ => zz_i 0))), (q5, .inl (cy 0, 61, .inl (fun _ => zz_i 0))), (q6, .inl (cy 0, 61, .inl (fun _ => zz_i 0))), (q7, .inl (cy 0, 61, .inl (fun _ => zz_i 0))), (q8, .inl (cy 0, 61, .inl (fun _ => zz_i 0))), (q9, .inl (cy 0, 60, .inl (fun _ => zz_i 0))), (q10, .inl (cy 0, 60, .inl (fun _ => zz_i 0))), (q11, .inl (cy 0, 60, .inl (fun _ => zz_i 0))), (q12, .inl (cy 0, 60, .inl (fun _ => zz_i 0))), (q13, .inl (cy 0, 40, .inl (fun _ => zz_i 0))), (q14, .inl (cy 1, 61, .inl (fun _ => zz_i 0)))]) H := hP
        have hD : va_D A ([(h, .inr (3, [.int (zz_i 0), .int (zz_i (40)), .int (zz_i (0)), .int (zz_i 0), .int (zz_i (60)), .ref (q1), .ref (q2), .int (zz_i 0), .ref (q3), .ref (q4), .ref (q5), .ref (q6), .ref (q7), .ref (q8), .int (zz_i 0), .ref (q9), .ref (q10), .ref (q11), .ref (q12), .int (zz_i 0), .int (zz_i 0), .ref (q13), .ref (q14)])), (q1, .inl (cy 0, 40, .inl (fun _ => zz_i 0))), (q2, .inl (cy 1, 7, .inl (fun _ => zz_i 0))), (q3, .inl (cy 0, 61, .inl (fun _ => zz_i 0))), (q4, .inl (cy 0, 61, .inl (fun _ => zz_i 0))), (q5, .inl (cy 0, 61, .inl (fun _ => zz_i 0))), (q6, .inl (cy 0, 61, .inl (fun _ => zz_i 0))), (q7, .inl (cy 0, 61, .inl (fun _ => zz_i 0))), (q8, .inl (cy 0, 61, .inl (fun _ => zz_i 0))), (q9, .inl (cy 0, 60, .inl (fun _ => zz_i 0))), (q10, .inl (cy 0, 60, .inl (fun _ => zz_i 0))), (q11, .inl (cy 0, 60, .inl (fun _ => zz_i 0))), (q12, .inl (cy 0, 60, .inl (fun _ => zz_i 0))), (q13, .inl (cy 0, 40, .inl (fun _ => zz_i 0))), (q14, .inl (cy 1, 61, .inl (fun _ => zz_i 0)))]) := hD
        have q1 : cl_ 2 40 t = (40 : Int) := by omega
        have q2 : cl_ 0 9 r = (0 : Int) := by omega
        have hP9 := hP.sub (ws' := rk_ cy (fun k => match k with | 0 => h | 1 => q1 | 2 => q2 | 3 => q3 | 4 => q4 | 5 => q5 | 6 => q6 | 7 => q7 | 8 => q8 | 9 => q9 | 10 => q10 | 11 => q11 | 12 => q12 | 13 => q13 | _ => q14) 0 (s_0 t r)) [0, 1, 2, 3, 4, 5, 6, 7, 8, 9, 10, 11, 12, 13, 14] (by rw [show s_0 t r = s_1 (cl_ 2 40 t) (cl_ 0 9 r) from rfl, q1, q2, rk_st]; rfl)
        have hD9 := hD.sub (ws' := rk_ cy (fun k => match k with | 0 => h | 1 => q1 | 2 => q2 | 3 => q3 | 4 => q4 | 5 => q5 | 6 => q6 | 7 => q7 | 8 => q8 | 9 => q9 | 10 => q10 | 11 => q11 | 12 => q12 | 13 => q13 | _ => q14) 0 (s_0 t r)) [0, 1, 2, 3, 4, 5, 6, 7, 8, 9, 10, 11, 12, 13, 14] (by decide) (by rw [show s_0 t r = s_1 (cl_ 2 40 t) (cl_ 0 9 r) from rfl, q1, q2, rk_st]; rfl)
        subst hAe
        refine W.widen (k := 14) (n := 754) (by omega) (by omega) ?_
        exact W.vret hx hb hr (fun t ht hW => ⟨rfl, ⟨(fun k => match k with | 0 => h | 1 => q1 | 2 => q2 | 3 => q3 | 4 => q4 | 5 => q5 | 6 => q6 | 7 => q7 | 8 => q8 | 9 => q9 | 10 => q10 | 11 => q11 | 12 => q12 | 13 => q13 | _ => q14), rfl, by rw [ht]; exact hP9, va_K.moved hW.alike hK, hD9⟩, hS.F ht⟩) hS.2.2 dX3_init_171
  · refine lv_iconst (v := zz_i (2)) hx hb dX3_init_128 rfl ?_
    refine lv_goto (tgt := 144) hx hb dX3_init_129 (by decide) ?_
    refine va_putF (D := D) (ci := 3) (v := .int (zz_i (2))) (ty := .int) (C := RX3) (T := TX3) (N := 23) hx hb hts hiX3 tyX3 tyX3_ok nmX3 hown hK hP hD hS 0 rfl rfl 1 (by decide) hf57 (fun _ h9 => h9) rfl hin rfl (by decide +kernel) rfl rfl (Nat.le_of_ble_eq_true rfl) dX3_init_144 (fun H locs hP hD hS => ?_)
    have hP : va_P D zz_cl ([(h, .inr (3, [.int (zz_i 0), .int (zz_i (2)), .int (zz_i 0), .int (zz_i 0), .int (zz_i (60)), .ref (q1), .ref (q2), .int (zz_i 0), .ref (q3), .ref (q4), .ref (q5), .ref (q6), .ref (q7), .ref (q8), .int (zz_i 0), .ref (q9), .ref (q10), .ref (q11), .ref (q12), .int (zz_i 0), .int (zz_i 0), .ref (q13), .ref (q14)])), (q1, .inl (cy 0, 40, .inl (fun _ => zz_i 0))), (q2, .inl (cy 1, 7, .inl (fun _ => zz_i 0))), (q3, .inl (cy 0, 61, .inl (fun _ => zz_i 0))), (q4, .inl (cy 0, 61, .inl (fun _ => zz_i 0))), (q5, .inl (cy 0, 61, .inl (fun _ => zz_i 0))), (q6, .inl (cy 0, 61, .inl (fun _ => zz_i 0))), (q7, .inl (cy 0, 61, .inl (fun _ => zz_i 0))), (q8, .inl (cy 0, 61, .inl (fun _ => zz_i 0))), (q9, .inl (cy 0, 60, .inl (fun _ => zz_i 0))), (q10, .inl (cy 0, 60, .inl (fun _ => zz_i 0))), (q11, .inl (cy 0, 60, .inl (fun _ => zz_i 0))), (q12, .inl (cy 0, 60, .inl (fun _ => zz_i 0))), (q13, .inl (cy 0, 40, .inl (fun _ => zz_i 0))), (q14, .inl (cy 1, 61, .inl (fun _ => zz_i 0)))]) H := hP
    have hD : va_D A ([(h, .inr (3, [.int (zz_i 0), .int (zz_i (2)), .int (zz_i 0), .int (zz_i 0), .int (zz_i (60)), .ref (q1), .ref (q2), .int (zz_i 0), .ref (q3), .ref (q4), .ref (q5), .ref (q6), .ref (q7), .ref (q8), .int (zz_i 0), .ref (q9), .ref (q10), .ref (q11), .ref (q12), .int (zz_i 0), .int (zz_i 0), .ref (q13), .ref (q14)])), (q1, .inl (cy 0, 40, .inl (fun _ => zz_i 0))), (q2, .inl (cy 1, 7, .inl (fun _ => zz_i 0))), (q3, .inl (cy 0, 61, .inl (fun _ => zz_i 0))), (q4, .inl (cy 0, 61, .inl (fun _ => zz_i 0))), (q5, .inl (cy 0, 61, .inl (fun _ => zz_i 0))), (q6, .inl (cy 0, 61, .inl (fun _ => zz_i 0))), (q7, .inl (cy 0, 61, .inl (fun _ => zz_i 0))), (q8, .inl (cy 0, 61, .inl (fun _ => zz_i 0))), (q9, .inl (cy 0, 60, .inl (fun _ => zz_i 0))), (q10, .inl (cy 0, 60, .inl (fun _ => zz_i 0))), (q11, .inl (cy 0, 60, .inl (fun _ => zz_i 0))), (q12, .inl (cy 0, 60, .inl (fun _ => zz_i 0))), (q13, .inl (cy 0, 40, .inl (fun _ => zz_i 0))), (q14, .inl (cy 1, 61, .inl (fun _ => zz_i 0)))]) := hD
    refine lv_aload_n hx hb dX3_init_147 rfl (lv_at hl 0 rfl) ?_
    refine lv_iload_n hx hb dX3_init_148 rfl (lv_at hl 2 rfl) ?_
    refine zz_if_ge (tgt := 156) hx hb dX3_init_149 (by decide) (by omega) (fun c21 => ?_) (fun c21 => ?_)
    · refine lv_iload_n hx hb dX3_init_156 rfl (lv_at hl 2 rfl) ?_
      refine lv_bipush (v := zz_i (9)) hx hb dX3_init_157 (by decide) ?_
      refine zz_icmp_le (tgt := 167) hx hb dX3_init_159 (by decide) (by omega) (by omega) (fun c22 => ?_) (fun c22 => ?_)
      · refine lv_iload_n hx hb dX3_init_167 rfl (lv_at hl 2 rfl) ?_
        refine va_putF (D := D) (ci := 3) (v := .int (zz_i (r))) (ty := .int) (C := RX3) (T := TX3) (N := 23) hx hb hts hiX3 tyX3 tyX3_ok nmX3 hown hK hP hD hS 0 rfl rfl 2 (by decide) hf60 (fun _ h9 => h9) rfl hin rfl (by decide +kernel) rfl rfl (Nat.le_of_ble_eq_true rfl) dX3_init_168 (fun H locs hP hD hS => ?_)
        have hP : va_P D zz_cl ([(h, .inr (3, [.int (zz_i 0), .int (zz_i (2)), .int (zz_i (r)), .int (zz_i 0), .int (zz_i (60)), .ref (q1), .ref (q2), .int (zz_i 0), .ref (q3), .ref (q4), .ref (q5), .ref (q6), .ref (q7), .ref (q8), .int (zz_i 0), .ref (q9), .ref (q10), .ref (q11), .ref (q12), .int (zz_i 0), .int (zz_i 0), .ref (q13), .ref (q14)])), (q1, .inl (cy 0, 40, .inl (fun _ => zz_i 0))), (q2, .inl (cy 1, 7, .inl (fun _ => zz_i 0))), (q3, .inl (cy 0, 61, .inl (fun _ => zz_i 0))), (q4, .inl (cy 0, 61, .inl (fun _ => zz_i 0))), (q5, .inl (cy 0, 61, .inl (fun _ => zz_i 0))), (q6, .inl (cy 0, 61, .inl (fun _ => zz_i 0))), (q7, .inl (cy 0, 61, .inl (fun _ => zz_i 0))), (q8, .inl (cy 0, 61, .inl (fun _ => zz_i 0))), (q9, .inl (cy 0, 60, .inl (fun _ => zz_i 0))), (q10, .inl (cy 0, 60, .inl (fun _ => zz_i 0))), (q11, .inl (cy 0, 60, .inl (fun _ => zz_i 0))), (q12, .inl (cy 0, 60, .inl (fun _ => zz_i 0))), (q13, .inl (cy 0, 40, .inl (fun _ => zz_i 0))), (q14, .inl (cy 1, 61, .inl (fun _ => zz_i 0)))]) H := hP
        have hD : va_D A ([(h, .inr (3, [.int (zz_i 0), .int (zz_i (2)), .int (zz_i (r)), .int (zz_i 0), .int (zz_i (60)), .ref (q1), .ref (q2), .int (zz_i 0), .ref (q3), .ref (q4), .ref (q5), .ref (q6), .ref (q7), .ref (q8), .int (zz_i 0), .ref (q9), .ref (q10), .ref (q11), .ref (q12), .int (zz_i 0), .int (zz_i 0), .ref (q13), .ref (q14)])), (q1, .inl (cy 0, 40, .inl (fun _ => zz_i 0))), (q2, .inl (cy 1, 7, .inl (fun _ => zz_i 0))), (q3, .inl (cy 0, 61, .inl (fun _ => zz_i 0))), (q4, .inl (cy 0, 61, .inl (fun _ => zz_i 0))), (q5, .inl (cy 0, 61, .inl (fun _ => zz_i 0))), (q6, .inl (cy 0, 61, .inl (fun _ => zz_i 0))), (q7, .inl (cy 0, 61, .inl (fun _ => zz_i 0))), (q8, .inl (cy 0, 61, .inl (fun _ => zz_i 0))), (q9, .inl (cy 0, 60, .inl (fun _ => zz_i 0))), (q10, .inl (cy 0, 60, .inl (fun _ => zz_i 0))), (q11, .inl (cy 0, 60, .inl (fun _ => zz_i 0))), (q12, .inl (cy 0, 60, .inl (fun _ => zz_i 0))), (q13, .inl (cy 0, 40, .inl (fun _ => zz_i 0))), (q14, .inl (cy 1, 61, .inl (fun _ => zz_i 0)))]) := hD
        have q1 : cl_ 2 40 t = (2 : Int) := by omega
        have q2 : cl_ 0 9 r = r := by omega
        have hP9 := hP.sub (ws' := rk_ cy (fun k => match k with | 0 => h | 1 => q1 | 2 => q2 | 3 => q3 | 4 => q4 | 5 => q5 | 6 => q6 | 7 => q7 | 8 => q8 | 9 => q9 | 10 => q10 | 11 => q11 | 12 => q12 | 13 => q13 | _ => q14) 0 (s_0 t r)) [0, 1, 2, 3, 4, 5, 6, 7, 8, 9, 10, 11, 12, 13, 14] (by rw [show s_0 t r = s_1 (cl_ 2 40 t) (cl_ 0 9 r) from rfl, q1, q2, rk_st]; rfl)
        have hD9 := hD.sub (ws' := rk_ cy (fun k => match k with | 0 => h | 1 => q1 | 2 => q2 | 3 => q3 | 4 => q4 | 5 => q5 | 6 => q6 | 7 => q7 | 8 => q8 | 9 => q9 | 10 => q10 | 11 => q11 | 12 => q12 | 13 => q13 | _ => q14) 0 (s_0 t r)) [0, 1, 2, 3, 4, 5, 6, 7, 8, 9, 10, 11, 12, 13, 14] (by decide) (by rw [show s_0 t r = s_1 (cl_ 2 40 t) (cl_ 0 9 r) from rfl, q1, q2, rk_st]; rfl)
        subst hAe
        refine W.widen (k := 14) (n := 754) (by omega) (by omega) ?_
        exact W.vret hx hb hr (fun t ht hW => ⟨rfl, ⟨(fun k => match k with | 0 => h | 1 => q1 | 2 => q2 | 3 => q3 | 4 => q4 | 5 => q5 | 6 => q6 | 7 => q7 | 8 => q8 | 9 => q9 | 10 => q10 | 11 => q11 | 12 => q12 | 13 => q13 | _ => q14), rfl, by rw [ht]; exact hP9, va_K.moved hW.alike hK, hD9⟩, hS.F ht⟩) hS.2.2 dX3_init_171
      · refine lv_bipush (v := zz_i (9)) hx hb dX3_init_162 (by decide) ?_
        refine lv_goto (tgt := 168) hx hb dX3_init_164 (by decide) ?_
        refine va_putF (D := D) (ci := 3) (v := .int (zz_i (9))) (ty := .int) (C := RX3) (T := TX3) (N := 23) hx hb hts hiX3 tyX3 tyX3_ok nmX3 hown hK hP hD hS 0 rfl rfl 2 (by decide) hf60 (fun _ h9 => h9) rfl hin rfl (by decide +kernel) rfl rfl (Nat.le_of_ble_eq_true rfl) dX3_init_168 (fun H locs hP hD hS => ?_)
        have hP : va_P D zz_cl ([(h, .inr (3, [.int (zz_i 0), .int (zz_i (2)), .int (zz_i (9)), .int (zz_i 0), .int (zz_i (60)), .ref (q1), .ref (q2), .int (zz_i 0), .ref (q3), .ref (q4), .ref (q5), .ref (q6), .ref (q7), .ref (q8), .int (zz_i 0), .ref (q9), .ref (q10), .ref (q11), .ref (q12), .int (zz_i 0), .int (zz_i 0), .ref (q13), .ref (q14)])), (q1, .inl (cy 0, 40, .inl (fun _ => zz_i 0))), (q2, .inl (cy 1, 7, .inl (fun _ => zz_i 0))), (q3, .inl (cy 0, 61, .inl (fun _ => zz_i 0))), (q4, .inl (cy 0, 61, .inl (fun _ => zz_i 0))), (q5, .inl (cy 0, 61, .inl (fun _ => zz_i 0))), (q6, .inl (cy 0, 61, .inl (fun _ => zz_i 0))), (q7, .inl (cy 0, 61, .inl (fun _ => zz_i 0))), (q8, .inl (cy 0, 61, .inl (fun _ => zz_i 0))), (q9, .inl (cy 0, 60, .inl (fun _ => zz_i 0))), (q10, .inl (cy 0, 60, .inl (fun _ => zz_i 0))), (q11, .inl (cy 0, 60, .inl (fun _ => zz_i 0))), (q12, .inl (cy 0, 60, .inl (fun _ => zz_i 0))), (q13, .inl (cy 0, 40, .inl (fun _ => zz_i 0))), (q14, .inl (cy 1, 61, .inl (fun _ => zz_i 0)))]) H := hP
        have hD : va_D A ([(h, .inr (3, [.int (zz_i 0), .int (zz_i (2)), .int (zz_i (9)), .int (zz_i 0), .int (zz_i (60)), .ref (q1), .ref (q2), .int (zz_i 0), .ref (q3), .ref (q4), .ref (q5), .ref (q6), .ref (q7), .ref (q8), .int (zz_i 0), .ref (q9), .ref (q10), .ref (q11), .ref (q12), .int (zz_i 0), .int (zz_i 0), .ref (q13), .ref (q14)])), (q1, .inl (cy 0, 40, .inl (fun _ => zz_i 0))), (q2, .inl (cy 1, 7, .inl (fun _ => zz_i 0))), (q3, .inl (cy 0, 61, .inl (fun _ => zz_i 0))), (q4, .inl (cy 0, 61, .inl (fun _ => zz_i 0))), (q5, .inl (cy 0, 61, .inl (fun _ => zz_i 0))), (q6, .inl (cy 0, 61, .inl (fun _ => zz_i 0))), (q7, .inl (cy 0, 61, .inl (fun _ => zz_i 0))), (q8, .inl (cy 0, 61, .inl (fun _ => zz_i 0))), (q9, .inl (cy 0, 60, .inl (fun _ => zz_i 0))), (q10, .inl (cy 0, 60, .inl (fun _ => zz_i 0))), (q11, .inl (cy 0, 60, .inl (fun _ => zz_i 0))), (q12, .inl (cy 0, 60, .inl (fun _ => zz_i 0))), (q13, .inl (cy 0, 40, .inl (fun _ => zz_i 0))), (q14, .inl (cy 1, 61, .inl (fun _ => zz_i 0)))]) := hD
        have q1 : cl_ 2 40 t = (2 : Int) := by omega
        have q2 : cl_ 0 9 r = (9 : Int) := by omega
        have hP9 := hP.sub (ws' := rk_ cy (fun k => match k with | 0 => h | 1 => q1 | 2 => q2 | 3 => q3 | 4 => q4 | 5 => q5 | 6 => q6 | 7 => q7 | 8 => q8 | 9 => q9 | 10 => q10 | 11 => q11 | 12 => q12 | 13 => q13 | _ => q14) 0 (s_0 t r)) [0, 1, 2, 3, 4, 5, 6, 7, 8, 9, 10, 11, 12, 13, 14] (by rw [show s_0 t r = s_1 (cl_ 2 40 t) (cl_ 0 9 r) from rfl, q1, q2, rk_st]; rfl)
        have hD9 := hD.sub (ws' := rk_ cy (fun k => match k with | 0 => h | 1 => q1 | 2 => q2 | 3 => q3 | 4 => q4 | 5 => q5 | 6 => q6 | 7 => q7 | 8 => q8 | 9 => q9 | 10 => q10 | 11 => q11 | 12 => q12 | 13 => q13 | _ => q14) 0 (s_0 t r)) [0, 1, 2, 3, 4, 5, 6, 7, 8, 9, 10, 11, 12, 13, 14] (by decide) (by rw [show s_0 t r = s_1 (cl_ 2 40 t) (cl_ 0 9 r) from rfl, q1, q2, rk_st]; rfl)
        subst hAe
        refine W.widen (k := 14) (n := 754) (by omega) (by omega) ?_
        exact W.vret hx hb hr (fun t ht hW => ⟨rfl, ⟨(fun k => match k with | 0 => h | 1 => q1 | 2 => q2 | 3 => q3 | 4 => q4 | 5 => q5 | 6 => q6 | 7 => q7 | 8 => q8 | 9 => q9 | 10 => q10 | 11 => q11 | 12 => q12 | 13 => q13 | _ => q14), rfl, by rw [ht]; exact hP9, va_K.moved hW.alike hK, hD9⟩, hS.F ht⟩) hS.2.2 dX3_init_171
    · refine lv_iconst (v := zz_i (0)) hx hb dX3_init_152 rfl ?_
      refine lv_goto (tgt := 168) hx hb dX3_init_153 (by decide) ?_
      refine va_putF (D := D) (ci := 3) (v := .int (zz_i (0))) (ty := .int) (C := RX3) (T := TX3) (N := 23) hx hb hts hiX3 tyX3 tyX3_ok nmX3 hown hK hP hD hS 0 rfl rfl 2 (by decide) hf60 (fun _ h9 => h9) rfl hin rfl (by decide +kernel) rfl rfl (Nat.le_of_ble_eq_true rfl) dX3_init_168 (fun H locs hP hD hS => ?_)
      have hP : va_P D zz_cl ([(h, .inr (3, [.int (zz_i 0), .int (zz_i (2)), .int (zz_i (0)), .int (zz_i 0), .int (zz_i (60)), .ref (q1), .ref (q2), .int (zz_i 0), .ref (q3), .ref (q4), .ref (q5), .ref (q6), .ref (q7), .ref (q8), .int (zz_i 0), .ref (q9), .ref (q10), .ref (q11), .ref (q12), .int (zz_i 0), .int (zz_i 0), .ref (q13), .ref (q14)])), (q1, .inl (cy 0, 40, .inl (fun _ => zz_i 0))), (q2, .inl (cy 1, 7, .inl (fun _ => zz_i 0))), (q3, .inl (cy 0, 61, .inl (fun _ => zz_i 0))), (q4, .inl (cy 0, 61, .inl (fun _ => zz_i 0))), (q5, .inl (cy 0, 61, .inl (fun _ => zz_i 0))), (q6, .inl (cy 0, 61, .inl (fun _ => zz_i 0))), (q7, .inl (cy 0, 61, .inl (fun _ => zz_i 0))), (q8, .inl (cy 0, 61, .inl (fun _ => zz_i 0))), (q9, .inl (cy 0, 60, .inl (fun _ => zz_i 0))), (q10, .inl (cy 0, 60, .inl (fun _ => zz_i 0))), (q11, .inl (cy 0, 60, .inl (fun _ => zz_i 0))), (q12, .inl (cy 0, 60, .inl (fun _ => zz_i 0))), (q13, .inl (cy 0, 40, .inl (fun _ => zz_i 0))), (q14, .inl (cy 1, 61, .inl (fun _ => zz_i 0)))]) H := hP
      have hD : va_D A ([(h, .inr (3, [.int (zz_i 0), .int (zz_i (2)), .int (zz_i (0)), .int (zz_i 0), .int (zz_i (60)), .ref (q1), .ref (q2), .int (zz_i 0), .ref (q3), .ref (q4), .ref (q5), .ref (q6), .ref (q7), .ref (q8), .int (zz_i 0), .ref (q9), .ref (q10), .ref (q11), .ref (q12), .int (zz_i 0), .int (zz_i 0), .ref (q13), .ref (q14)])), (q1, .inl (cy 0, 40, .inl (fun _ => zz_i 0))), (q2, .inl (cy 1, 7, .inl (fun _ => zz_i 0))), (q3, .inl (cy 0, 61, .inl (fun _ => zz_i 0))), (q4, .inl (cy 0, 61, .inl (fun _ => zz_i 0))), (q5, .inl (cy 0, 61, .inl (fun _ => zz_i 0))), (q6, .inl (cy 0, 61, .inl (fun _ => zz_i 0))), (q7, .inl (cy 0, 61, .inl (fun _ => zz_i 0))), (q8, .inl (cy 0, 61, .inl (fun _ => zz_i 0))), (q9, .inl (cy 0, 60, .inl (fun _ => zz_i 0))), (q10, .inl (cy 0, 60, .inl (fun _ => zz_i 0))), (q11, .inl (cy 0, 60, .inl (fun _ => zz_i 0))), (q12, .inl (cy 0, 60, .inl (fun _ => zz_i 0))), (q13, .inl (cy 0, 40, .inl (fun _ => zz_i 0))), (q14, .inl (cy 1, 61, .inl (fun _ => zz_i 0)))]) := hD
      have q1 : cl_ 2 40 t = (2 : Int) := by omega
      have q2 : cl_ 0 9 r = (0 : Int) := by omega
      have hP9 := hP.sub (ws' := rk_ cy (fun k => match k with | 0 => h | 1 => q1 | 2 => q2 | 3 => q3 | 4 => q4 | 5 => q5 | 6 => q6 | 7 => q7 | 8 => q8 | 9 => q9 | 10 => q10 | 11 => q11 | 12 => q12 | 13 => q13 | _ => q14) 0 (s_0 t r)) [0, 1, 2, 3, 4, 5, 6, 7, 8, 9, 10, 11, 12, 13, 14] (by rw [show s_0 t r = s_1 (cl_ 2 40 t) (cl_ 0 9 r) from rfl, q1, q2, rk_st]; rfl)
      have hD9 := hD.sub (ws' := rk_ cy (fun k => match k with | 0 => h | 1 => q1 | 2 => q2 | 3 => q3 | 4 => q4 | 5 => q5 | 6 => q6 | 7 => q7 | 8 => q8 | 9 => q9 | 10 => q10 | 11 => q11 | 12 => q12 | 13 => q13 | _ => q14) 0 (s_0 t r)) [0, 1, 2, 3, 4, 5, 6, 7, 8, 9, 10, 11, 12, 13, 14] (by decide) (by rw [show s_0 t r = s_1 (cl_ 2 40 t) (cl_ 0 9 r) from rfl, q1, q2, rk_st]; rfl)
      subst hAe
      refine W.widen (k := 14) (n := 754) (by omega) (by omega) ?_
      exact W.vret hx hb hr (fun t ht hW => ⟨rfl, ⟨(fun k => match k with | 0 => h | 1 => q1 | 2 => q2 | 3 => q3 | 4 => q4 | 5 => q5 | 6 => q6 | 7 => q7 | 8 => q8 | 9 => q9 | 10 => q10 | 11 => q11 | 12 => q12 | 13 => q13 | _ => q14), rfl, by rw [ht]; exact hP9, va_K.moved hW.alike hK, hD9⟩, hS.F ht⟩) hS.2.2 dX3_init_171
end
section
/-! rows for the law: its long cell, its helpers with exception tables, the script's ints -/
section LB
def ow_ (cy : Nat → Nat) (o : Nat) (g : Nat → Int64) : va_W := [(o, .inl (cy 3, 1, .inr (.inl g)))]
def lo_ (a : Int) : Int64 := (zz_i a).toInt64
theorem ow_at (a : va_W) (cy : Nat → Nat) (o : Nat) (g : Nat → Int64) : (a ++ ow_ cy o g)[a.length + 0]? = some (o, .inl (cy 3, 1, .inr (.inl g))) := fr_r rfl
theorem ow_set (a : va_W) (cy : Nat → Nat) (o : Nat) (g g' : Nat → Int64) : (a ++ ow_ cy o g).set (a.length + 0) (o, .inl (cy 3, 1, .inr (.inl g'))) = a ++ ow_ cy o g' := by
  rw [List.set_append_right _ _ (Nat.le_add_right _ _), Nat.add_sub_cancel_left]; rfl
theorem nx_0 {k : Int} {σ σ' : zz_S} (h : k = 0) : nx_ k σ σ' = σ' := if_pos h
theorem nx_n {k : Int} {σ σ' : zz_S} (h : k ≠ 0) : nx_ k σ σ' = σ := if_neg h
theorem an_0 {k v : Int} (h : k = 0) : an_ k v = v := if_pos h
theorem me_ofWH {l : Launch} {y : MethodName} {ws ws' : List Cond} {rm : Room} {Pc : Array Value → State → Prop} {Qc : Array Value → State → Outcome → State → Prop} {mc ms : Nat} {free : Addr → Prop} {cc : ByteArray} {maxL : Nat} {ret : Option FieldType} {hh : List (Nat × Nat × Nat × Nat)}
    (hy : plainName y.cls = true) (hw : ws = Cond.codeWith y cc maxL ret hh :: ws')
    (body : ∀ p e s m args below meth c s₁, BodyLoose p l y (headSpec ws rm) cc maxL ret e s m args below meth c s₁ → c.maxLocals = maxL → Pc args s →
      W p l e (headSpec ws rm).room s m args below meth c s.heap [] 0 0 (MQ below Qc args s mc ms free) (entryFrame m args maxL)) : Met l y ws rm Pc Qc mc ms free := by
  refine MetFree.of_bodyS (code := cc) (maxLocals := maxL) (ret := ret) hy ?_ ?_
  · intro args s m h hn
    obtain ⟨m9, meth, c, hn9, h1, h2, h3, h4, -, h5, h6, -⟩ := Cond.codeWith_spec (atoms_spec (ws := ws) h _ (by rw [hw]; exact List.mem_cons_self))
    cases hn.symm.trans hn9
    exact ⟨meth, c, h1, h2, h3, h4, h5, h6⟩
  · intro p e s m args below meth c s₁ B hml hP _
    have hh0 : s₁.heap = s.heap := by rw [B.state]; rfl
    obtain ⟨t, a1, o, b1, b2, b3⟩ := body p e s m args below meth c s₁ B hml hP s₁ hh0 (Stand.of_body B)
    exact ⟨t, o, a1, b1, b2, b3⟩
variable {p : Program} {l : Launch} {e : Env} {R : Room} {s : State} {m : MethodId} {args : Array Value} {below : List Frame} {meth : Method} {c : Code} {H : Heap} {locs : List Loc} {cells slots : Nat} {Q : State → Prop} {D : va_G} {cy : Nat → Nat} {A : Nat → Prop} {wc wr : va_W} {V : Option Value} {S : Type} {ok : S → Prop} {wd' : S → va_W}
variable {y : MethodName} {bytes cc : ByteArray} {maxL nL mc ms n index pc : Nat} {ret : Option FieldType} {ws : List Cond} {rm : Room} {Ts : List Cond} {own C : String} {b : Nat} {As rest st0 : List Value} {ls : Array Slot} {bad : Prop} {ex : String}
/-- a call on a part of the world, of a method that may throw -/
theorem zf_x (Sx : CallFix p m c cc nL s args Ts own) (hM : vx_Met l y ws rm (ct_P D cy (.ref b :: As) wc H.size) (ct_Q D cy wc H.size V ok wd') (ct_X D cy wc H.size bad ex) mc ms (va_A wc H.size)) (cw : CallW R s args own C index y bytes maxL ret ws rm mc ms n)
    (hK : va_K D zz_cl (zz_ty cy) s) (hP : va_P D zz_cl (wc ++ wr) H) (hD : va_D A (wc ++ wr)) (hS : va_S A s.heap H locs) (hA : ∀ q, s.heap.size ≤ q → A q) (hE : ev_ok A s) (hrc : ∃ cellB : Cell, H[b]? = some cellB ∧ cellB.vm.isStatics = false ∧ s.vm.findClass C = some cellB.cls)
    (hn : As.length = n) (hl : ls.size = nL) (hst : st0 = As.reverse ++ .ref b :: rest) (hR : (rest.map fun v => v.category).sum ≤ 8) (hdg : decode cc pc = .ok (.invokevirtual index, 3)) (hf : cells + mc ≤ R.cells ∧ slots + ms ≤ R.slots)
    (kx : bad → ∀ (ce : Cell) (q9 : Addr) (H1 : Heap) (locs1 : List Loc), va_P D zz_cl (wc ++ wr) H1 → va_D A (wc ++ wr) → va_S A s.heap H1 locs1 → H1[q9]? = some ce → ce.vm = .none → s.vm.findClass ex = some ce.cls → vx_W p l e R s m args below meth c H1 locs1 (cells + mc) (slots + ms) Q (F0 m pc ls rest) q9)
    (kk : ∀ (u : S) (H1 : Heap) (locs1 : List Loc), ok u → va_P D zz_cl (wd' u ++ wr) H1 → va_D A (wd' u ++ wr) → va_S A s.heap H1 locs1 → W p l e R s m args below meth c H1 locs1 (cells + mc) (slots + ms) Q (F0 m (pc + 3) ls (V.toList ++ rest))) : W p l e R s m args below meth c H locs cells slots Q (F0 m pc ls st0) := by
  have hr := vx_runV (g := F0 m pc ls st0) (H := H) (locs := locs) (cells := cells) (slots := slots) (below := below) (meth := meth) (e := e) (As := As) (rest := rest) Sx hM cw ⟨ct_blind, hrc, ct_pre (fr_Pl hP) hK (fr_Dl hD) hS hA hE⟩ rfl hn hl hst (lv_room hR) hdg hf
  intro T hT X
  have hfr := ct_fr (fr_Dl hD) hS hA
  rcases hr T hT X with ⟨v, st₀, t, T', L, h0, X', hL, e1, e2, hq, st⟩ | ⟨q, st₀, t, T', L, E, ce, h0, X', hL, e1, e2, hq, hce, hcv, hcl, st⟩
  · obtain ⟨hv, ⟨u, hu, hP1, hK1, hD1⟩, hF⟩ := hq
    have hv : v = V := Outcome.returned.inj hv
    subst hv
    obtain ⟨k1, k2, k3⟩ := vx_keep h0 e1 hS (fun q _ h => hfr q h) hfr hL hF
    obtain ⟨q1, q2⟩ := fr_join hP hD k2 hfr (by rw [e1]; exact hP1) hD1
    obtain ⟨t2, a1, b1⟩ := kk u T'.heap (locs ++ L) hu q1 q2 k3 T' rfl X'
    exact ⟨t2, st t2 a1, b1⟩
  · obtain ⟨rfl, hbad, ⟨hP1, hK1, hD1⟩, hF⟩ := hq
    obtain ⟨k1, k2, k3⟩ := vx_keep h0 e1 hS (fun q _ h => hfr q h) hfr hL hF
    obtain ⟨q1, q2⟩ := fr_join hP hD k2 hfr (by rw [e1]; exact hP1) hD1
    obtain ⟨t2, a1, b1⟩ := kx hbad ce q T'.heap (locs ++ L) q1 q2 k3 (by rw [e1]; exact hce) hcv hcl T' rfl X'
    exact ⟨t2, st.trans a1, b1⟩
/-- a static call, on a part of the world, of a method with an exception table -/
theorem zf_w {hh : List (Nat × Nat × Nat × Nat)} (Sx : CallFix p m c cc nL s args Ts own) (hM : Met l y ws rm (ct_P D cy As wc H.size) (ct_Q D cy wc H.size V ok wd') mc ms (va_A wc H.size)) (cw : vx_CSW R s args own index y bytes maxL ret hh ws rm mc ms n)
    (hK : va_K D zz_cl (zz_ty cy) s) (hP : va_P D zz_cl (wc ++ wr) H) (hD : va_D A (wc ++ wr)) (hS : va_S A s.heap H locs) (hA : ∀ q, s.heap.size ≤ q → A q) (hE : ev_ok A s)
    (hn : As.length = n) (hl : ls.size = nL) (hst : st0 = As.reverse ++ rest) (hR : (rest.map fun v => v.category).sum ≤ 8) (hdg : decode cc pc = .ok (.invokestatic index, 3)) (hf : cells + mc ≤ R.cells ∧ slots + ms ≤ R.slots)
    (kk : ∀ (u : S) (H1 : Heap) (locs1 : List Loc), ok u → va_P D zz_cl (wd' u ++ wr) H1 → va_D A (wd' u ++ wr) → va_S A s.heap H1 locs1 → W p l e R s m args below meth c H1 locs1 (cells + mc) (slots + ms) Q (F0 m (pc + 3) ls (V.toList ++ rest))) : W p l e R s m args below meth c H locs cells slots Q (F0 m pc ls st0) :=
  zf_back (vx_runSW (As := As) (rest := rest) Sx hM cw ⟨ct_blind, ct_pre (fr_Pl hP) hK (fr_Dl hD) hS hA hE⟩ rfl hn hl hst (lv_room hR) hdg hf) (fun _ _ _ h => h) hP hD hS hA kk
theorem zz_last (hx : p.tables.exec = Jvm.exec) (hb : c.code = cc) {o : Nat} {g : Nat → Int64} {v : Int64} {H0 : Heap} (hK : va_K D zz_cl (zz_ty cy) s) (hP : va_P D zz_cl (wc ++ ow_ cy o g) H) (hD : va_D A (wc ++ ow_ cy o g)) (hS : va_S A H0 H locs) (hdg : decode cc pc = .ok (.lastore, 1))
    (kk : ∀ (g' : Nat → Int64) (H1 : Heap) (locs1 : List Loc), g' 0 = v → va_P D zz_cl (wc ++ ow_ cy o g') H1 → va_D A (wc ++ ow_ cy o g') → va_S A H0 H1 locs1 → W p l e R s m args below meth c H1 locs1 cells slots Q (F0 m (pc + 1) ls rest)) : W p l e R s m args below meth c H locs cells slots Q (F0 m pc ls (.long v :: .int (zz_i 0) :: .ref o :: rest)) :=
  va_last hx hb hK hP hD hS _ 3 (ow_at wc cy o g) rfl (zz_in (n := 1) (show 0 ≤ (0 : Int) ∧ (0 : Int) < ((1 : Nat) : Int) by omega) (by omega)) hdg (fun H1 locs1 h1 h2 h3 => kk _ H1 locs1 (by rw [zz_nat (a := 0) (by omega)]; simp [vp_updL]) (by rw [ow_set] at h1; exact h1) (by rw [ow_set] at h2; exact h2) h3)
theorem zz_lald (hx : p.tables.exec = Jvm.exec) (hb : c.code = cc) {o : Nat} {g : Nat → Int64} {w9 : va_W} (q0 : Nat) (hw : w9[q0]? = some (o, .inl (cy 3, 1, .inr (.inl g)))) (hK : va_K D zz_cl (zz_ty cy) s) (hP : va_P D zz_cl w9 H) (hdg : decode cc pc = .ok (.laload, 1))
    (kk : W p l e R s m args below meth c H locs cells slots Q (F0 m (pc + 1) ls (.long (g 0) :: rest))) : W p l e R s m args below meth c H locs cells slots Q (F0 m pc ls (.int (zz_i 0) :: .ref o :: rest)) :=
  va_lald hx hb hK hP q0 3 hw rfl (zz_in (n := 1) (show 0 ≤ (0 : Int) ∧ (0 : Int) < ((1 : Nat) : Int) by omega) (by omega)) hdg (by rw [zz_nat (a := 0) (by omega)]; exact kk)
theorem lv_lcmpE (hx : p.tables.exec = Jvm.exec) (hb : c.code = cc) {a b : Int64} (hab : a = b) (hdg : decode cc pc = .ok (.lcmp, 1)) (kk : W p l e R s m args below meth c H locs cells slots Q (F0 m (pc + 1) ls (.int (zz_i 0) :: rest))) : W p l e R s m args below meth c H locs cells slots Q (F0 m pc ls (.long b :: .long a :: rest)) := by
  subst hab
  intro T hT X
  obtain ⟨t, a1, b1⟩ := kk T hT X
  exact ⟨t, X.lcmpEq hx (by rw [hb]; exact hdg) t a1, b1⟩
/-- a script's int, as an integer -/
theorem zz_sld (hx : p.tables.exec = Jvm.exec) (hb : c.code = cc) {b9 L : Nat} {xs : Nat → Int32} {H0 : Heap} (hX : va_X b9 L xs s H0) (hbl : b9 < H0.size) (hbA : ¬ A b9) (hS : va_S A H0 H locs) {a : Int} (hi : 0 ≤ a ∧ a < L) (hn : L < 2147483648) (hdg : decode cc pc = .ok (.iaload, 1))
    (kk : W p l e R s m args below meth c H locs cells slots Q (F0 m (pc + 1) ls (.int (zz_i (xs a.toNat).toInt) :: rest))) : W p l e R s m args below meth c H locs cells slots Q (F0 m pc ls (.int (zz_i a) :: .ref b9 :: rest)) :=
  va_sld hx hb hX hbl hbA hS (zz_in hi hn) hdg (by rw [zz_nat (by omega), ← zz_self (xs a.toNat)]; exact kk)
theorem zz_an (x : Int32) : ∃ v : Int, (0 ≤ v ∧ v ≤ 15) ∧ x &&& 15 = zz_i v := by
  refine ⟨(x &&& 15).toInt, ?_, (zz_self _).symm⟩
  have h1 : (x &&& 15).toBitVec = x.toBitVec &&& 15#32 := Int32.toBitVec_and x 15
  have h2 : (x &&& 15).toBitVec.toNat ≤ 15 := by
    rw [h1, BitVec.toNat_and]; exact Nat.and_le_right
  have h3 : (x &&& 15).toInt = ((x &&& 15).toBitVec.toNat : Int) := by
    show (x &&& 15).toBitVec.toInt = _
    rw [BitVec.toInt_eq_toNat_of_lt (by omega)]
  omega
end LB
section CE
def sc_ (xs : Nat → Int32) (L : Nat) (k : Int) : Int := if k < L then (xs k.toNat).toInt else 0
theorem sc_b (xs : Nat → Int32) (L : Nat) (k : Int) : -2147483648 ≤ sc_ xs L k ∧ sc_ xs L k < 2147483648 := by
  unfold sc_; split
  · exact zz_bd _
  · omega
set_option maxHeartbeats 4000000 in
set_option maxRecDepth 100000 in
theorem h_cell (l : Launch) (b L : Nat) (xs : Nat → Int32) (hL : L < 2147483648) (k : Int) (hk : 0 ≤ k ∧ k < 2147483648) : Met l yL_cell wsL_cell ({ frames := 0, cells := 0, slots := 0, locals := 0 }) (va_Pc [.ref b, .int (zz_i k)] (fun U => va_X b L xs U U.heap ∧ b < U.heap.size)) (fun _ st o t => o = .returned (some (.int (zz_i (sc_ xs L k)))) ∧ t.heap = st.heap) 0 0 (fun _ => False) := by
  refine Met.ofW (cc := cL_cell) (maxL := 2) (ret := (some .int)) (by decide) rfl ?_
  intro p e s m args below meth c s₁ B hml hv
  obtain ⟨rfl, hX, hbl⟩ := hv
  have hx := B.exec
  have hb := B.bytes
  have hr := B.returns
  have hS : va_S (fun _ => False) s.heap s.heap [] := va_S.rf
  have hl := lv_entry ([.ref b, .int (zz_i k)]) (n := 2) (Nat.le_of_ble_eq_true rfl)
  rw [lg_entry_eq]
  generalize (lg_sl ([.ref b, .int (zz_i k)]) ++ List.replicate (2 - (lg_sl ([.ref b, .int (zz_i k)])).length) Slot.unset).toArray = ls at hl ⊢
  have hl : lv_has ls 2 [(0, .ref b), (1, .int (zz_i k))] := hl
  have hLn : Int32.ofNat L = zz_i (L : Int) := zz_len (a := (L : Int)) (by omega)
  refine lv_iload_n hx hb dL_cell_0 rfl (lv_at hl 1 rfl) ?_
  refine lv_aload_n hx hb dL_cell_1 rfl (lv_at hl 0 rfl) ?_
  refine va_slen hx hb hX hbl (fun h => h) hS dL_cell_2 ?_
  rw [hLn]
  refine zz_icmp_ge (tgt := 12) hx hb dL_cell_3 (by decide) (by omega) (by omega) (fun c1 => ?_) (fun c1 => ?_)
  · refine lv_iconst (v := zz_i (0)) hx hb dL_cell_12 rfl ?_
    have hv9 : sc_ xs L k = 0 := if_neg (by omega)
    exact W.iret (v := zz_i 0) hx hb hr (fun t ht hW => ⟨by rw [hv9], ht⟩) hS.2.2 dL_cell_13
  · refine lv_aload_n hx hb dL_cell_6 rfl (lv_at hl 0 rfl) ?_
    refine lv_iload_n hx hb dL_cell_7 rfl (lv_at hl 1 rfl) ?_
    refine zz_sld hx hb hX hbl (fun h => h) hS (show 0 ≤ k ∧ k < L by omega) hL dL_cell_8 ?_
    refine lv_goto (tgt := 13) hx hb dL_cell_9 (by decide) ?_
    have hv9 : sc_ xs L k = (xs k.toNat).toInt := if_pos (by omega)
    exact W.iret (v := zz_i (xs k.toNat).toInt) hx hb hr (fun t ht hW => ⟨by rw [hv9], ht⟩) hS.2.2 dL_cell_13
variable {p : Program} {l : Launch} {e : Env} {R : Room} {s : State} {m : MethodId} {args : Array Value} {below : List Frame} {meth : Method} {c : Code} {H : Heap} {locs : List Loc} {cells slots : Nat} {Q : State → Prop} {A : Nat → Prop} {cc : ByteArray} {nL index pc : Nat} {ret : Option FieldType} {Ts : List Cond} {own : String} {b L : Nat} {xs : Nat → Int32} {k : Int} {rest st0 : List Value} {ls : Array Slot}
theorem z_cell (hL : L < 2147483648) (hk : 0 ≤ k ∧ k < 2147483648) (Sx : CallFix p m c cc nL s args Ts own) (cw : CallB R s args own index yL_cell cL_cell 2 (some .int) wsL_cell ({ frames := 0, cells := 0, slots := 0, locals := 0 }) 0 0 2 ∧ (Cond.static yL_cell).before args s = true)
    (hX : va_X b L xs s s.heap) (hbl : b < s.heap.size) (hbA : ¬ A b) (hS : va_S A s.heap H locs) (hl : ls.size = nL) (hst : st0 = .int (zz_i k) :: .ref b :: rest) (hR : (rest.map fun v => v.category).sum ≤ 8) (hdg : decode cc pc = .ok (.invokestatic index, 3)) (hf : cells + 0 ≤ R.cells ∧ slots + 0 ≤ R.slots)
    (kk : ∀ locs1 : List Loc, va_S A s.heap H locs1 → W p l e R s m args below meth c H locs1 cells slots Q (F0 m (pc + 3) ls (.int (zz_i (sc_ xs L k)) :: rest))) : W p l e R s m args below meth c H locs cells slots Q (F0 m pc ls st0) := by
  have hr := va_runS (g := F0 m pc ls st0) (H := H) (locs := locs) (cells := cells) (slots := slots) (below := below) (meth := meth) (e := e) (As := [.ref b, .int (zz_i k)]) (rest := rest) Sx (h_cell l b L xs hL k hk) cw
    ⟨fun a U g mk q => ⟨q.1, va_X.moved (u := U) (U := U.calling g mk a) (Vm.Alike.refl U.vm) q.2.1, q.2.2⟩, fun U hU hW => ⟨rfl, by rw [hU]; exact (hX.kept (hS.2.1 b hbl hbA)).moved hW.alike, by rw [hU]; exact Nat.lt_of_lt_of_le hbl hS.1⟩⟩ rfl rfl hl hst (lv_room hR) hdg hf
  intro T hT X
  obtain ⟨v, st₀, t, T', L9, h0, X', hL9, e1, e2, hq, st⟩ := hr T hT X
  obtain ⟨hv, hh⟩ := hq
  have hv : v = some (.int (zz_i (sc_ xs L k))) := Outcome.returned.inj hv
  subst hv
  obtain ⟨t2, a1, b1⟩ := kk (locs ++ L9) ⟨hS.1, hS.2.1, fun q h => by
    rcases List.mem_append.mp h with h | h
    · exact hS.2.2 q h
    · exact (hL9 q h).elim⟩ T' (by rw [e1, hh, h0]) X'
  exact ⟨t2, st t2 a1, b1⟩
end CE
end
section
theorem i_vc : Claimed_1_1 ∧ Claimed_1_2 := sorry
end
